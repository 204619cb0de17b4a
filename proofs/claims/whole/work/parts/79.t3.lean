-- BAKE, the model's loop
def MmH (x0 : Hp) (nr ng b : Nat) (I : Nat → Nat) (B : Nat → Int32) (s0 : Nat × (Nat → Int32) × Nat) : Prop :=
  Sh x0 ∧ (zF x0 717 17 = nI ng ∧ ng ≤ 200) ∧ zA x0 21 = B ∧ nr ≤ 200 ∧ (∀ g, g < ng → I g < nr ∧ zA x0 26 g = nI (I g)) ∧
  s0.1 ≤ 1000000 ∧ FlOk I s0.2.1 ng ∧ (∀ n, n ≤ ng → 0 < (tkN I B b s0 n).1 → (tkN I B b s0 n).2.2 < 200)
def Mm (x0 x : Hp) (I : Nat → Nat) (B : Nat → Int32) (b : Nat) (s0 : Nat × (Nat → Int32) × Nat) (n : Nat) : Prop :=
  (zn x = zn x0 ∧ zK x = zK x0 ∧ zL x = zL x0 ∧ zG x = zG x0 ∧ zJ x = zJ x0 ∧ zR x = zR x0) ∧
  (∀ f, f ≠ 727 → zF x f = zF x0 f) ∧ (∀ c, c ∉ [25, 32, 33] → zA x c = zA x0 c) ∧ zA x 25 = (tkN I B b s0 n).2.1 ∧
  zA x 32 = gvU I B b s0 (zA x0 32) n ∧ zA x 33 = gvV I B b s0 (zA x0 33) n ∧ zF x 727 17 = nI (tkN I B b s0 n).2.2
theorem Mm.sh {x0 x : Hp} {b n : Nat} {I : Nat → Nat} {B : Nat → Int32} {s0 : Nat × (Nat → Int32) × Nat} (h : Mm x0 x I B b s0 n) (hS : Sh x0) : Sh x := by
  obtain ⟨⟨c1, c2, c3, c4, c5, c6⟩, -⟩ := h
  exact hS.fx c1 c2 c3 (fun _ _ _ => by rw [c4])
theorem bk211 {N b nr i k x G c m : Nat} {y : Hp} (hS : Sh y) (hk : k < 200) (e25 : zA y 25 k = nI x) (hx : G ≤ x) (hm : G ≤ m) (e727 : zF y 727 17 = nI c) (hc : c < 200) : fX12_bake_211 N 17 (nI b) (nI m) (nI nr) (nI i) (nI k) (nI G) y = some (.inl (nI (m - G), nI (i + 1), zsF (zsA (zsA (zsA y 25 k (nI (x - G))) 32 c (nI k)) 33 c (nI G)) 727 17 (nI (c + 1)))) := by
  simp only [fX12_bake_211, fX12_bake_264, gdT, brTr, brFa, br_00, br_10, bd_e, bo_s, bp_s, cs_s, cs_n, lf_s, eF_zn, eF_zK, eF_zL, eF_s, eF_n, eF_zG, eF_zA, eF_zJ, eF_zR, eG_zn, eG_zK, eG_zL, eG_zF, eG_s, eG_n, eG_zA, eG_zJ, eG_zR, eA_zn, eA_zK, eA_zL, eA_zF, eA_zG, eA_s, eA_n, eA_zJ, eA_zR, eJ_zn, eJ_zK, eJ_zL, eJ_zF, eJ_zG, eJ_zA, eJ_s, eJ_n, eJ_zR, eR_zn, eR_zK, eR_zL, eR_zF, eR_zG, eR_zA, eR_zJ, eR_s, eR_n, ne_eq, not_false_eq_true, not_true_eq_false, reduceCtorEq, Nat.reduceEqDiff, o17 hS, g715 hS, o25 hS, l25 hS, inb hk (by decide), nI_clamp (show k < 2 ^ 31 by omega), e25, pk_sub hx, pk_sub hm, g725 hS, o32 hS, l32 hS, g726 hS, o33 hS, l33 hS, e727, inb (show c < 600 by omega) (by decide), nI_clamp (show c < 2 ^ 31 by omega), nI_1]
theorem bakeStep {N nr ng b i : Nat} {x0 x : Hp} {I : Nat → Nat} {B : Nat → Int32} {s0 : Nat × (Nat → Int32) × Nat} (H : MmH x0 nr ng b I B s0) (h : Mm x0 x I B b s0 i) (hi : i < ng) (hm : 0 < (tkN I B b s0 i).1) : ∃ x', fX12_bake_143 N 17 (nI b) (nI (tkN I B b s0 i).1) (nI nr) (nI i) x = some (.inl (nI (tkN I B b s0 (i + 1)).1, nI (i + 1), x')) ∧ Mm x0 x' I B b s0 (i + 1) := by
  have hS := h.sh H.1
  obtain ⟨hS0, ⟨e717, hng⟩, hB, hnr, hg, hs1, hfl, hcb⟩ := H
  obtain ⟨⟨c1, c2, c3, c4, c5, c6⟩, cF, cA, c25, cU, cV, c727⟩ := id h
  obtain ⟨g1, g2⟩ := hg i hi
  obtain ⟨v, ex, hx⟩ := tk_fl (B := B) (b := b) hfl i (by omega) i hi
  have hle := tk_le (I := I) (B := B) (b := b) (s0 := s0) i
  have hcc := hcb i (by omega) hm
  have b1 : ¬ nI ng ≤ nI i := nI_ge hi (by omega)
  have b2 : ¬ nI (tkN I B b s0 i).1 ≤ 0 := nI_nle hm (by omega)
  have f717 : zF x 717 17 = nI ng := by rw [cF 717 (by decide)]; exact e717
  have a26 : zA x 26 i = nI (I i) := by rw [cA 26 (by decide)]; exact g2
  have a21 : zA x 21 (I i) = B (I i) := by rw [cA 21 (by decide), hB]
  have a25 : zA x 25 (I i) = nI v := by rw [c25]; exact ex
  by_cases q : tkQ I B b i (tkN I B b s0 i)
  · have hx0 : 0 < v := by
      have := q.2.2
      rw [ex, nI_clamp (by omega)] at this
      exact this
    have eG : tkG I i (tkN I B b s0 i) = if v < (tkN I B b s0 i).1 then v else (tkN I B b s0 i).1 := by
      unfold tkG
      rw [ex, nI_clamp (by omega)]
    have hG1 : tkG I i (tkN I B b s0 i) ≤ v := by rw [eG]; split <;> omega
    have hG2 : tkG I i (tkN I B b s0 i) ≤ (tkN I B b s0 i).1 := by rw [eG]; split <;> omega
    have eT := tkN_y q
    have eU := gvU_y (U := zA x0 32) q
    have eV := gvV_y (U := zA x0 33) q
    rw [ex, nI_clamp (show v < 2 ^ 31 by omega)] at eT
    have b3 : ¬ nI v ≤ 0 := nI_nle hx0 (by omega)
    have qb : B (I i) = nI b := q.2.1
    have h211 := bk211 (N := N) (b := b) (nr := nr) (i := i) (k := I i) (x := v) (G := tkG I i (tkN I B b s0 i)) (c := (tkN I B b s0 i).2.2) (m := (tkN I B b s0 i).1) (y := x) hS (by omega) a25 hG1 hG2 c727 hcc
    refine ⟨zsF (zsA (zsA (zsA x 25 (I i) (nI (v - tkG I i (tkN I B b s0 i)))) 32 (tkN I B b s0 i).2.2 (nI (I i))) 33 (tkN I B b s0 i).2.2 (nI (tkG I i (tkN I B b s0 i)))) 727 17 (nI ((tkN I B b s0 i).2.2 + 1)), ?_, ?_⟩
    · rw [eT]
      by_cases c : v < (tkN I B b s0 i).1
      · have b4 : ¬ nI (tkN I B b s0 i).1 ≤ nI v := nI_ge c (by omega)
        rw [if_pos c] at eG
        rw [eG] at h211 ⊢
        simp only [fX12_bake_143, gdT, brTr, brFa, br_00, br_10, bd_e, bo_s, bp_s, cs_s, cs_n, lf_s, o17 hS, f717, br_n b1, br_n b2, g716 hS, o26 hS, l26 hS, inb (show i < 200 by omega) (by decide), nI_clamp (show i < 2 ^ 31 by omega), a26, g710 hS, o21 hS, l21 hS, inb (show I i < 200 by omega) (by decide), nI_clamp (show I i < 2 ^ 31 by omega), a21, br_y qb, g715 hS, o25 hS, l25 hS, a25, br_n b3, br_n b4, h211]
      · have b4 : nI (tkN I B b s0 i).1 ≤ nI v := nI_le (by omega) (by omega)
        rw [if_neg c] at eG
        rw [eG] at h211 ⊢
        simp only [fX12_bake_143, gdT, brTr, brFa, br_00, br_10, bd_e, bo_s, bp_s, cs_s, cs_n, lf_s, o17 hS, f717, br_n b1, br_n b2, g716 hS, o26 hS, l26 hS, inb (show i < 200 by omega) (by decide), nI_clamp (show i < 2 ^ 31 by omega), a26, g710 hS, o21 hS, l21 hS, inb (show I i < 200 by omega) (by decide), nI_clamp (show I i < 2 ^ 31 by omega), a21, br_y qb, g715 hS, o25 hS, l25 hS, a25, br_n b3, br_y b4, h211]
    · refine ⟨⟨?_, ?_, ?_, ?_, ?_, ?_⟩, fun f hf => ?_, fun c hc => ?_, ?_, ?_, ?_, ?_⟩
      · simp only [eF_zn, eF_zK, eF_zL, eF_s, eF_n, eF_zG, eF_zA, eF_zJ, eF_zR, eG_zn, eG_zK, eG_zL, eG_zF, eG_s, eG_n, eG_zA, eG_zJ, eG_zR, eA_zn, eA_zK, eA_zL, eA_zF, eA_zG, eA_s, eA_n, eA_zJ, eA_zR, eJ_zn, eJ_zK, eJ_zL, eJ_zF, eJ_zG, eJ_zA, eJ_s, eJ_n, eJ_zR, eR_zn, eR_zK, eR_zL, eR_zF, eR_zG, eR_zA, eR_zJ, eR_s, eR_n]; exact c1
      · simp only [eF_zn, eF_zK, eF_zL, eF_s, eF_n, eF_zG, eF_zA, eF_zJ, eF_zR, eG_zn, eG_zK, eG_zL, eG_zF, eG_s, eG_n, eG_zA, eG_zJ, eG_zR, eA_zn, eA_zK, eA_zL, eA_zF, eA_zG, eA_s, eA_n, eA_zJ, eA_zR, eJ_zn, eJ_zK, eJ_zL, eJ_zF, eJ_zG, eJ_zA, eJ_s, eJ_n, eJ_zR, eR_zn, eR_zK, eR_zL, eR_zF, eR_zG, eR_zA, eR_zJ, eR_s, eR_n]; exact c2
      · simp only [eF_zn, eF_zK, eF_zL, eF_s, eF_n, eF_zG, eF_zA, eF_zJ, eF_zR, eG_zn, eG_zK, eG_zL, eG_zF, eG_s, eG_n, eG_zA, eG_zJ, eG_zR, eA_zn, eA_zK, eA_zL, eA_zF, eA_zG, eA_s, eA_n, eA_zJ, eA_zR, eJ_zn, eJ_zK, eJ_zL, eJ_zF, eJ_zG, eJ_zA, eJ_s, eJ_n, eJ_zR, eR_zn, eR_zK, eR_zL, eR_zF, eR_zG, eR_zA, eR_zJ, eR_s, eR_n]; exact c3
      · simp only [eF_zn, eF_zK, eF_zL, eF_s, eF_n, eF_zG, eF_zA, eF_zJ, eF_zR, eG_zn, eG_zK, eG_zL, eG_zF, eG_s, eG_n, eG_zA, eG_zJ, eG_zR, eA_zn, eA_zK, eA_zL, eA_zF, eA_zG, eA_s, eA_n, eA_zJ, eA_zR, eJ_zn, eJ_zK, eJ_zL, eJ_zF, eJ_zG, eJ_zA, eJ_s, eJ_n, eJ_zR, eR_zn, eR_zK, eR_zL, eR_zF, eR_zG, eR_zA, eR_zJ, eR_s, eR_n]; exact c4
      · simp only [eF_zn, eF_zK, eF_zL, eF_s, eF_n, eF_zG, eF_zA, eF_zJ, eF_zR, eG_zn, eG_zK, eG_zL, eG_zF, eG_s, eG_n, eG_zA, eG_zJ, eG_zR, eA_zn, eA_zK, eA_zL, eA_zF, eA_zG, eA_s, eA_n, eA_zJ, eA_zR, eJ_zn, eJ_zK, eJ_zL, eJ_zF, eJ_zG, eJ_zA, eJ_s, eJ_n, eJ_zR, eR_zn, eR_zK, eR_zL, eR_zF, eR_zG, eR_zA, eR_zJ, eR_s, eR_n]; exact c5
      · simp only [eF_zn, eF_zK, eF_zL, eF_s, eF_n, eF_zG, eF_zA, eF_zJ, eF_zR, eG_zn, eG_zK, eG_zL, eG_zF, eG_s, eG_n, eG_zA, eG_zJ, eG_zR, eA_zn, eA_zK, eA_zL, eA_zF, eA_zG, eA_s, eA_n, eA_zJ, eA_zR, eJ_zn, eJ_zK, eJ_zL, eJ_zF, eJ_zG, eJ_zA, eJ_s, eJ_n, eJ_zR, eR_zn, eR_zK, eR_zL, eR_zF, eR_zG, eR_zA, eR_zJ, eR_s, eR_n]; exact c6
      · rw [eF_n _ _ _ _ hf, eA_zF, eA_zF, eA_zF]
        exact cF f hf
      · have q1 : c ≠ 25 := fun e => hc (by rw [e]; decide)
        have q2 : c ≠ 32 := fun e => hc (by rw [e]; decide)
        have q3 : c ≠ 33 := fun e => hc (by rw [e]; decide)
        rw [eF_zA, eA_n _ _ _ _ q3, eA_n _ _ _ _ q2, eA_n _ _ _ _ q1]
        exact cA c hc
      · rw [eT, eF_zA, eA_n _ _ _ _ (by decide), eA_n _ _ _ _ (by decide), eA_s, c25]
      · rw [eU, eF_zA, eA_n _ _ _ _ (by decide), eA_s, eA_n _ _ _ _ (by decide), cU]
      · rw [eV, eF_zA, eA_s, eA_n _ _ _ _ (by decide), eA_n _ _ _ _ (by decide), cV]
      · rw [eT, eF_s, va_up_self]
  · have eT := tkN_n q
    have eU := gvU_n (U := zA x0 32) q
    have eV := gvV_n (U := zA x0 33) q
    refine ⟨x, ?_, ?_⟩
    · rw [eT]
      have b4 : ¬ (B (I i) = nI b ∧ 0 < v) := fun k => q ⟨hm, k.1, by rw [ex, nI_clamp (by omega)]; exact k.2⟩
      by_cases qb : B (I i) = nI b
      · have v0 : v = 0 := by
          rcases Nat.eq_zero_or_pos v with e | e
          · exact e
          · exact absurd ⟨qb, e⟩ b4
        have b3 : nI v ≤ 0 := by rw [v0]; decide
        simp only [fX12_bake_143, fX12_bake_264, gdT, brTr, brFa, br_00, br_10, bd_e, bo_s, bp_s, cs_s, cs_n, lf_s, o17 hS, f717, br_n b1, br_n b2, g716 hS, o26 hS, l26 hS, inb (show i < 200 by omega) (by decide), nI_clamp (show i < 2 ^ 31 by omega), a26, g710 hS, o21 hS, l21 hS, inb (show I i < 200 by omega) (by decide), nI_clamp (show I i < 2 ^ 31 by omega), a21, br_y qb, g715 hS, o25 hS, l25 hS, a25, br_y b3, nI_1]
      · simp only [fX12_bake_143, fX12_bake_264, gdT, brTr, brFa, br_00, br_10, bd_e, bo_s, bp_s, cs_s, cs_n, lf_s, o17 hS, f717, br_n b1, br_n b2, g716 hS, o26 hS, l26 hS, inb (show i < 200 by omega) (by decide), nI_clamp (show i < 2 ^ 31 by omega), a26, g710 hS, o21 hS, l21 hS, inb (show I i < 200 by omega) (by decide), nI_clamp (show I i < 2 ^ 31 by omega), a21, br_n qb, nI_1]
    · unfold Mm at h ⊢
      rw [eT, eU, eV]
      exact h
theorem bakeL {N nr ng b : Nat} {x0 : Hp} {I : Nat → Nat} {B : Nat → Int32} {s0 : Nat × (Nat → Int32) × Nat} {R : Hp → Int32 × Hp} (H : MmH x0 nr ng b I B s0) (hR : ∀ x', Mm x0 x' I B b s0 ng → fX12_bake_270 N 17 (nI b) (nI nr) x' = some (R x')) : ∀ (m i : Nat) (x : Hp) (M : Nat), i + m = ng → m < M → Mm x0 x I B b s0 i → ∃ x', wh (fun (u : Int32 × Int32 × Hp) => fX12_bake_143 N 17 (nI b) u.1 (nI nr) u.2.1 u.2.2) M (nI (tkN I B b s0 i).1, nI i, x) = some (R x') ∧ Mm x0 x' I B b s0 ng := by
  intro m
  induction m with
  | zero =>
    intro i x M hi hM hC
    obtain ⟨M', rfl⟩ : ∃ M', M = M' + 1 := ⟨M - 1, by omega⟩
    have ei : i = ng := by omega
    have hS := hC.sh H.1
    have f717 : zF x 717 17 = nI ng := by rw [hC.2.1 717 (by decide)]; exact H.2.1.1
    have hC' : Mm x0 x I B b s0 ng := by rw [← ei]; exact hC
    refine ⟨x, wh_out ?_, hC'⟩
    rw [ei]
    simp only [fX12_bake_143, gdT, brTr, brFa, br_00, br_10, bd_e, bo_s, bp_s, cs_s, cs_n, lf_s, o17 hS, f717, br_y (Int32.le_refl (nI ng)), hR x hC']
  | succ m ih =>
    intro i x M hi hM hC
    obtain ⟨M', rfl⟩ : ∃ M', M = M' + 1 := ⟨M - 1, by omega⟩
    have hS := hC.sh H.1
    have hng := H.2.1.2
    have f717 : zF x 717 17 = nI ng := by rw [hC.2.1 717 (by decide)]; exact H.2.1.1
    have b1 : ¬ nI ng ≤ nI i := nI_ge (by omega) (by omega)
    rcases Nat.eq_zero_or_pos (tkN I B b s0 i).1 with h0 | h0
    · obtain ⟨e1, e2, e3⟩ := tk_stop h0 (m + 1)
      have hC' : Mm x0 x I B b s0 ng := by
        rw [← hi]
        unfold Mm at hC ⊢
        rw [e1, e2, e3]
        exact hC
      refine ⟨x, wh_out ?_, hC'⟩
      rw [h0]
      simp only [fX12_bake_143, gdT, brTr, brFa, br_00, br_10, bd_e, bo_s, bp_s, cs_s, cs_n, lf_s, o17 hS, f717, br_n b1, br_y (show nI 0 ≤ 0 by decide), hR x hC']
    · obtain ⟨x', q1, q2⟩ := bakeStep (N := N) H hC (by omega) h0
      obtain ⟨x'', q3, q4⟩ := ih (i + 1) x' M' (by omega) (by omega) q2
      refine ⟨x'', ?_, q4⟩
      rw [wh_in (s' := (nI (tkN I B b s0 (i + 1)).1, nI (i + 1), x')) q1]
      exact q3
theorem bk270 {N b nb nr gv c w h : Nat} {y : Hp} (hS : Sh y) (hr : nr < 200) (hb : b < nb) (n8 : nb ≤ 8) (e727 : zF y 727 17 = nI c) (e30 : zA y 30 nr = nI gv) (hgc : gv ≤ c) (e711 : zF y 711 17 = nI nr) (e704 : zF y 704 17 = nI w) (e705 : zF y 705 17 = nI h) : fX12_bake_270 N 17 (nI b) (nI nr) y = some (nI nr, enterM (zsA (zsA y 31 nr (nI (c - gv))) 38 b (nI nr)) nr w h b 2) := by
  have hE := enterM_e (N := N) (s := 2) (b := b) (nr := nr) (w := w) (h := h) (y := zsA (zsA y 31 nr (nI (c - gv))) 38 b (nI nr)) hS.sA.sA e711 hr e704 e705
  simp only [fX12_bake_270, gdT, brTr, brFa, br_00, br_10, bd_e, bo_s, bp_s, cs_s, cs_n, lf_s, eF_zn, eF_zK, eF_zL, eF_s, eF_n, eF_zG, eF_zA, eF_zJ, eF_zR, eG_zn, eG_zK, eG_zL, eG_zF, eG_s, eG_n, eG_zA, eG_zJ, eG_zR, eA_zn, eA_zK, eA_zL, eA_zF, eA_zG, eA_s, eA_n, eA_zJ, eA_zR, eJ_zn, eJ_zK, eJ_zL, eJ_zF, eJ_zG, eJ_zA, eJ_s, eJ_n, eJ_zR, eR_zn, eR_zK, eR_zL, eR_zF, eR_zG, eR_zA, eR_zJ, eR_s, eR_n, ne_eq, not_false_eq_true, not_true_eq_false, reduceCtorEq, Nat.reduceEqDiff, o17 hS, g724 hS, g723 hS, o30 hS, l30 hS, o31 hS, l31 hS, g732 hS, o38 hS, l38 hS, inb hr (by decide), nI_clamp (show nr < 2 ^ 31 by omega), inb (show b < 8 by omega) (by decide), nI_clamp (show b < 2 ^ 31 by omega), e727, e30, pk_sub hgc, hE]
