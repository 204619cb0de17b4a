-- BAKE, the class's loop
def CkH (z0 : Hp) (n0 nr ng gv b : Nat) (I : Nat → Nat) (B : Nat → Int32) (s0 : Nat × (Nat → Int32) × Nat) : Prop :=
  Sh z0 ∧ (zF z0 133 1 = nI ng ∧ ng ≤ 200) ∧ (48 ≤ n0 ∧ n0 < zn z0 ∧ zK z0 n0 = 1 ∧ zF z0 771 n0 = nI b) ∧
  (∀ g, g < ng → I g < nr ∧ zA z0 18 (I g) = 1 ∧ ∃ a, zR z0 3 g = some a ∧ zR z0 2 (I g) = some a) ∧
  (∀ k a, k < nr → zR z0 2 k = some a → zA z0 18 k = 1 → 48 ≤ a ∧ a < zn z0 ∧ zK z0 a = 5 ∧ zF z0 771 a = B k ∧ zF z0 769 a = nI k) ∧
  (∀ k k' a, k < nr → k' < nr → zR z0 2 k = some a → zR z0 2 k' = some a → k = k') ∧
  (s0.1 ≤ 1000000 ∧ s0.2.2 = gv) ∧ FlOk I s0.2.1 ng ∧
  (∀ n, n ≤ ng → 0 < (tkN I B b s0 n).1 → (tkN I B b s0 n).2.2 < 200)
def Ck (z0 z : Hp) (n0 nr gv : Nat) (I : Nat → Nat) (B : Nat → Int32) (b : Nat) (s0 : Nat × (Nat → Int32) × Nat) (n : Nat) : Prop :=
  (zn z = zn z0 ∧ zK z = zK z0 ∧ zL z = zL z0 ∧ zG z = zG z0 ∧ zJ z = zJ z0 ∧ zR z = zR z0) ∧
  (∀ f, f ∉ [327, 134, 72] → zF z f = zF z0 f) ∧ (∀ c, c ∉ [4, 5] → zA z c = zA z0 c) ∧ (∀ a, a ≠ n0 → zF z 72 a = zF z0 72 a) ∧
  (∀ k a, k < nr → zR z0 2 k = some a → zA z0 18 k = 1 → zF z 327 a = (tkN I B b s0 n).2.1 k) ∧
  zA z 4 = gvU I B b s0 (zA z0 4) n ∧ zA z 5 = gvV I B b s0 (zA z0 5) n ∧
  zF z 134 1 = nI (tkN I B b s0 n).2.2 ∧ zF z 72 n0 = nI ((tkN I B b s0 n).2.2 - gv)
theorem noteGift_e {N n0 a c k d : Nat} {v : Int32} {y : Hp} (hS : Sh y) (e134 : zF y 134 1 = nI c) (hc : c < 200) (a1 : a < zn y) (a2 : zK y a = 5) (e769 : zF y 769 a = nI k) (b1 : n0 < zn y) (b2 : zK y n0 = 1) (e72 : zF y 72 n0 = nI d) : fX2_noteGift N 1 n0 a v y = some (zsF (zsF (zsA (zsA y 4 c (nI k)) 5 c v) 134 1 (nI (c + 1))) 72 n0 (nI (d + 1))) := by
  have c1 : ¬ (200 : Int32) ≤ nI c := by rw [show (200 : Int32) = nI 200 from rfl]; exact nI_ge hc (by decide)
  simp only [fX2_noteGift_53, fX2_noteGift, gdT, brTr, brFa, br_00, br_10, bd_e, bo_s, bp_s, cs_s, cs_n, lf_s, eF_zn, eF_zK, eF_zL, eF_s, eF_n, eF_zG, eF_zA, eF_zJ, eF_zR, eG_zn, eG_zK, eG_zL, eG_zF, eG_s, eG_n, eG_zA, eG_zJ, eG_zR, eA_zn, eA_zK, eA_zL, eA_zF, eA_zG, eA_s, eA_n, eA_zJ, eA_zR, eJ_zn, eJ_zK, eJ_zL, eJ_zF, eJ_zG, eJ_zA, eJ_s, eJ_n, eJ_zR, eR_zn, eR_zK, eR_zL, eR_zF, eR_zG, eR_zA, eR_zJ, eR_s, eR_n, ne_eq, not_false_eq_true, not_true_eq_false, reduceCtorEq, Nat.reduceEqDiff, o1 hS, g130 hS, g131 hS, o4 hS, l4 hS, o5 hS, l5 hS, okE a1 a2, okE b1 b2, e134, br_n c1, inb hc (by decide), nI_clamp (show c < 2 ^ 31 by omega), e769, e72, nI_1]
theorem Ck.sh {z0 z : Hp} {n0 nr gv b n : Nat} {I : Nat → Nat} {B : Nat → Int32} {s0 : Nat × (Nat → Int32) × Nat} (h : Ck z0 z n0 nr gv I B b s0 n) (hS : Sh z0) : Sh z := by
  obtain ⟨⟨c1, c2, c3, c4, c5, c6⟩, -⟩ := h
  exact hS.fx c1 c2 c3 (fun _ _ _ => by rw [c4])
theorem takeStep {N n0 nr ng gv b i : Nat} {z0 z : Hp} {I : Nat → Nat} {B : Nat → Int32} {s0 : Nat × (Nat → Int32) × Nat} (H : CkH z0 n0 nr ng gv b I B s0) (h : Ck z0 z n0 nr gv I B b s0 i) (hi : i < ng) (hm : 0 < (tkN I B b s0 i).1) : ∃ z', fX2_takeFlour_20 N 1 n0 (nI (tkN I B b s0 i).1) (nI i) z = some (.inl (nI (tkN I B b s0 (i + 1)).1, nI (i + 1), z')) ∧ Ck z0 z' n0 nr gv I B b s0 (i + 1) := by
  have hS := h.sh H.1
  obtain ⟨hS0, ⟨e133, hng⟩, ⟨w1, w2, w3, w4⟩, hg, hlot, hinj, ⟨hs1, hs2⟩, hfl, hcb⟩ := H
  obtain ⟨⟨c1, c2, c3, c4, c5, c6⟩, cF, cA, c72, c327, cU, cV, c134, c72n⟩ := id h
  obtain ⟨g1, g2, a, g3, g4⟩ := hg i hi
  obtain ⟨lt1, lt2, lt3, lt4, lt5⟩ := hlot (I i) a g1 g4 g2
  obtain ⟨x, ex, hx⟩ := tk_fl (B := B) (b := b) hfl i (by omega) i hi
  have hle := tk_le (I := I) (B := B) (b := b) (s0 := s0) i
  have hcc := hcb i (by omega) hm
  have b1 : ¬ nI ng ≤ nI i := nI_ge hi (by omega)
  have b2 : ¬ nI (tkN I B b s0 i).1 ≤ 0 := nI_nle hm (by omega)
  have r3 : zR z 3 i = some a := by rw [c6]; exact g3
  have k5 : (a < zn z ∧ zK z a = 5) = True := okE (by rw [c1]; exact lt2) (by rw [c2]; exact lt3)
  have k1 : (n0 < zn z ∧ zK z n0 = 1) = True := okE (by rw [c1]; exact w2) (by rw [c2]; exact w3)
  have f133 : zF z 133 1 = nI ng := by rw [cF 133 (by decide)]; exact e133
  have f771 : zF z 771 a = B (I i) := by rw [cF 771 (by decide)]; exact lt4
  have f771n : zF z 771 n0 = nI b := by rw [cF 771 (by decide)]; exact w4
  have f327 : zF z 327 a = nI x := by rw [c327 (I i) a g1 g4 g2]; exact ex
  have hne : a ≠ n0 := fun e => by rw [e, w3] at lt3; exact absurd lt3 (by decide)
  by_cases q : tkQ I B b i (tkN I B b s0 i)
  · have hx0 : 0 < x := by
      have := q.2.2
      rw [ex, nI_clamp (by omega)] at this
      exact this
    have eG : tkG I i (tkN I B b s0 i) = if x < (tkN I B b s0 i).1 then x else (tkN I B b s0 i).1 := by
      unfold tkG
      rw [ex, nI_clamp (by omega)]
    have hG1 : tkG I i (tkN I B b s0 i) ≤ x := by rw [eG]; split <;> omega
    have hG2 : tkG I i (tkN I B b s0 i) ≤ (tkN I B b s0 i).1 := by rw [eG]; split <;> omega
    have eT := tkN_y q
    have eU := gvU_y (U := zA z0 4) q
    have eV := gvV_y (U := zA z0 5) q
    rw [ex, nI_clamp (show x < 2 ^ 31 by omega)] at eT
    have v18 : (if nI x < nI (tkN I B b s0 i).1 then nI x else nI (tkN I B b s0 i).1) = nI (tkG I i (tkN I B b s0 i)) := by
      rw [eG]
      by_cases c : x < (tkN I B b s0 i).1
      · rw [if_pos c, if_pos (nI_lt c (by omega))]
      · rw [if_neg c, if_neg (nI_nlt (by omega) (by omega))]
    have b3 : ¬ nI x ≤ 0 := nI_nle hx0 (by omega)
    have qb : B (I i) = nI b := q.2.1
    rw [eT]
    generalize hG : tkG I i (tkN I B b s0 i) = G at *
    generalize hs : tkN I B b s0 i = s at *
    have hNG := noteGift_e (N := N) (n0 := n0) (a := a) (c := s.2.2) (k := I i) (d := s.2.2 - gv) (v := nI G) (y := zsF z 327 a (nI (x - G))) hS.sF (by rw [eF_n _ _ _ _ (by decide)]; exact c134) hcc (by rw [eF_zn, c1]; exact lt2) (by rw [eF_zK, c2]; exact lt3) (by rw [eF_n _ _ _ _ (by decide), cF 769 (by decide)]; exact lt5) (by rw [eF_zn, c1]; exact w2) (by rw [eF_zK, c2]; exact w3) (by rw [eF_n _ _ _ _ (by decide)]; exact c72n)
    refine ⟨zsF (zsF (zsA (zsA (zsF z 327 a (nI (x - G))) 4 s.2.2 (nI (I i))) 5 s.2.2 (nI G)) 134 1 (nI (s.2.2 + 1))) 72 n0 (nI (s.2.2 - gv + 1)), ?_, ?_⟩
    · simp only [fX2_takeFlour_20, fX2_takeFlour_102, gdT, brTr, brFa, br_00, br_10, bd_e, bo_s, bp_s, cs_s, cs_n, lf_s, o1 hS, f133, br_n b1, br_n b2, g129 hS, o3 hS, l3 hS, inb (show i < 200 by omega) (by decide), nI_clamp (show i < 2 ^ 31 by omega), r3, k5, k1, f771, f771n, br_y qb, f327, br_n b3, v18, pk_sub hG1, pk_sub hG2, hNG, nI_1]
    · refine ⟨⟨?_, ?_, ?_, ?_, ?_, ?_⟩, fun f hf => ?_, fun c hc => ?_, fun a' ha' => ?_, fun k a' hk e1 e2 => ?_, ?_, ?_, ?_, ?_⟩
      · simp only [eF_zn, eF_zK, eF_zL, eF_s, eF_n, eF_zG, eF_zA, eF_zJ, eF_zR, eG_zn, eG_zK, eG_zL, eG_zF, eG_s, eG_n, eG_zA, eG_zJ, eG_zR, eA_zn, eA_zK, eA_zL, eA_zF, eA_zG, eA_s, eA_n, eA_zJ, eA_zR, eJ_zn, eJ_zK, eJ_zL, eJ_zF, eJ_zG, eJ_zA, eJ_s, eJ_n, eJ_zR, eR_zn, eR_zK, eR_zL, eR_zF, eR_zG, eR_zA, eR_zJ, eR_s, eR_n]; exact c1
      · simp only [eF_zn, eF_zK, eF_zL, eF_s, eF_n, eF_zG, eF_zA, eF_zJ, eF_zR, eG_zn, eG_zK, eG_zL, eG_zF, eG_s, eG_n, eG_zA, eG_zJ, eG_zR, eA_zn, eA_zK, eA_zL, eA_zF, eA_zG, eA_s, eA_n, eA_zJ, eA_zR, eJ_zn, eJ_zK, eJ_zL, eJ_zF, eJ_zG, eJ_zA, eJ_s, eJ_n, eJ_zR, eR_zn, eR_zK, eR_zL, eR_zF, eR_zG, eR_zA, eR_zJ, eR_s, eR_n]; exact c2
      · simp only [eF_zn, eF_zK, eF_zL, eF_s, eF_n, eF_zG, eF_zA, eF_zJ, eF_zR, eG_zn, eG_zK, eG_zL, eG_zF, eG_s, eG_n, eG_zA, eG_zJ, eG_zR, eA_zn, eA_zK, eA_zL, eA_zF, eA_zG, eA_s, eA_n, eA_zJ, eA_zR, eJ_zn, eJ_zK, eJ_zL, eJ_zF, eJ_zG, eJ_zA, eJ_s, eJ_n, eJ_zR, eR_zn, eR_zK, eR_zL, eR_zF, eR_zG, eR_zA, eR_zJ, eR_s, eR_n]; exact c3
      · simp only [eF_zn, eF_zK, eF_zL, eF_s, eF_n, eF_zG, eF_zA, eF_zJ, eF_zR, eG_zn, eG_zK, eG_zL, eG_zF, eG_s, eG_n, eG_zA, eG_zJ, eG_zR, eA_zn, eA_zK, eA_zL, eA_zF, eA_zG, eA_s, eA_n, eA_zJ, eA_zR, eJ_zn, eJ_zK, eJ_zL, eJ_zF, eJ_zG, eJ_zA, eJ_s, eJ_n, eJ_zR, eR_zn, eR_zK, eR_zL, eR_zF, eR_zG, eR_zA, eR_zJ, eR_s, eR_n]; exact c4
      · simp only [eF_zn, eF_zK, eF_zL, eF_s, eF_n, eF_zG, eF_zA, eF_zJ, eF_zR, eG_zn, eG_zK, eG_zL, eG_zF, eG_s, eG_n, eG_zA, eG_zJ, eG_zR, eA_zn, eA_zK, eA_zL, eA_zF, eA_zG, eA_s, eA_n, eA_zJ, eA_zR, eJ_zn, eJ_zK, eJ_zL, eJ_zF, eJ_zG, eJ_zA, eJ_s, eJ_n, eJ_zR, eR_zn, eR_zK, eR_zL, eR_zF, eR_zG, eR_zA, eR_zJ, eR_s, eR_n]; exact c5
      · simp only [eF_zn, eF_zK, eF_zL, eF_s, eF_n, eF_zG, eF_zA, eF_zJ, eF_zR, eG_zn, eG_zK, eG_zL, eG_zF, eG_s, eG_n, eG_zA, eG_zJ, eG_zR, eA_zn, eA_zK, eA_zL, eA_zF, eA_zG, eA_s, eA_n, eA_zJ, eA_zR, eJ_zn, eJ_zK, eJ_zL, eJ_zF, eJ_zG, eJ_zA, eJ_s, eJ_n, eJ_zR, eR_zn, eR_zK, eR_zL, eR_zF, eR_zG, eR_zA, eR_zJ, eR_s, eR_n]; exact c6
      · have q1 : f ≠ 327 := fun e => hf (by rw [e]; decide)
        have q2 : f ≠ 134 := fun e => hf (by rw [e]; decide)
        have q3 : f ≠ 72 := fun e => hf (by rw [e]; decide)
        rw [eF_n _ _ _ _ q3, eF_n _ _ _ _ q2, eA_zF, eA_zF, eF_n _ _ _ _ q1]
        exact cF f hf
      · have q1 : c ≠ 4 := fun e => hc (by rw [e]; decide)
        have q2 : c ≠ 5 := fun e => hc (by rw [e]; decide)
        rw [eF_zA, eF_zA, eA_n _ _ _ _ q2, eA_n _ _ _ _ q1, eF_zA]
        exact cA c hc
      · rw [eF_s, va_up_ne _ _ ha', eF_n _ _ _ _ (by decide), eA_zF, eA_zF, eF_n _ _ _ _ (by decide)]
        exact c72 a' ha'
      · rw [eT, eF_n _ _ _ _ (by decide), eF_n _ _ _ _ (by decide), eA_zF, eA_zF, eF_s]
        show va_up (zF z 327) a (nI (x - G)) a' = va_up s.2.1 (I i) (nI (x - G)) k
        by_cases ek : k = I i
        · rw [ek] at e1 ⊢
          rw [g4] at e1
          cases e1
          rw [va_up_self, va_up_self]
        · have hna : a' ≠ a := fun e => ek (hinj k (I i) a hk g1 (by rw [← e]; exact e1) g4)
          rw [va_up_ne _ _ hna, va_up_ne _ _ ek]
          exact c327 k a' hk e1 e2
      · rw [eU, eF_zA, eF_zA, eA_n _ _ _ _ (by decide), eA_s, eF_zA, cU]
      · rw [eV, eF_zA, eF_zA, eA_s, eA_n _ _ _ _ (by decide), eF_zA, cV]
      · rw [eT, eF_n _ _ _ _ (by decide), eF_s, va_up_self]
      · rw [eT, eF_s, va_up_self]
        show nI (s.2.2 - gv + 1) = nI (s.2.2 + 1 - gv)
        exact congrArg nI (by omega)
  · have eT := tkN_n q
    have eU := gvU_n (U := zA z0 4) q
    have eV := gvV_n (U := zA z0 5) q
    refine ⟨z, ?_, ?_⟩
    · rw [eT]
      have b4 : ¬ (B (I i) = nI b ∧ 0 < x) := fun k => q ⟨hm, k.1, by rw [ex, nI_clamp (by omega)]; exact k.2⟩
      by_cases qb : B (I i) = nI b
      · have x0 : x = 0 := by
          rcases Nat.eq_zero_or_pos x with e | e
          · exact e
          · exact absurd ⟨qb, e⟩ b4
        have b3 : nI x ≤ 0 := by rw [x0]; decide
        simp only [fX2_takeFlour_20, fX2_takeFlour_102, gdT, brTr, brFa, br_00, br_10, bd_e, bo_s, bp_s, cs_s, cs_n, lf_s, o1 hS, f133, br_n b1, br_n b2, g129 hS, o3 hS, l3 hS, inb (show i < 200 by omega) (by decide), nI_clamp (show i < 2 ^ 31 by omega), r3, k5, k1, f771, f771n, br_y qb, f327, br_y b3, nI_1]
      · simp only [fX2_takeFlour_20, fX2_takeFlour_102, gdT, brTr, brFa, br_00, br_10, bd_e, bo_s, bp_s, cs_s, cs_n, lf_s, o1 hS, f133, br_n b1, br_n b2, g129 hS, o3 hS, l3 hS, inb (show i < 200 by omega) (by decide), nI_clamp (show i < 2 ^ 31 by omega), r3, k5, k1, f771, f771n, br_n qb, nI_1]
    · unfold Ck at h ⊢
      rw [eT, eU, eV]
      exact h
theorem takeL {N n0 nr ng gv b : Nat} {z0 : Hp} {I : Nat → Nat} {B : Nat → Int32} {s0 : Nat × (Nat → Int32) × Nat} (H : CkH z0 n0 nr ng gv b I B s0) : ∀ (m i : Nat) (z : Hp) (M : Nat), i + m = ng → m < M → Ck z0 z n0 nr gv I B b s0 i → ∃ z', wh (fun (u : Int32 × Int32 × Hp) => fX2_takeFlour_20 N 1 n0 u.1 u.2.1 u.2.2) M (nI (tkN I B b s0 i).1, nI i, z) = some z' ∧ Ck z0 z' n0 nr gv I B b s0 ng := by
  intro m
  induction m with
  | zero =>
    intro i z M hi hM hC
    obtain ⟨M', rfl⟩ : ∃ M', M = M' + 1 := ⟨M - 1, by omega⟩
    have ei : i = ng := by omega
    have hS := hC.sh H.1
    have f133 : zF z 133 1 = nI ng := by rw [hC.2.1 133 (by decide)]; exact H.2.1.1
    refine ⟨z, wh_out ?_, by rw [← ei]; exact hC⟩
    rw [ei]
    simp only [fX2_takeFlour_20, fX2_takeFlour_108, gdT, brTr, brFa, br_00, br_10, bd_e, bo_s, bp_s, cs_s, cs_n, lf_s, o1 hS, f133, br_y (Int32.le_refl (nI ng))]
  | succ m ih =>
    intro i z M hi hM hC
    obtain ⟨M', rfl⟩ : ∃ M', M = M' + 1 := ⟨M - 1, by omega⟩
    have hS := hC.sh H.1
    have hng := H.2.1.2
    have f133 : zF z 133 1 = nI ng := by rw [hC.2.1 133 (by decide)]; exact H.2.1.1
    have b1 : ¬ nI ng ≤ nI i := nI_ge (by omega) (by omega)
    rcases Nat.eq_zero_or_pos (tkN I B b s0 i).1 with h0 | h0
    · obtain ⟨e1, e2, e3⟩ := tk_stop h0 (m + 1)
      refine ⟨z, wh_out ?_, ?_⟩
      · rw [h0]
        simp only [fX2_takeFlour_20, fX2_takeFlour_108, gdT, brTr, brFa, br_00, br_10, bd_e, bo_s, bp_s, cs_s, cs_n, lf_s, o1 hS, f133, br_n b1, br_y (show nI 0 ≤ 0 by decide)]
      · rw [← hi]
        unfold Ck at hC ⊢
        rw [e1, e2, e3]
        exact hC
    · obtain ⟨z', q1, q2⟩ := takeStep (N := N) H hC (by omega) h0
      obtain ⟨z'', q3, q4⟩ := ih (i + 1) z' M' (by omega) (by omega) q2
      refine ⟨z'', ?_, q4⟩
      rw [wh_in (s' := (nI (tkN I B b s0 (i + 1)).1, nI (i + 1), z')) q1]
      exact q3
