-- TURNS
/-- all but the seed -/
def I_sc0 (z : Hp) : Prop :=
  (∃ d, zF z 718 17 = nI d ∧ 2 ≤ d ∧ d ≤ 100) ∧ zF z 648 0 = zF z 718 17 ∧ zF z 651 0 = zF z 719 17 ∧ zF z 649 0 = zF z 744 17 ∧ (∃ d, zF z 744 17 = nI d ∧ d ≤ 5) ∧ zF z 650 0 = zF z 745 17
theorem I_sc0.sF {z : Hp} {f a : Nat} {v : Int32} (h : I_sc0 z) (hf : f ∉ [718, 648, 651, 719, 649, 744, 650, 745]) : I_sc0 (zsF z f a v) := by
  have e : ∀ g, g ∈ [718, 648, 651, 719, 649, 744, 650, 745] → zF (zsF z f a v) g = zF z g := fun g hg => eF_n z f a v (fun q => hf (q ▸ hg))
  simp only [I_sc0] at h ⊢
  simp only [e 718 (by decide), e 648 (by decide), e 651 (by decide), e 719 (by decide), e 649 (by decide), e 744 (by decide), e 650 (by decide), e 745 (by decide)]
  exact h
theorem I_sc0.sA {z : Hp} {f a : Nat} {v : Int32} (h : I_sc0 z) : I_sc0 (zsA z f a v) := h
def Rt (z : Hp) (w h nb nr ng gv nt nh : Nat) : Prop := Sh z ∧ I_sc0 z ∧ I_st z ∧ I_num z w h nb nr ng gv nt nh ∧ I_hv z w nh ∧ I_rec z (168 * w + h) nb nr gv ∧ I_bk z nb nr ∧ I_gr z nr ng ∧ I_gf z nr gv ∧ I_mk z nr ∧ I_tx z nt
theorem Rt.sF {z : Hp} {f a : Nat} {v : Int32} {w h nb nr ng gv nt nh : Nat} (hh : Rt z w h nb nr ng gv nt nh) (hf : f ∈ [577, 578, 579, 741, 742, 743]) : Rt (zsF z f a v) w h nb nr ng gv nt nh := by
  obtain ⟨hS, hsc, hst, hn, hhv, hrec, hbk, hgr, hgf, hmk, htx⟩ := hh
  have dI_sc0 : ∀ f : Nat, f ∈ [577, 578, 579, 741, 742, 743] → f ∉ [718, 648, 651, 719, 649, 744, 650, 745] := by decide
  have dI_st : ∀ f : Nat, f ∈ [577, 578, 579, 741, 742, 743] → f ∉ [746, 747, 748, 749, 195, 196, 197, 198, 199, 750] := by decide
  have dI_num : ∀ f : Nat, f ∈ [577, 578, 579, 741, 742, 743] → f ∉ [704, 705, 647, 706, 646, 711, 132, 717, 133, 727, 134, 739, 257, 753, 194] := by decide
  have dI_rec : ∀ f : Nat, f ∈ [577, 578, 579, 741, 742, 743] → f ∉ [768, 769, 770, 771, 324, 325, 326, 327, 68, 69, 70, 71, 72, 452, 453, 454, 455, 456, 457] := by decide
  have dI_bk : ∀ f : Nat, f ∈ [577, 578, 579, 741, 742, 743] → f ∉ [0, 1, 2, 3, 4, 5, 6] := by decide
  have dI_tx : ∀ f : Nat, f ∈ [577, 578, 579, 741, 742, 743] → f ∉ [512, 513, 514, 518] := by decide
  exact ⟨hS.sF, hsc.sF (dI_sc0 f hf), hst.sF (dI_st f hf), hn.sF (dI_num f hf), hhv.sF, hrec.sF (dI_rec f hf), hbk.sF (dI_bk f hf), hgr.sF, hgf.sF, hmk.sF, htx.sF (dI_tx f hf)⟩
theorem Rt.sA {z : Hp} {f a : Nat} {v : Int32} {w h nb nr ng gv nt nh : Nat} (hh : Rt z w h nb nr ng gv nt nh) (hf : f = 12 ∨ f = 45) : Rt (zsA z f a v) w h nb nr ng gv nt nh := by
  obtain ⟨hS, hsc, hst, hn, hhv, hrec, hbk, hgr, hgf, hmk, htx⟩ := hh
  rcases hf with rfl | rfl
  · exact ⟨hS.sA, hsc.sA, hst.sA, hn.sA, hhv.sA (by decide), hrec.sA (by decide), hbk.sA (by decide), hgr.sA (by decide), hgf.sA (by decide), hmk.sA (by decide), htx.sA (by decide) (by decide)⟩
  · exact ⟨hS.sA, hsc.sA, hst.sA, hn.sA, hhv.sA (by decide), hrec.sA (by decide), hbk.sA (by decide), hgr.sA (by decide), hgf.sA (by decide), hmk.sA (by decide), htx.sA (by decide) (by decide)⟩
/-- reached by writing these fields of fixed cells and these rows alone -/
def Rch (z z' : Hp) (L M : List Nat) : Prop := ∀ P : Hp → Prop, (∀ y f c v, f ∈ L → c < 48 → P y → P (zsF y f c v)) → (∀ y c i v, c ∈ M → P y → P (zsA y c i v)) → P z → P z'
theorem Rch.refl (z : Hp) (L M : List Nat) : Rch z z L M := fun _ _ _ h => h
theorem Rch.sF {z y : Hp} {L M : List Nat} {f c : Nat} {v : Int32} (h : Rch z y L M) (hf : f ∈ L) (hc : c < 48) : Rch z (zsF y f c v) L M := fun P h1 h2 h3 => h1 y f c v hf hc (h P h1 h2 h3)
theorem Rch.sA {z y : Hp} {L M : List Nat} {c i : Nat} {v : Int32} (h : Rch z y L M) (hc : c ∈ M) : Rch z (zsA y c i v) L M := fun P h1 h2 h3 => h2 y c i v hc (h P h1 h2 h3)
theorem Rch.trans {x y z : Hp} {L M : List Nat} (h : Rch x y L M) (h' : Rch y z L M) : Rch x z L M := fun P h1 h2 h3 => h' P h1 h2 (h P h1 h2 h3)
theorem Rch.sh {z z' : Hp} {L M : List Nat} (h : Rch z z' L M) (hS : Sh z) : Sh z' := h Sh (fun _ _ _ _ _ _ q => q.sF) (fun _ _ _ _ _ q => q.sA) hS
theorem Rch.eF {z z' : Hp} {L M : List Nat} (h : Rch z z' L M) {f : Nat} (hf : f ∉ L) : zF z' f = zF z f := h (fun y => zF y f = zF z f) (fun y g c v hg _ q => by rw [eF_n _ _ _ _ (fun e => hf (by rw [e]; exact hg))]; exact q) (fun y c i v _ q => q) rfl
theorem Rch.eA {z z' : Hp} {L M : List Nat} (h : Rch z z' L M) {g : Nat} (hg : g ∉ M) : zA z' g = zA z g := h (fun y => zA y g = zA z g) (fun y f c v _ _ q => q) (fun y c i v hc q => by rw [eA_n _ _ _ _ (fun e => hg (by rw [e]; exact hc))]; exact q) rfl
theorem Rch.eR {z z' : Hp} {L M : List Nat} (h : Rch z z' L M) : zR z' = zR z := h (fun y => zR y = zR z) (fun y f c v _ _ q => q) (fun y c i v hc q => q) rfl
theorem Rch.eJ {z z' : Hp} {L M : List Nat} (h : Rch z z' L M) : zJ z' = zJ z := h (fun y => zJ y = zJ z) (fun y f c v _ _ q => q) (fun y c i v hc q => q) rfl
theorem Rch.eG {z z' : Hp} {L M : List Nat} (h : Rch z z' L M) : zG z' = zG z := h (fun y => zG y = zG z) (fun y f c v _ _ q => q) (fun y c i v hc q => q) rfl
theorem Rch.eK {z z' : Hp} {L M : List Nat} (h : Rch z z' L M) : zK z' = zK z := h (fun y => zK y = zK z) (fun y f c v _ _ q => q) (fun y c i v hc q => q) rfl
theorem Rch.eL {z z' : Hp} {L M : List Nat} (h : Rch z z' L M) : zL z' = zL z := h (fun y => zL y = zL z) (fun y f c v _ _ q => q) (fun y c i v hc q => q) rfl
theorem Rch.en {z z' : Hp} {L M : List Nat} (h : Rch z z' L M) : zn z' = zn z := h (fun y => zn y = zn z) (fun y f c v _ _ q => q) (fun y c i v hc q => q) rfl
theorem Rch.sm {z z' : Hp} {L M : List Nat} (h : Rch z z' L M) {a : Nat} (ha : 48 ≤ a) : Sm z z' a := h (fun y => Sm z y a) (fun y f c v _ hc q => q.sF (by omega)) (fun y c i v hc q => q.sA) (Sm.refl z a)
def sdN (s : Int32) : Int32 := (s * (1103515245 : Int32) + (12345 : Int32)) &&& (2147483647 : Int32)
def sjN (s : Int32) (k : Nat) : Nat := ((sdN s).toBitVec.toNat / 65536) % (k + 1)
/-- the draw from place k downwards -/
def shF : Nat → Int32 → (Nat → Int32) → Int32 × (Nat → Int32)
  | 0, s, A => (s, A)
  | k + 1, s, A => shF k (sdN s) (va_up (va_up A (k + 1) (A (sjN s (k + 1)))) (sjN s (k + 1)) (A (k + 1)))
theorem sdN_b (s : Int32) : ∃ m, m < 2 ^ 31 ∧ sdN s = nI m := pk_andE _ 31 (by decide)
theorem sj_e (s : Int32) {k : Nat} (hk : k < 8) : irm (sdN s / (65536 : Int32)) (nI (k + 1)) = nI (sjN s k) ∧ sjN s k ≤ k := by
  obtain ⟨m, hm, e⟩ := sdN_b s
  have e2 : (sdN s).toBitVec.toNat = m := by
    rw [e]
    show (BitVec.ofNat 32 m).toNat = m
    rw [BitVec.toNat_ofNat]
    exact Nat.mod_eq_of_lt (by omega)
  have hlt : m / 65536 % (k + 1) < k + 1 := Nat.mod_lt _ (by omega)
  have hd : m / 65536 ≤ m := Nat.div_le_self _ _
  refine ⟨?_, by unfold sjN; rw [e2]; omega⟩
  unfold sjN
  rw [e2, e, show (65536 : Int32) = nI 65536 from rfl, pk_div (by omega) (by decide) (by decide)]
  have := pk_rem (a := m / 65536) (d := k + 1) (by omega) (by omega) (by omega)
  unfold irm
  rw [this]
theorem shF_s : ∀ k s A B, (shF k s A).1 = (shF k s B).1
  | 0, _, _, _ => rfl
  | k + 1, s, A, B => shF_s k _ _ _
theorem shF_eq {nb : Nat} (hnb : nb ≤ 8) : ∀ k s A B, k < nb → (∀ i, i < nb → A i = B i) → ∀ i, i < nb → (shF k s A).2 i = (shF k s B).2 i := by
  intro k
  induction k with
  | zero => intro s A B _ h i hi; exact h i hi
  | succ k ih =>
    intro s A B hk h i hi
    have hj := (sj_e s (show k + 1 < 8 by omega)).2
    refine ih _ _ _ (by omega) (fun i hi => ?_) i hi
    rw [h _ (show sjN s (k + 1) < nb by omega), h (k + 1) hk]
    by_cases e1 : i = sjN s (k + 1)
    · rw [e1, va_up_self, va_up_self]
    · rw [va_up_ne _ _ e1, va_up_ne _ _ e1]
      by_cases e2 : i = k + 1
      · rw [e2, va_up_self, va_up_self]
      · rw [va_up_ne _ _ e2, va_up_ne _ _ e2]
        exact h i hi
theorem shF_rng {nb : Nat} (hnb : nb ≤ 8) : ∀ k s A, k < nb → (∀ i, i < nb → ∃ j, j < nb ∧ A i = nI j) → ∀ i, i < nb → ∃ j, j < nb ∧ (shF k s A).2 i = nI j := by
  intro k
  induction k with
  | zero => intro s A _ h i hi; exact h i hi
  | succ k ih =>
    intro s A hk h i hi
    have hj := (sj_e s (show k + 1 < 8 by omega)).2
    refine ih _ _ (by omega) (fun i hi => ?_) i hi
    by_cases e1 : i = sjN s (k + 1)
    · rw [e1, va_up_self]; exact h (k + 1) hk
    · rw [va_up_ne _ _ e1]
      by_cases e2 : i = k + 1
      · rw [e2, va_up_self]; exact h _ (by omega)
      · rw [va_up_ne _ _ e2]
        exact h i hi
def idF (A : Nat → Int32) : Nat → (Nat → Int32)
  | 0 => A
  | n + 1 => va_up (idF A n) n (nI n)
theorem idF_e {A : Nat → Int32} : ∀ n i, i < n → idF A n i = nI i
  | n + 1, i, h => by
    simp only [idF]
    rcases Nat.lt_or_ge i n with q | q
    · rw [up_old q]; exact idF_e n i q
    · have e : i = n := by omega
      subst e
      exact va_up_self _ _ _
theorem shC {N nb : Nat} : ∀ (k : Nat) (z : Hp) (s : Int32) (A : Nat → Int32) (M : Nat), k < 8 → k < M → Sh z → zF z 579 11 = s → zA z 12 = A → ∃ z', wh (fun (u : Int32 × Hp) => fX10_draw_24 N 11 (nI nb) u.1 u.2) M (nI k, z) = some z' ∧ Rch z z' [577, 578, 579] [12] ∧ zF z' 579 11 = (shF k s A).1 ∧ zA z' 12 = (shF k s A).2 ∧ zF z' 577 11 = nI nb ∧ zF z' 578 11 = nI 0 := by
  intro k
  induction k with
  | zero =>
    intro z s A M hk hM hS e1 e2
    obtain ⟨M', rfl⟩ : ∃ M', M = M' + 1 := ⟨M - 1, by omega⟩
    refine ⟨zsF (zsF z 577 11 (nI nb)) 578 11 0, wh_out ?_, ((Rch.refl z _ _).sF (by decide) (by decide)).sF (by decide) (by decide), ?_, ?_, ?_, ?_⟩
    · simp only [fX10_draw_24, br_y (show nI 0 < 1 by decide), gdT, brTr, brFa, br_00, br_10, bd_e, bo_s, bp_s, cs_s, cs_n, lf_s, eF_zn, eF_zK, eF_zL, eF_s, eF_n, eF_zG, eF_zA, eF_zJ, eF_zR, eG_zn, eG_zK, eG_zL, eG_zF, eG_s, eG_n, eG_zA, eG_zJ, eG_zR, eA_zn, eA_zK, eA_zL, eA_zF, eA_zG, eA_s, eA_n, eA_zJ, eA_zR, eJ_zn, eJ_zK, eJ_zL, eJ_zF, eJ_zG, eJ_zA, eJ_s, eJ_n, eJ_zR, eR_zn, eR_zK, eR_zL, eR_zF, eR_zG, eR_zA, eR_zJ, eR_s, eR_n, ne_eq, not_false_eq_true, not_true_eq_false, reduceCtorEq, Nat.reduceEqDiff, o0 hS, o1 hS, o2 hS, o3 hS, o4 hS, o5 hS, o6 hS, o7 hS, o8 hS, o9 hS, o10 hS, o11 hS, o12 hS, o13 hS, o14 hS, o15 hS, o16 hS, o17 hS, o18 hS, o19 hS, o20 hS, o21 hS, o22 hS, o23 hS, o24 hS, o25 hS, o26 hS, o27 hS, o28 hS, o29 hS, o30 hS, o31 hS, o32 hS, o33 hS, o34 hS, o35 hS, o36 hS, o37 hS, o38 hS, o39 hS, o40 hS, o41 hS, o42 hS, o43 hS, o44 hS, o45 hS, o46 hS, o47 hS, l2 hS, l3 hS, l4 hS, l5 hS, l7 hS, l8 hS, l10 hS, l12 hS, l14 hS, l15 hS, l16 hS, l18 hS, l19 hS, l20 hS, l21 hS, l22 hS, l23 hS, l24 hS, l25 hS, l26 hS, l27 hS, l28 hS, l29 hS, l30 hS, l31 hS, l32 hS, l33 hS, l34 hS, l35 hS, l36 hS, l37 hS, l38 hS, l39 hS, l40 hS, l41 hS, l42 hS, l43 hS, l44 hS, l45 hS, l46 hS, l47 hS, g640 hS, g641 hS, g642 hS, g643 hS, g644 hS, g645 hS, g128 hS, g129 hS, g130 hS, g131 hS, g384 hS, g385 hS, g256 hS, g576 hS, g192 hS, g193 hS, g707 hS, g708 hS, g709 hS, g710 hS, g712 hS, g713 hS, g714 hS, g715 hS, g716 hS, g720 hS, g721 hS, g722 hS, g723 hS, g724 hS, g725 hS, g726 hS, g728 hS, g729 hS, g730 hS, g731 hS, g732 hS, g733 hS, g734 hS, g735 hS, g736 hS, g737 hS, g738 hS, g740 hS, g751 hS, g752 hS]
    · simp only [eF_zn, eF_zK, eF_zL, eF_s, eF_n, eF_zG, eF_zA, eF_zJ, eF_zR, eG_zn, eG_zK, eG_zL, eG_zF, eG_s, eG_n, eG_zA, eG_zJ, eG_zR, eA_zn, eA_zK, eA_zL, eA_zF, eA_zG, eA_s, eA_n, eA_zJ, eA_zR, eJ_zn, eJ_zK, eJ_zL, eJ_zF, eJ_zG, eJ_zA, eJ_s, eJ_n, eJ_zR, eR_zn, eR_zK, eR_zL, eR_zF, eR_zG, eR_zA, eR_zJ, eR_s, eR_n, ne_eq, not_false_eq_true, not_true_eq_false, reduceCtorEq, Nat.reduceEqDiff]; exact e1
    · simp only [eF_zn, eF_zK, eF_zL, eF_s, eF_n, eF_zG, eF_zA, eF_zJ, eF_zR, eG_zn, eG_zK, eG_zL, eG_zF, eG_s, eG_n, eG_zA, eG_zJ, eG_zR, eA_zn, eA_zK, eA_zL, eA_zF, eA_zG, eA_s, eA_n, eA_zJ, eA_zR, eJ_zn, eJ_zK, eJ_zL, eJ_zF, eJ_zG, eJ_zA, eJ_s, eJ_n, eJ_zR, eR_zn, eR_zK, eR_zL, eR_zF, eR_zG, eR_zA, eR_zJ, eR_s, eR_n, ne_eq, not_false_eq_true, not_true_eq_false, reduceCtorEq, Nat.reduceEqDiff]; exact e2
    · simp only [eF_zn, eF_zK, eF_zL, eF_s, eF_n, eF_zG, eF_zA, eF_zJ, eF_zR, eG_zn, eG_zK, eG_zL, eG_zF, eG_s, eG_n, eG_zA, eG_zJ, eG_zR, eA_zn, eA_zK, eA_zL, eA_zF, eA_zG, eA_s, eA_n, eA_zJ, eA_zR, eJ_zn, eJ_zK, eJ_zL, eJ_zF, eJ_zG, eJ_zA, eJ_s, eJ_n, eJ_zR, eR_zn, eR_zK, eR_zL, eR_zF, eR_zG, eR_zA, eR_zJ, eR_s, eR_n, ne_eq, not_false_eq_true, not_true_eq_false, reduceCtorEq, Nat.reduceEqDiff, va_up_self]
    · simp only [eF_zn, eF_zK, eF_zL, eF_s, eF_n, eF_zG, eF_zA, eF_zJ, eF_zR, eG_zn, eG_zK, eG_zL, eG_zF, eG_s, eG_n, eG_zA, eG_zJ, eG_zR, eA_zn, eA_zK, eA_zL, eA_zF, eA_zG, eA_s, eA_n, eA_zJ, eA_zR, eJ_zn, eJ_zK, eJ_zL, eJ_zF, eJ_zG, eJ_zA, eJ_s, eJ_n, eJ_zR, eR_zn, eR_zK, eR_zL, eR_zF, eR_zG, eR_zA, eR_zJ, eR_s, eR_n, ne_eq, not_false_eq_true, not_true_eq_false, reduceCtorEq, Nat.reduceEqDiff, va_up_self]; rfl
  | succ k ih =>
    intro z s A M hk hM hS e1 e2
    obtain ⟨M', rfl⟩ : ∃ M', M = M' + 1 := ⟨M - 1, by omega⟩
    obtain ⟨q1, q2⟩ := sj_e s (show k + 1 < 8 by omega)
    have c1 : ¬ nI (k + 1) < 1 := by rw [show (1 : Int32) = nI 1 from rfl]; exact nI_nlt (by omega) (by omega)
    have c2 : (¬ nI (k + 1 + 1) = 0) = True := eq_true (nI_ne0 (by omega) (by omega))
    have hsd : (s * (1103515245 : Int32) + (12345 : Int32)) &&& (2147483647 : Int32) = sdN s := rfl
    obtain ⟨z', g1, g2, g3⟩ := ih (zsA (zsA (zsF z 579 11 (sdN s)) 12 (k + 1) (A (sjN s (k + 1)))) 12 (sjN s (k + 1)) (A (k + 1))) (sdN s) (va_up (va_up A (k + 1) (A (sjN s (k + 1)))) (sjN s (k + 1)) (A (k + 1))) M' (by omega) (by omega) hS.sF.sA.sA (by simp only [eF_zn, eF_zK, eF_zL, eF_s, eF_n, eF_zG, eF_zA, eF_zJ, eF_zR, eG_zn, eG_zK, eG_zL, eG_zF, eG_s, eG_n, eG_zA, eG_zJ, eG_zR, eA_zn, eA_zK, eA_zL, eA_zF, eA_zG, eA_s, eA_n, eA_zJ, eA_zR, eJ_zn, eJ_zK, eJ_zL, eJ_zF, eJ_zG, eJ_zA, eJ_s, eJ_n, eJ_zR, eR_zn, eR_zK, eR_zL, eR_zF, eR_zG, eR_zA, eR_zJ, eR_s, eR_n, ne_eq, not_false_eq_true, not_true_eq_false, reduceCtorEq, Nat.reduceEqDiff, va_up_self]) (by simp only [eF_zn, eF_zK, eF_zL, eF_s, eF_n, eF_zG, eF_zA, eF_zJ, eF_zR, eG_zn, eG_zK, eG_zL, eG_zF, eG_s, eG_n, eG_zA, eG_zJ, eG_zR, eA_zn, eA_zK, eA_zL, eA_zF, eA_zG, eA_s, eA_n, eA_zJ, eA_zR, eJ_zn, eJ_zK, eJ_zL, eJ_zF, eJ_zG, eJ_zA, eJ_s, eJ_n, eJ_zR, eR_zn, eR_zK, eR_zL, eR_zF, eR_zG, eR_zA, eR_zJ, eR_s, eR_n, ne_eq, not_false_eq_true, not_true_eq_false, reduceCtorEq, Nat.reduceEqDiff, e2])
    refine ⟨z', ?_, (((Rch.refl z _ _).sF (by decide) (by decide)).sA (by decide)).sA (by decide) |>.trans g2, g3⟩
    rw [wh_in (s' := (nI k, zsA (zsA (zsF z 579 11 (sdN s)) 12 (k + 1) (A (sjN s (k + 1)))) 12 (sjN s (k + 1)) (A (k + 1)))) ?_]
    · exact g1
    · simp only [fX10_draw_24, br_n c1, gdT, brTr, brFa, br_00, br_10, bd_e, bo_s, bp_s, cs_s, cs_n, lf_s, eF_zn, eF_zK, eF_zL, eF_s, eF_n, eF_zG, eF_zA, eF_zJ, eF_zR, eG_zn, eG_zK, eG_zL, eG_zF, eG_s, eG_n, eG_zA, eG_zJ, eG_zR, eA_zn, eA_zK, eA_zL, eA_zF, eA_zG, eA_s, eA_n, eA_zJ, eA_zR, eJ_zn, eJ_zK, eJ_zL, eJ_zF, eJ_zG, eJ_zA, eJ_s, eJ_n, eJ_zR, eR_zn, eR_zK, eR_zL, eR_zF, eR_zG, eR_zA, eR_zJ, eR_s, eR_n, ne_eq, not_false_eq_true, not_true_eq_false, reduceCtorEq, Nat.reduceEqDiff, o0 hS, o1 hS, o2 hS, o3 hS, o4 hS, o5 hS, o6 hS, o7 hS, o8 hS, o9 hS, o10 hS, o11 hS, o12 hS, o13 hS, o14 hS, o15 hS, o16 hS, o17 hS, o18 hS, o19 hS, o20 hS, o21 hS, o22 hS, o23 hS, o24 hS, o25 hS, o26 hS, o27 hS, o28 hS, o29 hS, o30 hS, o31 hS, o32 hS, o33 hS, o34 hS, o35 hS, o36 hS, o37 hS, o38 hS, o39 hS, o40 hS, o41 hS, o42 hS, o43 hS, o44 hS, o45 hS, o46 hS, o47 hS, l2 hS, l3 hS, l4 hS, l5 hS, l7 hS, l8 hS, l10 hS, l12 hS, l14 hS, l15 hS, l16 hS, l18 hS, l19 hS, l20 hS, l21 hS, l22 hS, l23 hS, l24 hS, l25 hS, l26 hS, l27 hS, l28 hS, l29 hS, l30 hS, l31 hS, l32 hS, l33 hS, l34 hS, l35 hS, l36 hS, l37 hS, l38 hS, l39 hS, l40 hS, l41 hS, l42 hS, l43 hS, l44 hS, l45 hS, l46 hS, l47 hS, g640 hS, g641 hS, g642 hS, g643 hS, g644 hS, g645 hS, g128 hS, g129 hS, g130 hS, g131 hS, g384 hS, g385 hS, g256 hS, g576 hS, g192 hS, g193 hS, g707 hS, g708 hS, g709 hS, g710 hS, g712 hS, g713 hS, g714 hS, g715 hS, g716 hS, g720 hS, g721 hS, g722 hS, g723 hS, g724 hS, g725 hS, g726 hS, g728 hS, g729 hS, g730 hS, g731 hS, g732 hS, g733 hS, g734 hS, g735 hS, g736 hS, g737 hS, g738 hS, g740 hS, g751 hS, g752 hS, e1, e2, hsd, va_up_self, nI_1, c2, q1, inb (show k + 1 < 8 by omega) (by decide), nI_clamp (show k + 1 < 2 ^ 31 by omega), inb (show sjN s (k + 1) < 8 by omega) (by decide), nI_clamp (show sjN s (k + 1) < 2 ^ 31 by omega)]
      rw [← sub_m1, nI_pred]
theorem fillC {N nb : Nat} (hN : 6000 ≤ N) (hnb : nb ≤ 8) (h0 : 0 < nb) : ∀ (m i : Nat) (z : Hp) (s : Int32) (A : Nat → Int32) (M : Nat), i + m = nb → m < M → Sh z → zF z 579 11 = s → zA z 12 = idF A i → ∃ z', wh (fun (u : Int32 × Hp) => fX10_draw_2 N 11 (nI nb) u.1 u.2) M (nI i, z) = some z' ∧ Rch z z' [577, 578, 579] [12] ∧ zF z' 579 11 = (shF (nb - 1) s (idF A nb)).1 ∧ zA z' 12 = (shF (nb - 1) s (idF A nb)).2 ∧ zF z' 577 11 = nI nb ∧ zF z' 578 11 = nI 0 := by
  intro m
  induction m with
  | zero =>
    intro i z s A M hi hM hS e1 e2
    obtain ⟨M', rfl⟩ : ∃ M', M = M' + 1 := ⟨M - 1, by omega⟩
    have ei : i = nb := by omega
    subst ei
    obtain ⟨z', g1, g2⟩ := shC (N := N) (nb := i) (i - 1) z s (idF A i) N (by omega) (by omega) hS e1 e2
    refine ⟨z', wh_out ?_, g2⟩
    simp only [fX10_draw_2, br_y (Int32.le_refl (nI i)), gdT, brTr, brFa, br_00, br_10, bd_e, bo_s, bp_s, cs_s, cs_n, lf_s]
    rw [show (1 : Int32) = nI 1 from rfl, pk_sub (show 1 ≤ i by omega), g1]
    rfl
  | succ m ih =>
    intro i z s A M hi hM hS e1 e2
    obtain ⟨M', rfl⟩ : ∃ M', M = M' + 1 := ⟨M - 1, by omega⟩
    have c1 : ¬ nI nb ≤ nI i := nI_ge (by omega) (by omega)
    obtain ⟨z', g1, g2, g3⟩ := ih (i + 1) (zsA z 12 i (nI i)) s A M' (by omega) (by omega) hS.sA e1 (by simp only [eF_zn, eF_zK, eF_zL, eF_s, eF_n, eF_zG, eF_zA, eF_zJ, eF_zR, eG_zn, eG_zK, eG_zL, eG_zF, eG_s, eG_n, eG_zA, eG_zJ, eG_zR, eA_zn, eA_zK, eA_zL, eA_zF, eA_zG, eA_s, eA_n, eA_zJ, eA_zR, eJ_zn, eJ_zK, eJ_zL, eJ_zF, eJ_zG, eJ_zA, eJ_s, eJ_n, eJ_zR, eR_zn, eR_zK, eR_zL, eR_zF, eR_zG, eR_zA, eR_zJ, eR_s, eR_n, idF, e2])
    refine ⟨z', ?_, ((Rch.refl z _ _).sA (by decide)).trans g2, g3⟩
    rw [wh_in (s' := (nI (i + 1), zsA z 12 i (nI i))) ?_]
    · exact g1
    · simp only [fX10_draw_2, br_n c1, gdT, brTr, brFa, br_00, br_10, bd_e, bo_s, bp_s, cs_s, cs_n, lf_s, o0 hS, o1 hS, o2 hS, o3 hS, o4 hS, o5 hS, o6 hS, o7 hS, o8 hS, o9 hS, o10 hS, o11 hS, o12 hS, o13 hS, o14 hS, o15 hS, o16 hS, o17 hS, o18 hS, o19 hS, o20 hS, o21 hS, o22 hS, o23 hS, o24 hS, o25 hS, o26 hS, o27 hS, o28 hS, o29 hS, o30 hS, o31 hS, o32 hS, o33 hS, o34 hS, o35 hS, o36 hS, o37 hS, o38 hS, o39 hS, o40 hS, o41 hS, o42 hS, o43 hS, o44 hS, o45 hS, o46 hS, o47 hS, l2 hS, l3 hS, l4 hS, l5 hS, l7 hS, l8 hS, l10 hS, l12 hS, l14 hS, l15 hS, l16 hS, l18 hS, l19 hS, l20 hS, l21 hS, l22 hS, l23 hS, l24 hS, l25 hS, l26 hS, l27 hS, l28 hS, l29 hS, l30 hS, l31 hS, l32 hS, l33 hS, l34 hS, l35 hS, l36 hS, l37 hS, l38 hS, l39 hS, l40 hS, l41 hS, l42 hS, l43 hS, l44 hS, l45 hS, l46 hS, l47 hS, g640 hS, g641 hS, g642 hS, g643 hS, g644 hS, g645 hS, g128 hS, g129 hS, g130 hS, g131 hS, g384 hS, g385 hS, g256 hS, g576 hS, g192 hS, g193 hS, g707 hS, g708 hS, g709 hS, g710 hS, g712 hS, g713 hS, g714 hS, g715 hS, g716 hS, g720 hS, g721 hS, g722 hS, g723 hS, g724 hS, g725 hS, g726 hS, g728 hS, g729 hS, g730 hS, g731 hS, g732 hS, g733 hS, g734 hS, g735 hS, g736 hS, g737 hS, g738 hS, g740 hS, g751 hS, g752 hS, inb (show i < 8 by omega) (by decide), nI_clamp (show i < 2 ^ 31 by omega), nI_1]
theorem shM {N nb : Nat} : ∀ (k : Nat) (z : Hp) (s : Int32) (A : Nat → Int32) (M : Nat), k < 8 → k < M → Sh z → zF z 706 17 = nI nb → zF z 743 17 = s → zA z 45 = A → ∃ z', wh (fun (u : Int32 × Hp) => fX12_drawTurns_38 N 17 u.1 u.2) M (nI k, z) = some z' ∧ Rch z z' [741, 742, 743] [45] ∧ zF z' 743 17 = (shF k s A).1 ∧ zA z' 45 = (shF k s A).2 ∧ zF z' 741 17 = nI nb ∧ zF z' 742 17 = nI nb := by
  intro k
  induction k with
  | zero =>
    intro z s A M hk hM hS e0 e1 e2
    obtain ⟨M', rfl⟩ : ∃ M', M = M' + 1 := ⟨M - 1, by omega⟩
    refine ⟨zsF (zsF z 741 17 (nI nb)) 742 17 (nI nb), wh_out ?_, ((Rch.refl z _ _).sF (by decide) (by decide)).sF (by decide) (by decide), ?_, ?_, ?_, ?_⟩
    · simp only [fX12_drawTurns_38, br_y (show nI 0 ≤ 0 by decide), gdT, brTr, brFa, br_00, br_10, bd_e, bo_s, bp_s, cs_s, cs_n, lf_s, eF_zn, eF_zK, eF_zL, eF_s, eF_n, eF_zG, eF_zA, eF_zJ, eF_zR, eG_zn, eG_zK, eG_zL, eG_zF, eG_s, eG_n, eG_zA, eG_zJ, eG_zR, eA_zn, eA_zK, eA_zL, eA_zF, eA_zG, eA_s, eA_n, eA_zJ, eA_zR, eJ_zn, eJ_zK, eJ_zL, eJ_zF, eJ_zG, eJ_zA, eJ_s, eJ_n, eJ_zR, eR_zn, eR_zK, eR_zL, eR_zF, eR_zG, eR_zA, eR_zJ, eR_s, eR_n, ne_eq, not_false_eq_true, not_true_eq_false, reduceCtorEq, Nat.reduceEqDiff, o0 hS, o1 hS, o2 hS, o3 hS, o4 hS, o5 hS, o6 hS, o7 hS, o8 hS, o9 hS, o10 hS, o11 hS, o12 hS, o13 hS, o14 hS, o15 hS, o16 hS, o17 hS, o18 hS, o19 hS, o20 hS, o21 hS, o22 hS, o23 hS, o24 hS, o25 hS, o26 hS, o27 hS, o28 hS, o29 hS, o30 hS, o31 hS, o32 hS, o33 hS, o34 hS, o35 hS, o36 hS, o37 hS, o38 hS, o39 hS, o40 hS, o41 hS, o42 hS, o43 hS, o44 hS, o45 hS, o46 hS, o47 hS, l2 hS, l3 hS, l4 hS, l5 hS, l7 hS, l8 hS, l10 hS, l12 hS, l14 hS, l15 hS, l16 hS, l18 hS, l19 hS, l20 hS, l21 hS, l22 hS, l23 hS, l24 hS, l25 hS, l26 hS, l27 hS, l28 hS, l29 hS, l30 hS, l31 hS, l32 hS, l33 hS, l34 hS, l35 hS, l36 hS, l37 hS, l38 hS, l39 hS, l40 hS, l41 hS, l42 hS, l43 hS, l44 hS, l45 hS, l46 hS, l47 hS, g640 hS, g641 hS, g642 hS, g643 hS, g644 hS, g645 hS, g128 hS, g129 hS, g130 hS, g131 hS, g384 hS, g385 hS, g256 hS, g576 hS, g192 hS, g193 hS, g707 hS, g708 hS, g709 hS, g710 hS, g712 hS, g713 hS, g714 hS, g715 hS, g716 hS, g720 hS, g721 hS, g722 hS, g723 hS, g724 hS, g725 hS, g726 hS, g728 hS, g729 hS, g730 hS, g731 hS, g732 hS, g733 hS, g734 hS, g735 hS, g736 hS, g737 hS, g738 hS, g740 hS, g751 hS, g752 hS, e0]
    · simp only [eF_zn, eF_zK, eF_zL, eF_s, eF_n, eF_zG, eF_zA, eF_zJ, eF_zR, eG_zn, eG_zK, eG_zL, eG_zF, eG_s, eG_n, eG_zA, eG_zJ, eG_zR, eA_zn, eA_zK, eA_zL, eA_zF, eA_zG, eA_s, eA_n, eA_zJ, eA_zR, eJ_zn, eJ_zK, eJ_zL, eJ_zF, eJ_zG, eJ_zA, eJ_s, eJ_n, eJ_zR, eR_zn, eR_zK, eR_zL, eR_zF, eR_zG, eR_zA, eR_zJ, eR_s, eR_n, ne_eq, not_false_eq_true, not_true_eq_false, reduceCtorEq, Nat.reduceEqDiff]; exact e1
    · simp only [eF_zn, eF_zK, eF_zL, eF_s, eF_n, eF_zG, eF_zA, eF_zJ, eF_zR, eG_zn, eG_zK, eG_zL, eG_zF, eG_s, eG_n, eG_zA, eG_zJ, eG_zR, eA_zn, eA_zK, eA_zL, eA_zF, eA_zG, eA_s, eA_n, eA_zJ, eA_zR, eJ_zn, eJ_zK, eJ_zL, eJ_zF, eJ_zG, eJ_zA, eJ_s, eJ_n, eJ_zR, eR_zn, eR_zK, eR_zL, eR_zF, eR_zG, eR_zA, eR_zJ, eR_s, eR_n, ne_eq, not_false_eq_true, not_true_eq_false, reduceCtorEq, Nat.reduceEqDiff]; exact e2
    · simp only [eF_zn, eF_zK, eF_zL, eF_s, eF_n, eF_zG, eF_zA, eF_zJ, eF_zR, eG_zn, eG_zK, eG_zL, eG_zF, eG_s, eG_n, eG_zA, eG_zJ, eG_zR, eA_zn, eA_zK, eA_zL, eA_zF, eA_zG, eA_s, eA_n, eA_zJ, eA_zR, eJ_zn, eJ_zK, eJ_zL, eJ_zF, eJ_zG, eJ_zA, eJ_s, eJ_n, eJ_zR, eR_zn, eR_zK, eR_zL, eR_zF, eR_zG, eR_zA, eR_zJ, eR_s, eR_n, ne_eq, not_false_eq_true, not_true_eq_false, reduceCtorEq, Nat.reduceEqDiff, va_up_self]
    · simp only [eF_zn, eF_zK, eF_zL, eF_s, eF_n, eF_zG, eF_zA, eF_zJ, eF_zR, eG_zn, eG_zK, eG_zL, eG_zF, eG_s, eG_n, eG_zA, eG_zJ, eG_zR, eA_zn, eA_zK, eA_zL, eA_zF, eA_zG, eA_s, eA_n, eA_zJ, eA_zR, eJ_zn, eJ_zK, eJ_zL, eJ_zF, eJ_zG, eJ_zA, eJ_s, eJ_n, eJ_zR, eR_zn, eR_zK, eR_zL, eR_zF, eR_zG, eR_zA, eR_zJ, eR_s, eR_n, ne_eq, not_false_eq_true, not_true_eq_false, reduceCtorEq, Nat.reduceEqDiff, va_up_self]
  | succ k ih =>
    intro z s A M hk hM hS e0 e1 e2
    obtain ⟨M', rfl⟩ : ∃ M', M = M' + 1 := ⟨M - 1, by omega⟩
    obtain ⟨q1, q2⟩ := sj_e s (show k + 1 < 8 by omega)
    have c1 : ¬ nI (k + 1) ≤ 0 := nI_nle (by omega) (by omega)
    have c2 : (¬ nI (k + 1 + 1) = 0) = True := eq_true (nI_ne0 (by omega) (by omega))
    have hsd : (s * (1103515245 : Int32) + (12345 : Int32)) &&& (2147483647 : Int32) = sdN s := rfl
    obtain ⟨z', g1, g2, g3⟩ := ih (zsA (zsA (zsF z 743 17 (sdN s)) 45 (k + 1) (A (sjN s (k + 1)))) 45 (sjN s (k + 1)) (A (k + 1))) (sdN s) (va_up (va_up A (k + 1) (A (sjN s (k + 1)))) (sjN s (k + 1)) (A (k + 1))) M' (by omega) (by omega) hS.sF.sA.sA (by simp only [eF_zn, eF_zK, eF_zL, eF_s, eF_n, eF_zG, eF_zA, eF_zJ, eF_zR, eG_zn, eG_zK, eG_zL, eG_zF, eG_s, eG_n, eG_zA, eG_zJ, eG_zR, eA_zn, eA_zK, eA_zL, eA_zF, eA_zG, eA_s, eA_n, eA_zJ, eA_zR, eJ_zn, eJ_zK, eJ_zL, eJ_zF, eJ_zG, eJ_zA, eJ_s, eJ_n, eJ_zR, eR_zn, eR_zK, eR_zL, eR_zF, eR_zG, eR_zA, eR_zJ, eR_s, eR_n, ne_eq, not_false_eq_true, not_true_eq_false, reduceCtorEq, Nat.reduceEqDiff]; exact e0) (by simp only [eF_zn, eF_zK, eF_zL, eF_s, eF_n, eF_zG, eF_zA, eF_zJ, eF_zR, eG_zn, eG_zK, eG_zL, eG_zF, eG_s, eG_n, eG_zA, eG_zJ, eG_zR, eA_zn, eA_zK, eA_zL, eA_zF, eA_zG, eA_s, eA_n, eA_zJ, eA_zR, eJ_zn, eJ_zK, eJ_zL, eJ_zF, eJ_zG, eJ_zA, eJ_s, eJ_n, eJ_zR, eR_zn, eR_zK, eR_zL, eR_zF, eR_zG, eR_zA, eR_zJ, eR_s, eR_n, ne_eq, not_false_eq_true, not_true_eq_false, reduceCtorEq, Nat.reduceEqDiff, va_up_self]) (by simp only [eF_zn, eF_zK, eF_zL, eF_s, eF_n, eF_zG, eF_zA, eF_zJ, eF_zR, eG_zn, eG_zK, eG_zL, eG_zF, eG_s, eG_n, eG_zA, eG_zJ, eG_zR, eA_zn, eA_zK, eA_zL, eA_zF, eA_zG, eA_s, eA_n, eA_zJ, eA_zR, eJ_zn, eJ_zK, eJ_zL, eJ_zF, eJ_zG, eJ_zA, eJ_s, eJ_n, eJ_zR, eR_zn, eR_zK, eR_zL, eR_zF, eR_zG, eR_zA, eR_zJ, eR_s, eR_n, ne_eq, not_false_eq_true, not_true_eq_false, reduceCtorEq, Nat.reduceEqDiff, e2])
    refine ⟨z', ?_, (((Rch.refl z _ _).sF (by decide) (by decide)).sA (by decide)).sA (by decide) |>.trans g2, g3⟩
    rw [wh_in (s' := (nI k, zsA (zsA (zsF z 743 17 (sdN s)) 45 (k + 1) (A (sjN s (k + 1)))) 45 (sjN s (k + 1)) (A (k + 1)))) ?_]
    · exact g1
    · simp only [fX12_drawTurns_38, br_n c1, gdT, brTr, brFa, br_00, br_10, bd_e, bo_s, bp_s, cs_s, cs_n, lf_s, eF_zn, eF_zK, eF_zL, eF_s, eF_n, eF_zG, eF_zA, eF_zJ, eF_zR, eG_zn, eG_zK, eG_zL, eG_zF, eG_s, eG_n, eG_zA, eG_zJ, eG_zR, eA_zn, eA_zK, eA_zL, eA_zF, eA_zG, eA_s, eA_n, eA_zJ, eA_zR, eJ_zn, eJ_zK, eJ_zL, eJ_zF, eJ_zG, eJ_zA, eJ_s, eJ_n, eJ_zR, eR_zn, eR_zK, eR_zL, eR_zF, eR_zG, eR_zA, eR_zJ, eR_s, eR_n, ne_eq, not_false_eq_true, not_true_eq_false, reduceCtorEq, Nat.reduceEqDiff, o0 hS, o1 hS, o2 hS, o3 hS, o4 hS, o5 hS, o6 hS, o7 hS, o8 hS, o9 hS, o10 hS, o11 hS, o12 hS, o13 hS, o14 hS, o15 hS, o16 hS, o17 hS, o18 hS, o19 hS, o20 hS, o21 hS, o22 hS, o23 hS, o24 hS, o25 hS, o26 hS, o27 hS, o28 hS, o29 hS, o30 hS, o31 hS, o32 hS, o33 hS, o34 hS, o35 hS, o36 hS, o37 hS, o38 hS, o39 hS, o40 hS, o41 hS, o42 hS, o43 hS, o44 hS, o45 hS, o46 hS, o47 hS, l2 hS, l3 hS, l4 hS, l5 hS, l7 hS, l8 hS, l10 hS, l12 hS, l14 hS, l15 hS, l16 hS, l18 hS, l19 hS, l20 hS, l21 hS, l22 hS, l23 hS, l24 hS, l25 hS, l26 hS, l27 hS, l28 hS, l29 hS, l30 hS, l31 hS, l32 hS, l33 hS, l34 hS, l35 hS, l36 hS, l37 hS, l38 hS, l39 hS, l40 hS, l41 hS, l42 hS, l43 hS, l44 hS, l45 hS, l46 hS, l47 hS, g640 hS, g641 hS, g642 hS, g643 hS, g644 hS, g645 hS, g128 hS, g129 hS, g130 hS, g131 hS, g384 hS, g385 hS, g256 hS, g576 hS, g192 hS, g193 hS, g707 hS, g708 hS, g709 hS, g710 hS, g712 hS, g713 hS, g714 hS, g715 hS, g716 hS, g720 hS, g721 hS, g722 hS, g723 hS, g724 hS, g725 hS, g726 hS, g728 hS, g729 hS, g730 hS, g731 hS, g732 hS, g733 hS, g734 hS, g735 hS, g736 hS, g737 hS, g738 hS, g740 hS, g751 hS, g752 hS, e1, e2, hsd, va_up_self, nI_1, c2, q1, inb (show k + 1 < 8 by omega) (by decide), nI_clamp (show k + 1 < 2 ^ 31 by omega), inb (show sjN s (k + 1) < 8 by omega) (by decide), nI_clamp (show sjN s (k + 1) < 2 ^ 31 by omega)]
      rw [← sub_m1, nI_pred]
theorem fillM {N nb : Nat} (hN : 6000 ≤ N) (hnb : nb ≤ 8) (h0 : 0 < nb) : ∀ (m i : Nat) (z : Hp) (s : Int32) (A : Nat → Int32) (M : Nat), i + m = nb → m < M → Sh z → zF z 706 17 = nI nb → zF z 743 17 = s → zA z 45 = idF A i → ∃ z', wh (fun (u : Int32 × Hp) => fX12_drawTurns_10 N 17 u.1 u.2) M (nI i, z) = some z' ∧ Rch z z' [741, 742, 743] [45] ∧ zF z' 743 17 = (shF (nb - 1) s (idF A nb)).1 ∧ zA z' 45 = (shF (nb - 1) s (idF A nb)).2 ∧ zF z' 741 17 = nI nb ∧ zF z' 742 17 = nI nb := by
  intro m
  induction m with
  | zero =>
    intro i z s A M hi hM hS e0 e1 e2
    obtain ⟨M', rfl⟩ : ∃ M', M = M' + 1 := ⟨M - 1, by omega⟩
    have ei : i = nb := by omega
    subst ei
    obtain ⟨z', g1, g2⟩ := shM (N := N) (nb := i) (i - 1) z s (idF A i) N (by omega) (by omega) hS e0 e1 e2
    refine ⟨z', wh_out ?_, g2⟩
    simp only [fX12_drawTurns_10, gdT, brTr, brFa, br_00, br_10, bd_e, bo_s, bp_s, cs_s, cs_n, lf_s, o0 hS, o1 hS, o2 hS, o3 hS, o4 hS, o5 hS, o6 hS, o7 hS, o8 hS, o9 hS, o10 hS, o11 hS, o12 hS, o13 hS, o14 hS, o15 hS, o16 hS, o17 hS, o18 hS, o19 hS, o20 hS, o21 hS, o22 hS, o23 hS, o24 hS, o25 hS, o26 hS, o27 hS, o28 hS, o29 hS, o30 hS, o31 hS, o32 hS, o33 hS, o34 hS, o35 hS, o36 hS, o37 hS, o38 hS, o39 hS, o40 hS, o41 hS, o42 hS, o43 hS, o44 hS, o45 hS, o46 hS, o47 hS, l2 hS, l3 hS, l4 hS, l5 hS, l7 hS, l8 hS, l10 hS, l12 hS, l14 hS, l15 hS, l16 hS, l18 hS, l19 hS, l20 hS, l21 hS, l22 hS, l23 hS, l24 hS, l25 hS, l26 hS, l27 hS, l28 hS, l29 hS, l30 hS, l31 hS, l32 hS, l33 hS, l34 hS, l35 hS, l36 hS, l37 hS, l38 hS, l39 hS, l40 hS, l41 hS, l42 hS, l43 hS, l44 hS, l45 hS, l46 hS, l47 hS, g640 hS, g641 hS, g642 hS, g643 hS, g644 hS, g645 hS, g128 hS, g129 hS, g130 hS, g131 hS, g384 hS, g385 hS, g256 hS, g576 hS, g192 hS, g193 hS, g707 hS, g708 hS, g709 hS, g710 hS, g712 hS, g713 hS, g714 hS, g715 hS, g716 hS, g720 hS, g721 hS, g722 hS, g723 hS, g724 hS, g725 hS, g726 hS, g728 hS, g729 hS, g730 hS, g731 hS, g732 hS, g733 hS, g734 hS, g735 hS, g736 hS, g737 hS, g738 hS, g740 hS, g751 hS, g752 hS, e0, br_y (Int32.le_refl (nI i))]
    rw [show (1 : Int32) = nI 1 from rfl, pk_sub (show 1 ≤ i by omega), g1]
    rfl
  | succ m ih =>
    intro i z s A M hi hM hS e0 e1 e2
    obtain ⟨M', rfl⟩ : ∃ M', M = M' + 1 := ⟨M - 1, by omega⟩
    have c1 : ¬ nI nb ≤ nI i := nI_ge (by omega) (by omega)
    obtain ⟨z', g1, g2, g3⟩ := ih (i + 1) (zsA z 45 i (nI i)) s A M' (by omega) (by omega) hS.sA e0 e1 (by simp only [eF_zn, eF_zK, eF_zL, eF_s, eF_n, eF_zG, eF_zA, eF_zJ, eF_zR, eG_zn, eG_zK, eG_zL, eG_zF, eG_s, eG_n, eG_zA, eG_zJ, eG_zR, eA_zn, eA_zK, eA_zL, eA_zF, eA_zG, eA_s, eA_n, eA_zJ, eA_zR, eJ_zn, eJ_zK, eJ_zL, eJ_zF, eJ_zG, eJ_zA, eJ_s, eJ_n, eJ_zR, eR_zn, eR_zK, eR_zL, eR_zF, eR_zG, eR_zA, eR_zJ, eR_s, eR_n, idF, e2])
    refine ⟨z', ?_, ((Rch.refl z _ _).sA (by decide)).trans g2, g3⟩
    rw [wh_in (s' := (nI (i + 1), zsA z 45 i (nI i))) ?_]
    · exact g1
    · simp only [fX12_drawTurns_10, gdT, brTr, brFa, br_00, br_10, bd_e, bo_s, bp_s, cs_s, cs_n, lf_s, o0 hS, o1 hS, o2 hS, o3 hS, o4 hS, o5 hS, o6 hS, o7 hS, o8 hS, o9 hS, o10 hS, o11 hS, o12 hS, o13 hS, o14 hS, o15 hS, o16 hS, o17 hS, o18 hS, o19 hS, o20 hS, o21 hS, o22 hS, o23 hS, o24 hS, o25 hS, o26 hS, o27 hS, o28 hS, o29 hS, o30 hS, o31 hS, o32 hS, o33 hS, o34 hS, o35 hS, o36 hS, o37 hS, o38 hS, o39 hS, o40 hS, o41 hS, o42 hS, o43 hS, o44 hS, o45 hS, o46 hS, o47 hS, l2 hS, l3 hS, l4 hS, l5 hS, l7 hS, l8 hS, l10 hS, l12 hS, l14 hS, l15 hS, l16 hS, l18 hS, l19 hS, l20 hS, l21 hS, l22 hS, l23 hS, l24 hS, l25 hS, l26 hS, l27 hS, l28 hS, l29 hS, l30 hS, l31 hS, l32 hS, l33 hS, l34 hS, l35 hS, l36 hS, l37 hS, l38 hS, l39 hS, l40 hS, l41 hS, l42 hS, l43 hS, l44 hS, l45 hS, l46 hS, l47 hS, g640 hS, g641 hS, g642 hS, g643 hS, g644 hS, g645 hS, g128 hS, g129 hS, g130 hS, g131 hS, g384 hS, g385 hS, g256 hS, g576 hS, g192 hS, g193 hS, g707 hS, g708 hS, g709 hS, g710 hS, g712 hS, g713 hS, g714 hS, g715 hS, g716 hS, g720 hS, g721 hS, g722 hS, g723 hS, g724 hS, g725 hS, g726 hS, g728 hS, g729 hS, g730 hS, g731 hS, g732 hS, g733 hS, g734 hS, g735 hS, g736 hS, g737 hS, g738 hS, g740 hS, g751 hS, g752 hS, e0, br_n c1, inb (show i < 8 by omega) (by decide), nI_clamp (show i < 2 ^ 31 by omega), nI_1]
theorem upTail {N : Nat} {z : Hp} {nb nx b : Nat} (hS : Sh z) (e1 : zF z 578 11 = nI nx) (e2 : zF z 577 11 = nI nb) (hx : nx < nb) (hnb : nb ≤ 8) (e3 : zA z 12 nx = nI b) : fX10_upNext_21 N 11 z = some (nI b, z) := by
  have c1 : ¬ nI nx < 0 := nI_pos (by omega)
  have c2 : ¬ nI nb ≤ nI nx := nI_ge hx (by omega)
  simp only [fX10_upNext_21, gdT, brTr, brFa, br_00, br_10, bd_e, bo_s, bp_s, cs_s, cs_n, lf_s, o0 hS, o1 hS, o2 hS, o3 hS, o4 hS, o5 hS, o6 hS, o7 hS, o8 hS, o9 hS, o10 hS, o11 hS, o12 hS, o13 hS, o14 hS, o15 hS, o16 hS, o17 hS, o18 hS, o19 hS, o20 hS, o21 hS, o22 hS, o23 hS, o24 hS, o25 hS, o26 hS, o27 hS, o28 hS, o29 hS, o30 hS, o31 hS, o32 hS, o33 hS, o34 hS, o35 hS, o36 hS, o37 hS, o38 hS, o39 hS, o40 hS, o41 hS, o42 hS, o43 hS, o44 hS, o45 hS, o46 hS, o47 hS, l2 hS, l3 hS, l4 hS, l5 hS, l7 hS, l8 hS, l10 hS, l12 hS, l14 hS, l15 hS, l16 hS, l18 hS, l19 hS, l20 hS, l21 hS, l22 hS, l23 hS, l24 hS, l25 hS, l26 hS, l27 hS, l28 hS, l29 hS, l30 hS, l31 hS, l32 hS, l33 hS, l34 hS, l35 hS, l36 hS, l37 hS, l38 hS, l39 hS, l40 hS, l41 hS, l42 hS, l43 hS, l44 hS, l45 hS, l46 hS, l47 hS, g640 hS, g641 hS, g642 hS, g643 hS, g644 hS, g645 hS, g128 hS, g129 hS, g130 hS, g131 hS, g384 hS, g385 hS, g256 hS, g576 hS, g192 hS, g193 hS, g707 hS, g708 hS, g709 hS, g710 hS, g712 hS, g713 hS, g714 hS, g715 hS, g716 hS, g720 hS, g721 hS, g722 hS, g723 hS, g724 hS, g725 hS, g726 hS, g728 hS, g729 hS, g730 hS, g731 hS, g732 hS, g733 hS, g734 hS, g735 hS, g736 hS, g737 hS, g738 hS, g740 hS, g751 hS, g752 hS, e1, e2, br_n c1, br_n c2, inb (show nx < 8 by omega) (by decide), nI_clamp (show nx < 2 ^ 31 by omega), e3]
theorem turn2 {N : Nat} {z : Hp} {nb : Nat} (hN : 6000 ≤ N) (hS : Sh z) (htn : I_tn z nb) (hsd : zF z 579 11 = zF z 743 17) (hnb : nb ≤ 8) (h0 : 0 < nb) : ∃ z1 nx b, b < nb ∧ nx < nb ∧ fX10_upNext N 11 (nI nb) z = some (nI b, z1) ∧ Rch z z1 [577, 578, 579] [12] ∧ zF z1 578 11 = nI nx ∧ zF z1 577 11 = nI nb ∧
    ∀ x, Sh x → zF x 706 17 = nI nb → zF x 741 17 = zF z 741 17 → zF x 742 17 = zF z 742 17 → zF x 743 17 = zF z 743 17 → zA x 45 = zA z 45 → ∃ x1, fX12_drawTurns N 17 x = some x1 ∧ Rch x x1 [741, 742, 743] [45] ∧ zF x1 741 17 = nI (nb - nx) ∧ zF x1 742 17 = nI nb ∧ zF x1 743 17 = zF z1 579 11 ∧ (∀ k, k < nb → zA z1 12 k = zA x1 45 k ∧ ∃ j, j < nb ∧ zA x1 45 k = nI j) ∧ zA x1 45 nx = nI b := by
  obtain ⟨tl, tm, len, nx, t1, t2, t3, t4, t5, t6, t7, t8, t9⟩ := htn
  rcases t9 with ⟨u1, u2⟩ | ⟨u1, u2, u3, u4, u5⟩
  · -- drawn anew
    have c : ¬ nI nx < nI len := nI_nlt u2 (by omega)
    have c8 : (if (8 : Int32) < nI nb then (8 : Int32) else nI nb) = nI nb := if_neg (by rw [show (8 : Int32) = nI 8 from rfl]; exact nI_nlt hnb (by decide))
    obtain ⟨z1, g1, g2, g3, g4, g5, g6⟩ := fillC (N := N) hN hnb h0 nb 0 z (zF z 743 17) (zA z 12) N (by omega) (by omega) hS hsd rfl
    have hS1 := g2.sh hS
    have hid : ∀ (A : Nat → Int32) i, i < nb → ∃ j, j < nb ∧ idF A nb i = nI j := fun A i hi => ⟨i, hi, idF_e nb i hi⟩
    obtain ⟨b, hb, eb⟩ := shF_rng hnb (nb - 1) (zF z 743 17) (idF (zA z 12) nb) (by omega) (hid _) 0 h0
    refine ⟨z1, 0, b, hb, h0, ?_, g2, g6, g5, ?_⟩
    · have hd : fX10_draw N 11 (nI nb) z = some z1 := g1
      simp only [fX10_upNext, gdT, brTr, brFa, br_00, br_10, bd_e, bo_s, bp_s, cs_s, cs_n, lf_s, o0 hS, o1 hS, o2 hS, o3 hS, o4 hS, o5 hS, o6 hS, o7 hS, o8 hS, o9 hS, o10 hS, o11 hS, o12 hS, o13 hS, o14 hS, o15 hS, o16 hS, o17 hS, o18 hS, o19 hS, o20 hS, o21 hS, o22 hS, o23 hS, o24 hS, o25 hS, o26 hS, o27 hS, o28 hS, o29 hS, o30 hS, o31 hS, o32 hS, o33 hS, o34 hS, o35 hS, o36 hS, o37 hS, o38 hS, o39 hS, o40 hS, o41 hS, o42 hS, o43 hS, o44 hS, o45 hS, o46 hS, o47 hS, l2 hS, l3 hS, l4 hS, l5 hS, l7 hS, l8 hS, l10 hS, l12 hS, l14 hS, l15 hS, l16 hS, l18 hS, l19 hS, l20 hS, l21 hS, l22 hS, l23 hS, l24 hS, l25 hS, l26 hS, l27 hS, l28 hS, l29 hS, l30 hS, l31 hS, l32 hS, l33 hS, l34 hS, l35 hS, l36 hS, l37 hS, l38 hS, l39 hS, l40 hS, l41 hS, l42 hS, l43 hS, l44 hS, l45 hS, l46 hS, l47 hS, g640 hS, g641 hS, g642 hS, g643 hS, g644 hS, g645 hS, g128 hS, g129 hS, g130 hS, g131 hS, g384 hS, g385 hS, g256 hS, g576 hS, g192 hS, g193 hS, g707 hS, g708 hS, g709 hS, g710 hS, g712 hS, g713 hS, g714 hS, g715 hS, g716 hS, g720 hS, g721 hS, g722 hS, g723 hS, g724 hS, g725 hS, g726 hS, g728 hS, g729 hS, g730 hS, g731 hS, g732 hS, g733 hS, g734 hS, g735 hS, g736 hS, g737 hS, g738 hS, g740 hS, g751 hS, g752 hS, t3, t4, br_n c, c8, hd]
      exact upTail hS1 g6 g5 h0 hnb (by rw [g4]; exact eb)
    · intro x hSx x0 x1 x2 x3 x4
      have c1 : zF x 741 17 ≤ 0 := by rw [x1, t1, u1]; decide
      obtain ⟨y, k1, k2, k3, k4, k5, k6⟩ := fillM (N := N) hN hnb h0 nb 0 x (zF z 743 17) (zA z 45) N (by omega) (by omega) hSx x0 x3 x4
      have heq := shF_eq hnb (nb - 1) (zF z 743 17) (idF (zA z 12) nb) (idF (zA z 45) nb) (by omega) (fun i hi => by rw [idF_e nb i hi, idF_e nb i hi])
      refine ⟨y, ?_, k2, by rw [k5, Nat.sub_zero], k6, ?_, fun k hk => ⟨?_, ?_⟩, ?_⟩
      · simp only [fX12_drawTurns, gdT, brTr, brFa, br_00, br_10, bd_e, bo_s, bp_s, cs_s, cs_n, lf_s, o0 hSx, o1 hSx, o2 hSx, o3 hSx, o4 hSx, o5 hSx, o6 hSx, o7 hSx, o8 hSx, o9 hSx, o10 hSx, o11 hSx, o12 hSx, o13 hSx, o14 hSx, o15 hSx, o16 hSx, o17 hSx, o18 hSx, o19 hSx, o20 hSx, o21 hSx, o22 hSx, o23 hSx, o24 hSx, o25 hSx, o26 hSx, o27 hSx, o28 hSx, o29 hSx, o30 hSx, o31 hSx, o32 hSx, o33 hSx, o34 hSx, o35 hSx, o36 hSx, o37 hSx, o38 hSx, o39 hSx, o40 hSx, o41 hSx, o42 hSx, o43 hSx, o44 hSx, o45 hSx, o46 hSx, o47 hSx, l2 hSx, l3 hSx, l4 hSx, l5 hSx, l7 hSx, l8 hSx, l10 hSx, l12 hSx, l14 hSx, l15 hSx, l16 hSx, l18 hSx, l19 hSx, l20 hSx, l21 hSx, l22 hSx, l23 hSx, l24 hSx, l25 hSx, l26 hSx, l27 hSx, l28 hSx, l29 hSx, l30 hSx, l31 hSx, l32 hSx, l33 hSx, l34 hSx, l35 hSx, l36 hSx, l37 hSx, l38 hSx, l39 hSx, l40 hSx, l41 hSx, l42 hSx, l43 hSx, l44 hSx, l45 hSx, l46 hSx, l47 hSx, g640 hSx, g641 hSx, g642 hSx, g643 hSx, g644 hSx, g645 hSx, g128 hSx, g129 hSx, g130 hSx, g131 hSx, g384 hSx, g385 hSx, g256 hSx, g576 hSx, g192 hSx, g193 hSx, g707 hSx, g708 hSx, g709 hSx, g710 hSx, g712 hSx, g713 hSx, g714 hSx, g715 hSx, g716 hSx, g720 hSx, g721 hSx, g722 hSx, g723 hSx, g724 hSx, g725 hSx, g726 hSx, g728 hSx, g729 hSx, g730 hSx, g731 hSx, g732 hSx, g733 hSx, g734 hSx, g735 hSx, g736 hSx, g737 hSx, g738 hSx, g740 hSx, g751 hSx, g752 hSx, br_y c1]
        exact k1
      · rw [k3, g3]; exact shF_s _ _ _ _
      · rw [g4, k4]; exact heq k hk
      · rw [k4]; exact shF_rng hnb (nb - 1) _ _ (by omega) (hid _) k hk
      · rw [k4, ← heq 0 h0]; exact eb
  · -- as it stands
    have hx : nx < nb := by omega
    have c : nI nx < nI len := nI_lt (by omega) (by omega)
    obtain ⟨v1, b, hb, v2⟩ := u5 nx (by omega)
    have e2 : zF z 577 11 = nI nb := by rw [t3, u2, u4]
    refine ⟨z, nx, b, hb, hx, ?_, Rch.refl _ _ _, t4, e2, ?_⟩
    · simp only [fX10_upNext, gdT, brTr, brFa, br_00, br_10, bd_e, bo_s, bp_s, cs_s, cs_n, lf_s, o0 hS, o1 hS, o2 hS, o3 hS, o4 hS, o5 hS, o6 hS, o7 hS, o8 hS, o9 hS, o10 hS, o11 hS, o12 hS, o13 hS, o14 hS, o15 hS, o16 hS, o17 hS, o18 hS, o19 hS, o20 hS, o21 hS, o22 hS, o23 hS, o24 hS, o25 hS, o26 hS, o27 hS, o28 hS, o29 hS, o30 hS, o31 hS, o32 hS, o33 hS, o34 hS, o35 hS, o36 hS, o37 hS, o38 hS, o39 hS, o40 hS, o41 hS, o42 hS, o43 hS, o44 hS, o45 hS, o46 hS, o47 hS, l2 hS, l3 hS, l4 hS, l5 hS, l7 hS, l8 hS, l10 hS, l12 hS, l14 hS, l15 hS, l16 hS, l18 hS, l19 hS, l20 hS, l21 hS, l22 hS, l23 hS, l24 hS, l25 hS, l26 hS, l27 hS, l28 hS, l29 hS, l30 hS, l31 hS, l32 hS, l33 hS, l34 hS, l35 hS, l36 hS, l37 hS, l38 hS, l39 hS, l40 hS, l41 hS, l42 hS, l43 hS, l44 hS, l45 hS, l46 hS, l47 hS, g640 hS, g641 hS, g642 hS, g643 hS, g644 hS, g645 hS, g128 hS, g129 hS, g130 hS, g131 hS, g384 hS, g385 hS, g256 hS, g576 hS, g192 hS, g193 hS, g707 hS, g708 hS, g709 hS, g710 hS, g712 hS, g713 hS, g714 hS, g715 hS, g716 hS, g720 hS, g721 hS, g722 hS, g723 hS, g724 hS, g725 hS, g726 hS, g728 hS, g729 hS, g730 hS, g731 hS, g732 hS, g733 hS, g734 hS, g735 hS, g736 hS, g737 hS, g738 hS, g740 hS, g751 hS, g752 hS, t3, t4, br_y c]
      exact upTail hS t4 e2 hx hnb (v1.trans v2)
    · intro x hSx x0 x1 x2 x3 x4
      have c1 : ¬ zF x 741 17 ≤ 0 := by rw [x1, t1]; exact nI_nle u1 (by omega)
      refine ⟨x, ?_, Rch.refl _ _ _, by rw [x1, t1]; exact congrArg nI (by omega), by rw [x2, t2, u4], by rw [x3]; exact hsd.symm, fun k hk => ?_, by rw [x4]; exact v2⟩
      · simp only [fX12_drawTurns, gdT, brTr, brFa, br_00, br_10, bd_e, bo_s, bp_s, cs_s, cs_n, lf_s, o0 hSx, o1 hSx, o2 hSx, o3 hSx, o4 hSx, o5 hSx, o6 hSx, o7 hSx, o8 hSx, o9 hSx, o10 hSx, o11 hSx, o12 hSx, o13 hSx, o14 hSx, o15 hSx, o16 hSx, o17 hSx, o18 hSx, o19 hSx, o20 hSx, o21 hSx, o22 hSx, o23 hSx, o24 hSx, o25 hSx, o26 hSx, o27 hSx, o28 hSx, o29 hSx, o30 hSx, o31 hSx, o32 hSx, o33 hSx, o34 hSx, o35 hSx, o36 hSx, o37 hSx, o38 hSx, o39 hSx, o40 hSx, o41 hSx, o42 hSx, o43 hSx, o44 hSx, o45 hSx, o46 hSx, o47 hSx, l2 hSx, l3 hSx, l4 hSx, l5 hSx, l7 hSx, l8 hSx, l10 hSx, l12 hSx, l14 hSx, l15 hSx, l16 hSx, l18 hSx, l19 hSx, l20 hSx, l21 hSx, l22 hSx, l23 hSx, l24 hSx, l25 hSx, l26 hSx, l27 hSx, l28 hSx, l29 hSx, l30 hSx, l31 hSx, l32 hSx, l33 hSx, l34 hSx, l35 hSx, l36 hSx, l37 hSx, l38 hSx, l39 hSx, l40 hSx, l41 hSx, l42 hSx, l43 hSx, l44 hSx, l45 hSx, l46 hSx, l47 hSx, g640 hSx, g641 hSx, g642 hSx, g643 hSx, g644 hSx, g645 hSx, g128 hSx, g129 hSx, g130 hSx, g131 hSx, g384 hSx, g385 hSx, g256 hSx, g576 hSx, g192 hSx, g193 hSx, g707 hSx, g708 hSx, g709 hSx, g710 hSx, g712 hSx, g713 hSx, g714 hSx, g715 hSx, g716 hSx, g720 hSx, g721 hSx, g722 hSx, g723 hSx, g724 hSx, g725 hSx, g726 hSx, g728 hSx, g729 hSx, g730 hSx, g731 hSx, g732 hSx, g733 hSx, g734 hSx, g735 hSx, g736 hSx, g737 hSx, g738 hSx, g740 hSx, g751 hSx, g752 hSx, br_n c1]
      · rw [x4]; exact u5 k (by omega)
theorem Rch.rt {z z' : Hp} {L M : List Nat} {w h nb nr ng gv nt nh : Nat} (hr : Rch z z' L M) (hL : ∀ f : Nat, f ∈ L → f ∈ [577, 578, 579, 741, 742, 743]) (hM : ∀ c : Nat, c ∈ M → c = 12 ∨ c = 45) (hh : Rt z w h nb nr ng gv nt nh) : Rt z' w h nb nr ng gv nt nh := hr (fun y => Rt y w h nb nr ng gv nt nh) (fun y f c v hf _ q => q.sF (hL f hf)) (fun y c i v hc q => q.sA (hM c hc)) hh
theorem Inv.rt {z : Hp} {w h nb nr ng gv nt nh nx : Nat} (hr : Rt z w h nb nr ng gv nt nh) (hsd : zF z 579 11 = zF z 743 17) (e1 : zF z 741 17 = nI (nb - nx)) (e2 : zF z 742 17 = nI nb) (e3 : zF z 577 11 = nI nb) (e4 : zF z 578 11 = nI nx) (hnb : nb ≤ 8) (hx : nx < nb) (hk : ∀ k, k < nb → zA z 12 k = zA z 45 k ∧ ∃ j, j < nb ∧ zA z 45 k = nI j) : Inv z := by
  obtain ⟨hS, ⟨s1, s2, s3, s4, s5, s6⟩, hst, hn, hhv, hrec, hbk, hgr, hgf, hmk, htx⟩ := hr
  exact ⟨hS, ⟨s1, s2, s3, s4, s5, s6, hsd⟩, hst, w, h, nb, nr, ng, gv, nt, nh, hn, hhv, hrec, hbk, hgr, hgf, hmk, htx, nb - nx, nb, nb, nx, e1, e2, e3, e4, hnb, by omega, hnb, by omega, Or.inr ⟨by omega, rfl, by omega, rfl, hk⟩⟩
theorem op_turn (N : Nat) (hN : 6000 ≤ N) : Op_turn N Inv := by
  intro z hI
  obtain ⟨hS, hsc, hst, w, h, nb, nr, ng, gv, nt, nh, hn, hhv, hrec, hbk, hgr, hgf, hmk, htx, htn⟩ := id hI
  obtain ⟨-, ⟨n6, n7, n8⟩, -⟩ := id hn
  by_cases h0 : nb = 0
  · have c : nI nb = 0 := by rw [h0]; rfl
    refine ⟨-3, z, z, ?_, of_eq_true (o17 hS), ?_, hI⟩
    · simp only [fX11_turn, gdT, brTr, brFa, br_00, br_10, bd_e, bo_s, bp_s, cs_s, cs_n, lf_s, o0 hS, o1 hS, o2 hS, o3 hS, o4 hS, o5 hS, o6 hS, o7 hS, o8 hS, o9 hS, o10 hS, o11 hS, o12 hS, o13 hS, o14 hS, o15 hS, o16 hS, o17 hS, o18 hS, o19 hS, o20 hS, o21 hS, o22 hS, o23 hS, o24 hS, o25 hS, o26 hS, o27 hS, o28 hS, o29 hS, o30 hS, o31 hS, o32 hS, o33 hS, o34 hS, o35 hS, o36 hS, o37 hS, o38 hS, o39 hS, o40 hS, o41 hS, o42 hS, o43 hS, o44 hS, o45 hS, o46 hS, o47 hS, l2 hS, l3 hS, l4 hS, l5 hS, l7 hS, l8 hS, l10 hS, l12 hS, l14 hS, l15 hS, l16 hS, l18 hS, l19 hS, l20 hS, l21 hS, l22 hS, l23 hS, l24 hS, l25 hS, l26 hS, l27 hS, l28 hS, l29 hS, l30 hS, l31 hS, l32 hS, l33 hS, l34 hS, l35 hS, l36 hS, l37 hS, l38 hS, l39 hS, l40 hS, l41 hS, l42 hS, l43 hS, l44 hS, l45 hS, l46 hS, l47 hS, g640 hS, g641 hS, g642 hS, g643 hS, g644 hS, g645 hS, g128 hS, g129 hS, g130 hS, g131 hS, g384 hS, g385 hS, g256 hS, g576 hS, g192 hS, g193 hS, g707 hS, g708 hS, g709 hS, g710 hS, g712 hS, g713 hS, g714 hS, g715 hS, g716 hS, g720 hS, g721 hS, g722 hS, g723 hS, g724 hS, g725 hS, g726 hS, g728 hS, g729 hS, g730 hS, g731 hS, g732 hS, g733 hS, g734 hS, g735 hS, g736 hS, g737 hS, g738 hS, g740 hS, g751 hS, g752 hS, n7, br_y c]
    · simp only [fX12_turn, gdT, brTr, brFa, br_00, br_10, bd_e, bo_s, bp_s, cs_s, cs_n, lf_s, o0 hS, o1 hS, o2 hS, o3 hS, o4 hS, o5 hS, o6 hS, o7 hS, o8 hS, o9 hS, o10 hS, o11 hS, o12 hS, o13 hS, o14 hS, o15 hS, o16 hS, o17 hS, o18 hS, o19 hS, o20 hS, o21 hS, o22 hS, o23 hS, o24 hS, o25 hS, o26 hS, o27 hS, o28 hS, o29 hS, o30 hS, o31 hS, o32 hS, o33 hS, o34 hS, o35 hS, o36 hS, o37 hS, o38 hS, o39 hS, o40 hS, o41 hS, o42 hS, o43 hS, o44 hS, o45 hS, o46 hS, o47 hS, l2 hS, l3 hS, l4 hS, l5 hS, l7 hS, l8 hS, l10 hS, l12 hS, l14 hS, l15 hS, l16 hS, l18 hS, l19 hS, l20 hS, l21 hS, l22 hS, l23 hS, l24 hS, l25 hS, l26 hS, l27 hS, l28 hS, l29 hS, l30 hS, l31 hS, l32 hS, l33 hS, l34 hS, l35 hS, l36 hS, l37 hS, l38 hS, l39 hS, l40 hS, l41 hS, l42 hS, l43 hS, l44 hS, l45 hS, l46 hS, l47 hS, g640 hS, g641 hS, g642 hS, g643 hS, g644 hS, g645 hS, g128 hS, g129 hS, g130 hS, g131 hS, g384 hS, g385 hS, g256 hS, g576 hS, g192 hS, g193 hS, g707 hS, g708 hS, g709 hS, g710 hS, g712 hS, g713 hS, g714 hS, g715 hS, g716 hS, g720 hS, g721 hS, g722 hS, g723 hS, g724 hS, g725 hS, g726 hS, g728 hS, g729 hS, g730 hS, g731 hS, g732 hS, g733 hS, g734 hS, g735 hS, g736 hS, g737 hS, g738 hS, g740 hS, g751 hS, g752 hS, n6, br_y c]
  have c : ¬ nI nb = 0 := nI_ne0 (by omega) (by omega)
  obtain ⟨s1, s2, s3, s4, s5, s6, s7⟩ := id hsc
  obtain ⟨z1, nx, b, hb, hx, g1, g2, g3, g4, g5⟩ := turn2 (N := N) hN hS htn s7 n8 (by omega)
  have hS1 := g2.sh hS
  obtain ⟨x1, k1, k2, k3, k4, k5, k6, k7⟩ := g5 z1 hS1 (by rw [g2.eF (by decide)]; exact n6) (by rw [g2.eF (by decide)]) (by rw [g2.eF (by decide)]) (by rw [g2.eF (by decide)]) (by rw [g2.eA (by decide)])
  have hS2 := k2.sh hS1
  have hR : Rt x1 w h nb nr ng gv nt nh := k2.rt (by decide) (by decide) (g2.rt (by decide) (by decide) ⟨hS, ⟨s1, s2, s3, s4, s5, s6⟩, hst, hn, hhv, hrec, hbk, hgr, hgf, hmk, htx⟩)
  refine ⟨nI b, z1, x1, ?_, of_eq_true (o17 hS1), ?_, Inv.rt hR (by rw [k2.eF (by decide)]; exact k5.symm) k3 k4 (by rw [k2.eF (by decide)]; exact g4) (by rw [k2.eF (by decide)]; exact g3) n8 hx (by rw [k2.eA (by decide)]; exact k6)⟩
  · simp only [fX11_turn, gdT, brTr, brFa, br_00, br_10, bd_e, bo_s, bp_s, cs_s, cs_n, lf_s, o0 hS, o1 hS, o2 hS, o3 hS, o4 hS, o5 hS, o6 hS, o7 hS, o8 hS, o9 hS, o10 hS, o11 hS, o12 hS, o13 hS, o14 hS, o15 hS, o16 hS, o17 hS, o18 hS, o19 hS, o20 hS, o21 hS, o22 hS, o23 hS, o24 hS, o25 hS, o26 hS, o27 hS, o28 hS, o29 hS, o30 hS, o31 hS, o32 hS, o33 hS, o34 hS, o35 hS, o36 hS, o37 hS, o38 hS, o39 hS, o40 hS, o41 hS, o42 hS, o43 hS, o44 hS, o45 hS, o46 hS, o47 hS, l2 hS, l3 hS, l4 hS, l5 hS, l7 hS, l8 hS, l10 hS, l12 hS, l14 hS, l15 hS, l16 hS, l18 hS, l19 hS, l20 hS, l21 hS, l22 hS, l23 hS, l24 hS, l25 hS, l26 hS, l27 hS, l28 hS, l29 hS, l30 hS, l31 hS, l32 hS, l33 hS, l34 hS, l35 hS, l36 hS, l37 hS, l38 hS, l39 hS, l40 hS, l41 hS, l42 hS, l43 hS, l44 hS, l45 hS, l46 hS, l47 hS, g640 hS, g641 hS, g642 hS, g643 hS, g644 hS, g645 hS, g128 hS, g129 hS, g130 hS, g131 hS, g384 hS, g385 hS, g256 hS, g576 hS, g192 hS, g193 hS, g707 hS, g708 hS, g709 hS, g710 hS, g712 hS, g713 hS, g714 hS, g715 hS, g716 hS, g720 hS, g721 hS, g722 hS, g723 hS, g724 hS, g725 hS, g726 hS, g728 hS, g729 hS, g730 hS, g731 hS, g732 hS, g733 hS, g734 hS, g735 hS, g736 hS, g737 hS, g738 hS, g740 hS, g751 hS, g752 hS, n7, br_n c, g1]
  · have e706 : zF z1 706 17 = nI nb := by rw [g2.eF (by decide)]; exact n6
    have ev : nI nb - nI (nb - nx) = nI nx := by rw [pk_sub (by omega)]; exact congrArg nI (by omega)
    simp only [fX12_turn, gdT, brTr, brFa, br_00, br_10, bd_e, bo_s, bp_s, cs_s, cs_n, lf_s, o0 hS1, o1 hS1, o2 hS1, o3 hS1, o4 hS1, o5 hS1, o6 hS1, o7 hS1, o8 hS1, o9 hS1, o10 hS1, o11 hS1, o12 hS1, o13 hS1, o14 hS1, o15 hS1, o16 hS1, o17 hS1, o18 hS1, o19 hS1, o20 hS1, o21 hS1, o22 hS1, o23 hS1, o24 hS1, o25 hS1, o26 hS1, o27 hS1, o28 hS1, o29 hS1, o30 hS1, o31 hS1, o32 hS1, o33 hS1, o34 hS1, o35 hS1, o36 hS1, o37 hS1, o38 hS1, o39 hS1, o40 hS1, o41 hS1, o42 hS1, o43 hS1, o44 hS1, o45 hS1, o46 hS1, o47 hS1, l2 hS1, l3 hS1, l4 hS1, l5 hS1, l7 hS1, l8 hS1, l10 hS1, l12 hS1, l14 hS1, l15 hS1, l16 hS1, l18 hS1, l19 hS1, l20 hS1, l21 hS1, l22 hS1, l23 hS1, l24 hS1, l25 hS1, l26 hS1, l27 hS1, l28 hS1, l29 hS1, l30 hS1, l31 hS1, l32 hS1, l33 hS1, l34 hS1, l35 hS1, l36 hS1, l37 hS1, l38 hS1, l39 hS1, l40 hS1, l41 hS1, l42 hS1, l43 hS1, l44 hS1, l45 hS1, l46 hS1, l47 hS1, g640 hS1, g641 hS1, g642 hS1, g643 hS1, g644 hS1, g645 hS1, g128 hS1, g129 hS1, g130 hS1, g131 hS1, g384 hS1, g385 hS1, g256 hS1, g576 hS1, g192 hS1, g193 hS1, g707 hS1, g708 hS1, g709 hS1, g710 hS1, g712 hS1, g713 hS1, g714 hS1, g715 hS1, g716 hS1, g720 hS1, g721 hS1, g722 hS1, g723 hS1, g724 hS1, g725 hS1, g726 hS1, g728 hS1, g729 hS1, g730 hS1, g731 hS1, g732 hS1, g733 hS1, g734 hS1, g735 hS1, g736 hS1, g737 hS1, g738 hS1, g740 hS1, g751 hS1, g752 hS1, e706, br_n c, k1, o0 hS2, o1 hS2, o2 hS2, o3 hS2, o4 hS2, o5 hS2, o6 hS2, o7 hS2, o8 hS2, o9 hS2, o10 hS2, o11 hS2, o12 hS2, o13 hS2, o14 hS2, o15 hS2, o16 hS2, o17 hS2, o18 hS2, o19 hS2, o20 hS2, o21 hS2, o22 hS2, o23 hS2, o24 hS2, o25 hS2, o26 hS2, o27 hS2, o28 hS2, o29 hS2, o30 hS2, o31 hS2, o32 hS2, o33 hS2, o34 hS2, o35 hS2, o36 hS2, o37 hS2, o38 hS2, o39 hS2, o40 hS2, o41 hS2, o42 hS2, o43 hS2, o44 hS2, o45 hS2, o46 hS2, o47 hS2, l2 hS2, l3 hS2, l4 hS2, l5 hS2, l7 hS2, l8 hS2, l10 hS2, l12 hS2, l14 hS2, l15 hS2, l16 hS2, l18 hS2, l19 hS2, l20 hS2, l21 hS2, l22 hS2, l23 hS2, l24 hS2, l25 hS2, l26 hS2, l27 hS2, l28 hS2, l29 hS2, l30 hS2, l31 hS2, l32 hS2, l33 hS2, l34 hS2, l35 hS2, l36 hS2, l37 hS2, l38 hS2, l39 hS2, l40 hS2, l41 hS2, l42 hS2, l43 hS2, l44 hS2, l45 hS2, l46 hS2, l47 hS2, g640 hS2, g641 hS2, g642 hS2, g643 hS2, g644 hS2, g645 hS2, g128 hS2, g129 hS2, g130 hS2, g131 hS2, g384 hS2, g385 hS2, g256 hS2, g576 hS2, g192 hS2, g193 hS2, g707 hS2, g708 hS2, g709 hS2, g710 hS2, g712 hS2, g713 hS2, g714 hS2, g715 hS2, g716 hS2, g720 hS2, g721 hS2, g722 hS2, g723 hS2, g724 hS2, g725 hS2, g726 hS2, g728 hS2, g729 hS2, g730 hS2, g731 hS2, g732 hS2, g733 hS2, g734 hS2, g735 hS2, g736 hS2, g737 hS2, g738 hS2, g740 hS2, g751 hS2, g752 hS2, k3, k4, ev, inb (show nx < 8 by omega) (by decide), nI_clamp (show nx < 2 ^ 31 by omega), k7]
