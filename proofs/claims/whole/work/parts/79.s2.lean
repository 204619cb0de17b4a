-- CONGRUENCES of the invariant's parts, by whole fields and rows
theorem zsF_id {z : Hp} {f a : Nat} {v : Int32} (h : zF z f a = v) : zsF z f a v = z := by
  have e : u2 (zF z) f a v = zF z := by
    funext x y
    unfold u2
    split
    · rename_i q; rw [q.1, q.2, h]
    · rfl
  unfold zsF
  rw [e]
  rfl
theorem zsA_id {z : Hp} {f a : Nat} {v : Int32} (h : zA z f a = v) : zsA z f a v = z := by
  have e : u2 (zA z) f a v = zA z := by
    funext x y
    unfold u2
    split
    · rename_i q; rw [q.1, q.2, h]
    · rfl
  unfold zsA
  rw [e]
  rfl
theorem Sm.trans {x y z : Hp} {a : Nat} (h : Sm x y a) (h' : Sm y z a) : Sm x z a := ⟨h'.1.trans h.1, fun f => (h'.2.1 f).trans (h.2.1 f), fun f => (h'.2.2 f).trans (h.2.2 f)⟩
theorem I_st.fx {z z' : Hp} (h : I_st z) (hF : ∀ f, f ∈ [746, 747, 748, 749, 195, 196, 197, 198, 199, 750] → zF z' f = zF z f) : I_st z' := by
  simp only [I_st] at h ⊢
  simp only [hF 746 (by decide), hF 747 (by decide), hF 748 (by decide), hF 749 (by decide), hF 195 (by decide), hF 196 (by decide), hF 197 (by decide), hF 198 (by decide), hF 199 (by decide), hF 750 (by decide)]
  exact h
theorem I_sc0.fx {z z' : Hp} (h : I_sc0 z) (hF : ∀ f, f ∈ [718, 648, 651, 719, 649, 744, 650, 745] → zF z' f = zF z f) : I_sc0 z' := by
  simp only [I_sc0] at h ⊢
  simp only [hF 718 (by decide), hF 648 (by decide), hF 651 (by decide), hF 719 (by decide), hF 649 (by decide), hF 744 (by decide), hF 650 (by decide), hF 745 (by decide)]
  exact h
theorem I_sc0.al {z : Hp} {k n : Nat} (h : I_sc0 z) (hS : Sh z) : I_sc0 (zal z k n) := by
  have hne : ∀ a, a < 48 → a ≠ zn z := fun a ha => ne_n hS ha
  simp only [I_sc0] at h ⊢
  simp only [al_F, va_up_ne _ _ (hne 0 (by decide)), va_up_ne _ _ (hne 17 (by decide))]
  exact h
theorem I_hv.fx {z z' : Hp} {w nh : Nat} (h : I_hv z w nh) (hA : ∀ f, f ∈ [46, 47, 14, 15] → zA z' f = zA z f) : I_hv z' w nh := by
  simp only [I_hv] at h ⊢
  simp only [hA 46 (by decide), hA 47 (by decide), hA 14 (by decide), hA 15 (by decide)]
  exact h
theorem I_mk.fx {z z' : Hp} {nr : Nat} (h : I_mk z nr) (hA : ∀ f, f ∈ [18, 19, 22, 23] → zA z' f = zA z f) (hJ : zJ z' = zJ z) : I_mk z' nr := by
  simp only [I_mk] at h ⊢
  simp only [hA 18 (by decide), hA 19 (by decide), hA 22 (by decide), hA 23 (by decide), hJ]
  exact h
theorem I_tx.fx {z z' : Hp} {nt : Nat} (h : I_tx z nt) (hn : zn z' = zn z) (hK : zK z' = zK z) (hL : zL z' = zL z) (hF : ∀ f, f ∈ [512, 513, 514, 518] → zF z' f = zF z f) (hG : ∀ f, f ∈ [515, 516, 517] → zG z' f = zG z f) (hA : ∀ c, c ∈ [39, 40, 41, 42, 43, 44] ∨ 48 ≤ c → zA z' c = zA z c) (hR : zR z' 10 = zR z 10) : I_tx z' nt := by
  obtain ⟨h1, h2, h3⟩ := h
  refine ⟨fun t ht => ?_, by rw [hR]; exact h2, fun t ht => by rw [hA 44 (Or.inl (by decide))]; exact h3 t ht⟩
  obtain ⟨a, k1, k2⟩ := h1 t ht
  refine ⟨a, by rw [hR]; exact k1, ?_⟩
  have e1 := hA (a + 1) (Or.inr (by have := k2.1; omega))
  have e2 := hA (a + 2) (Or.inr (by have := k2.1; omega))
  have e3 := hA (a + 3) (Or.inr (by have := k2.1; omega))
  unfold txtOf at k2 ⊢
  simp only [hn, hK, hL, e1, e2, e3, hA 39 (Or.inl (by decide)), hA 40 (Or.inl (by decide)), hA 41 (Or.inl (by decide)), hA 42 (Or.inl (by decide)), hA 43 (Or.inl (by decide)), hA 44 (Or.inl (by decide)), hF 512 (by decide), hF 513 (by decide), hF 514 (by decide), hF 518 (by decide), hG 515 (by decide), hG 516 (by decide), hG 517 (by decide)]
  exact k2
theorem Rt.al {z : Hp} {k n w h nb nr ng gv nt nh : Nat} (hh : Rt z w h nb nr ng gv nt nh) : Rt (zal z k n) w h nb nr ng gv nt nh := by
  obtain ⟨hS, hsc, hst, hn, hhv, hrec, hbk, hgr, hgf, hmk, htx⟩ := hh
  exact ⟨hS.al, hsc.al hS, hst.al hS, hn.al hS, hhv.al hS, hrec.al hS, hbk.al hS, hgr.al hS, hgf.al hS, hmk.al hS, htx.al hS⟩
theorem Sh.fx {z z' : Hp} (h : Sh z) (hn : zn z' = zn z) (hK : zK z' = zK z) (hL : zL z' = zL z) (hG : ∀ f c, c < 48 → zG z' f c = zG z f c) : Sh z' := by
  obtain ⟨h1, h2, h3, h4⟩ := h
  refine ⟨by rw [hn]; exact h1, by rw [hK]; exact h2, by rw [hL]; exact h3, fun q hq => ?_⟩
  rw [hG _ _ (gTab_lt q hq)]
  exact h4 q hq
theorem weekNow_c {N : Nat} {z : Hp} {w h : Nat} (hS : Sh z) (e : zF z 647 0 = nI (168 * w + h)) (hw : w < 200) (hh : h < 168) : fX11_weekNow N 0 z = some (nI w) := by
  simp only [fX11_weekNow, gdT, brTr, brFa, br_00, br_10, bd_e, bo_s, bp_s, cs_s, cs_n, lf_s, o0 hS, o1 hS, o2 hS, o3 hS, o4 hS, o5 hS, o6 hS, o7 hS, o8 hS, o9 hS, o10 hS, o11 hS, o12 hS, o13 hS, o14 hS, o15 hS, o16 hS, o17 hS, o18 hS, o19 hS, o20 hS, o21 hS, o22 hS, o23 hS, o24 hS, o25 hS, o26 hS, o27 hS, o28 hS, o29 hS, o30 hS, o31 hS, o32 hS, o33 hS, o34 hS, o35 hS, o36 hS, o37 hS, o38 hS, o39 hS, o40 hS, o41 hS, o42 hS, o43 hS, o44 hS, o45 hS, o46 hS, o47 hS, l2 hS, l3 hS, l4 hS, l5 hS, l7 hS, l8 hS, l10 hS, l12 hS, l14 hS, l15 hS, l16 hS, l18 hS, l19 hS, l20 hS, l21 hS, l22 hS, l23 hS, l24 hS, l25 hS, l26 hS, l27 hS, l28 hS, l29 hS, l30 hS, l31 hS, l32 hS, l33 hS, l34 hS, l35 hS, l36 hS, l37 hS, l38 hS, l39 hS, l40 hS, l41 hS, l42 hS, l43 hS, l44 hS, l45 hS, l46 hS, l47 hS, g640 hS, g641 hS, g642 hS, g643 hS, g644 hS, g645 hS, g128 hS, g129 hS, g130 hS, g131 hS, g384 hS, g385 hS, g256 hS, g576 hS, g192 hS, g193 hS, g707 hS, g708 hS, g709 hS, g710 hS, g712 hS, g713 hS, g714 hS, g715 hS, g716 hS, g720 hS, g721 hS, g722 hS, g723 hS, g724 hS, g725 hS, g726 hS, g728 hS, g729 hS, g730 hS, g731 hS, g732 hS, g733 hS, g734 hS, g735 hS, g736 hS, g737 hS, g738 hS, g740 hS, g751 hS, g752 hS, e]
  have : nI (168 * w + h) / nI 168 = nI ((168 * w + h) / 168) := pk_div (by omega) (by decide) (by decide)
  rw [show (168 : Int32) = nI 168 from rfl, this, show (168 * w + h) / 168 = w by omega]
-- SEARCH, the states
def seZ0 (y : Hp) (n0 nr t b b4 : Nat) : Hp := zsF (enterC (zsF (entZ y n0 nr t b 3) 452 n0 (-6)) n0 nr) 3 b4 (zF y 3 b4 + 1)
def seZ1 (y : Hp) (n0 nr t b b4 : Nat) (v0 v1 v2 v3 v4 v5 s f m : Int32) : Hp := zsF (zsF (zsF (zsF (zsF (zsF (zsF (zsF (zsF (seZ0 y n0 nr t b b4) 452 n0 v0) 453 n0 v1) 454 n0 v2) 455 n0 v3) 456 n0 v4) 4 b4 s) 457 n0 v5) 5 b4 f) 6 b4 m
def seX (x : Hp) (nr nb nx : Nat) (v0 : Int32) : Hp := zsA (zsA (zsA (zsA (zsA (zsA (zsF x 741 17 (nI (nb - nx - 1))) 34 (6 * nr) v0) 34 (6 * nr + 1) 0) 34 (6 * nr + 2) 0) 34 (6 * nr + 3) 0) 34 (6 * nr + 4) 0) 34 (6 * nr + 5) 0
def seM0 (x : Hp) (nr nb nx b : Nat) (v0 v1 v2 v3 v4 v5 s f m : Int32) : Hp := zsA (zsA (zsA (zsA (zsA (zsA (zsA (zsA (seX x nr nb nx v0) 34 (6 * nr + 1) v1) 34 (6 * nr + 2) v2) 34 (6 * nr + 3) v3) 35 b s) 34 (6 * nr + 4) v4) 34 (6 * nr + 5) v5) 36 b f) 37 b m
def seM (x : Hp) (nr nb nx w h b : Nat) (v0 v1 v2 v3 v4 v5 s f m : Int32) : Hp := enterM (seM0 x nr nb nx b v0 v1 v2 v3 v4 v5 s f m) nr w h b 3
theorem six_up {A B : Nat → Int32} {p : Nat} {v0 v1 v2 v3 v4 v5 : Int32} (h : B = va_up (va_up (va_up (va_up (va_up (va_up (va_up (va_up (va_up (va_up (va_up A p v0) (p + 1) 0) (p + 2) 0) (p + 3) 0) (p + 4) 0) (p + 5) 0) (p + 1) v1) (p + 2) v2) (p + 3) v3) (p + 4) v4) (p + 5) v5) : B p = v0 ∧ B (p + 1) = v1 ∧ B (p + 2) = v2 ∧ B (p + 3) = v3 ∧ B (p + 4) = v4 ∧ B (p + 5) = v5 ∧ ∀ i, i < p → B i = A i := by
  subst h
  refine ⟨by simp [va_up], by simp [va_up], by simp [va_up], by simp [va_up], by simp [va_up], by simp [va_up], fun i hi => ?_⟩
  rw [va_up_ne _ _ (by omega), va_up_ne _ _ (by omega), va_up_ne _ _ (by omega), va_up_ne _ _ (by omega), va_up_ne _ _ (by omega), va_up_ne _ _ (by omega), va_up_ne _ _ (by omega), va_up_ne _ _ (by omega), va_up_ne _ _ (by omega), va_up_ne _ _ (by omega), va_up_ne _ _ (by omega)]
theorem seZ1_F {y : Hp} {n0 nr t b b4 : Nat} {v0 v1 v2 v3 v4 v5 s f m : Int32} : ∀ g, g ∉ [768, 769, 770, 771, 452, 453, 454, 455, 456, 457, 132, 3, 4, 5, 6] → zF (seZ1 y n0 nr t b b4 v0 v1 v2 v3 v4 v5 s f m) g = zF y g := by
  intro g hg
  have q1 : g ≠ 768 := fun e => hg (by rw [e]; decide)
  have q2 : g ≠ 769 := fun e => hg (by rw [e]; decide)
  have q3 : g ≠ 770 := fun e => hg (by rw [e]; decide)
  have q4 : g ≠ 771 := fun e => hg (by rw [e]; decide)
  have q5 : g ≠ 452 := fun e => hg (by rw [e]; decide)
  have q6 : g ≠ 453 := fun e => hg (by rw [e]; decide)
  have q7 : g ≠ 454 := fun e => hg (by rw [e]; decide)
  have q8 : g ≠ 455 := fun e => hg (by rw [e]; decide)
  have q9 : g ≠ 456 := fun e => hg (by rw [e]; decide)
  have q10 : g ≠ 457 := fun e => hg (by rw [e]; decide)
  have q11 : g ≠ 132 := fun e => hg (by rw [e]; decide)
  have q12 : g ≠ 3 := fun e => hg (by rw [e]; decide)
  have q13 : g ≠ 4 := fun e => hg (by rw [e]; decide)
  have q14 : g ≠ 5 := fun e => hg (by rw [e]; decide)
  have q15 : g ≠ 6 := fun e => hg (by rw [e]; decide)
  simp only [seZ1, seZ0, enterC, entZ, eR_zF, eF_n _ _ _ _ q1, eF_n _ _ _ _ q2, eF_n _ _ _ _ q3, eF_n _ _ _ _ q4, eF_n _ _ _ _ q5, eF_n _ _ _ _ q6, eF_n _ _ _ _ q7, eF_n _ _ _ _ q8, eF_n _ _ _ _ q9, eF_n _ _ _ _ q10, eF_n _ _ _ _ q11, eF_n _ _ _ _ q12, eF_n _ _ _ _ q13, eF_n _ _ _ _ q14, eF_n _ _ _ _ q15]
theorem seZ0_F {y : Hp} {n0 nr t b b4 : Nat} : ∀ g, g ∉ [768, 769, 770, 771, 452, 132, 3] → zF (seZ0 y n0 nr t b b4) g = zF y g := by
  intro g hg
  have q1 : g ≠ 768 := fun e => hg (by rw [e]; decide)
  have q2 : g ≠ 769 := fun e => hg (by rw [e]; decide)
  have q3 : g ≠ 770 := fun e => hg (by rw [e]; decide)
  have q4 : g ≠ 771 := fun e => hg (by rw [e]; decide)
  have q5 : g ≠ 452 := fun e => hg (by rw [e]; decide)
  have q11 : g ≠ 132 := fun e => hg (by rw [e]; decide)
  have q12 : g ≠ 3 := fun e => hg (by rw [e]; decide)
  simp only [seZ0, enterC, entZ, eR_zF, eF_n _ _ _ _ q1, eF_n _ _ _ _ q2, eF_n _ _ _ _ q3, eF_n _ _ _ _ q4, eF_n _ _ _ _ q5, eF_n _ _ _ _ q11, eF_n _ _ _ _ q12]
theorem seZ0_sm {y : Hp} {n0 nr t b b4 a : Nat} (h1 : 48 ≤ a) (h2 : a ≠ n0) (h3 : a ≠ b4) : Sm y (seZ0 y n0 nr t b b4) a := by
  unfold seZ0 enterC entZ
  exact Sm.refl y a |>.sF h2 |>.sF h2 |>.sF h2 |>.sF h2 |>.sF h2 |>.sR |>.sF (by omega) |>.sF h3
theorem seZ1_sm {y : Hp} {n0 nr t b b4 a : Nat} {v0 v1 v2 v3 v4 v5 s f m : Int32} (h1 : 48 ≤ a) (h2 : a ≠ n0) (h3 : a ≠ b4) : Sm y (seZ1 y n0 nr t b b4 v0 v1 v2 v3 v4 v5 s f m) a := by
  unfold seZ1
  exact seZ0_sm h1 h2 h3 |>.sF h2 |>.sF h2 |>.sF h2 |>.sF h2 |>.sF h2 |>.sF h3 |>.sF h2 |>.sF h3 |>.sF h3
theorem seM_F {x : Hp} {nr nb nx w h b : Nat} {v0 v1 v2 v3 v4 v5 s f m : Int32} : ∀ g, g ∉ [741, 711] → zF (seM x nr nb nx w h b v0 v1 v2 v3 v4 v5 s f m) g = zF x g := by
  intro g hg
  have q1 : g ≠ 741 := fun e => hg (by rw [e]; decide)
  have q2 : g ≠ 711 := fun e => hg (by rw [e]; decide)
  simp only [seM, seM0, seX, enterM, eA_zF, eF_n _ _ _ _ q1, eF_n _ _ _ _ q2]
theorem seX_F {x : Hp} {nr nb nx : Nat} {v0 : Int32} : ∀ g, g ∉ [741] → zF (seX x nr nb nx v0) g = zF x g := by
  intro g hg
  have q1 : g ≠ 741 := fun e => hg (by rw [e]; decide)
  simp only [seX, eA_zF, eF_n _ _ _ _ q1]
theorem seM_A {x : Hp} {nr nb nx w h b : Nat} {v0 v1 v2 v3 v4 v5 s f m : Int32} : ∀ g, g ∉ [34, 35, 36, 37, 18, 19, 20, 21] → zA (seM x nr nb nx w h b v0 v1 v2 v3 v4 v5 s f m) g = zA x g := by
  intro g hg
  have q1 : g ≠ 34 := fun e => hg (by rw [e]; decide)
  have q2 : g ≠ 35 := fun e => hg (by rw [e]; decide)
  have q3 : g ≠ 36 := fun e => hg (by rw [e]; decide)
  have q4 : g ≠ 37 := fun e => hg (by rw [e]; decide)
  have q5 : g ≠ 18 := fun e => hg (by rw [e]; decide)
  have q6 : g ≠ 19 := fun e => hg (by rw [e]; decide)
  have q7 : g ≠ 20 := fun e => hg (by rw [e]; decide)
  have q8 : g ≠ 21 := fun e => hg (by rw [e]; decide)
  simp only [seM, seM0, seX, enterM, eF_zA, eA_n _ _ _ _ q1, eA_n _ _ _ _ q2, eA_n _ _ _ _ q3, eA_n _ _ _ _ q4, eA_n _ _ _ _ q5, eA_n _ _ _ _ q6, eA_n _ _ _ _ q7, eA_n _ _ _ _ q8]
theorem seX_A {x : Hp} {nr nb nx : Nat} {v0 : Int32} : ∀ g, g ≠ 34 → zA (seX x nr nb nx v0) g = zA x g := by
  intro g q1
  simp only [seX, eF_zA, eA_n _ _ _ _ q1]
