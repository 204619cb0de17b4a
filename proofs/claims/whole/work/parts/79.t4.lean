-- BAKE, what stands behind it
theorem I_sc.fx {z z' : Hp} (h : I_sc z) (hF : ∀ f, f ∈ [718, 648, 651, 719, 649, 744, 650, 745, 579, 743] → zF z' f = zF z f) : I_sc z' := by
  simp only [I_sc] at h ⊢
  simp only [hF 718 (by decide), hF 648 (by decide), hF 651 (by decide), hF 719 (by decide), hF 649 (by decide), hF 744 (by decide), hF 650 (by decide), hF 745 (by decide), hF 579 (by decide), hF 743 (by decide)]
  exact h
theorem I_tn.fx {z z' : Hp} {nb : Nat} (h : I_tn z nb) (hF : ∀ f, f ∈ [741, 742, 577, 578] → zF z' f = zF z f) (hA : ∀ c, c ∈ [12, 45] → zA z' c = zA z c) : I_tn z' nb := by
  simp only [I_tn] at h ⊢
  simp only [hF 741 (by decide), hF 742 (by decide), hF 577 (by decide), hF 578 (by decide), hA 12 (by decide), hA 45 (by decide)]
  exact h
def bkI (y : Hp) (n0 nr t b k n wt : Nat) : Hp := zsF (zsF (zsF (entZ y n0 nr t b 2) 68 n0 (nI k)) 69 n0 (nI n)) 70 n0 (nI wt)
def bkS (y : Hp) (n0 nr t b k n wt gv : Nat) : Hp := zsF (enterC (bkI y n0 nr t b k n wt) n0 nr) 71 n0 (nI gv)
def bkC (y z1 : Hp) (n0 b4 need : Nat) : Hp := zsG (zsF (zsF z1 0 b4 (zF y 0 b4 - nI need)) 2 b4 (zF y 2 b4 + 1)) 7 b4 (some n0)
def bkX (x : Hp) (nr k n wt gv : Nat) : Hp := zsA (zsA (zsA (zsA x 27 nr (nI k)) 28 nr (nI n)) 29 nr (nI wt)) 30 nr (nI gv)
def bkE (x : Hp) (nr w h b d : Nat) : Hp := enterM (zsA (zsA x 31 nr (nI d)) 38 b (nI nr)) nr w h b 2
theorem bkS_F {y : Hp} {n0 nr t b k n wt gv : Nat} : ∀ g, g ∉ [768, 769, 770, 771, 68, 69, 70, 71, 132] → zF (bkS y n0 nr t b k n wt gv) g = zF y g := by
  intro g hg
  have q1 : g ≠ 768 := fun e => hg (by rw [e]; decide)
  have q2 : g ≠ 769 := fun e => hg (by rw [e]; decide)
  have q3 : g ≠ 770 := fun e => hg (by rw [e]; decide)
  have q4 : g ≠ 771 := fun e => hg (by rw [e]; decide)
  have q5 : g ≠ 68 := fun e => hg (by rw [e]; decide)
  have q6 : g ≠ 69 := fun e => hg (by rw [e]; decide)
  have q7 : g ≠ 70 := fun e => hg (by rw [e]; decide)
  have q8 : g ≠ 71 := fun e => hg (by rw [e]; decide)
  have q9 : g ≠ 132 := fun e => hg (by rw [e]; decide)
  simp only [bkS, bkI, enterC, entZ, eR_zF, eF_n _ _ _ _ q1, eF_n _ _ _ _ q2, eF_n _ _ _ _ q3, eF_n _ _ _ _ q4, eF_n _ _ _ _ q5, eF_n _ _ _ _ q6, eF_n _ _ _ _ q7, eF_n _ _ _ _ q8, eF_n _ _ _ _ q9]
theorem bkS_sm {y : Hp} {n0 nr t b k n wt gv a : Nat} (h1 : 48 ≤ a) (h2 : a ≠ n0) : Sm y (bkS y n0 nr t b k n wt gv) a := by
  unfold bkS bkI enterC entZ
  exact Sm.refl y a |>.sF h2 |>.sF h2 |>.sF h2 |>.sF h2 |>.sF h2 |>.sF h2 |>.sF h2 |>.sR |>.sF (by omega) |>.sF h2
theorem bake_fin {y z1 x1 : Hp} {n0 w h nb nr ng gv nt nh b b4 k n wt need cc : Nat} {I : Nat → Nat} {F : Nat → Int32} (hS : Sh y) (hsc : I_sc y) (hst : I_st y) (hn : I_num y w h nb nr ng gv nt nh) (hhv : I_hv y w nh) (hrec : I_rec y (168 * w + h) nb nr gv) (hbk : I_bk y nb nr) (hgr : I_gr y nr ng) (hgf : I_gf y nr gv) (hmk : I_mk y nr) (htx : I_tx y nt) (htn : I_tn y nb)
    (hr : nr < 200) (hnw : Nw y n0 1) (hb : b < nb) (hb4 : zR y 16 b = some b4) (hlt : ∀ i a, i < nr → zR y 2 i = some a → a < n0) (hltb : ∀ j a, j < nb → zR y 16 j = some a → a < n0) (hk3 : k < 3) (hw1 : 1 ≤ wt) (hw2 : wt ≤ 2000)
    (hL : LotsOk I (zA y 18) (zA y 24) nr ng) (hIe : ∀ g, g < ng → zA y 26 g = nI (I g)) (hfl : FlOk I (zA y 25) ng) (hm : need ≤ 1000000) (hle : nI need ≤ flS (zA y 18) (zA y 21) (zA y 25) (nI b) nr)
    (hF : F = (tkN I (zA y 21) b (need, zA y 25, gv) ng).2.1) (hcc : cc = (tkN I (zA y 21) b (need, zA y 25, gv) ng).2.2)
    (C : Ck (bkS y n0 nr (168 * w + h) b k n wt gv) z1 n0 nr gv I (zA y 21) b (need, zA y 25, gv) ng) (M : Mm (bkX (bkC y z1 n0 b4 need) nr k n wt gv) x1 I (zA y 21) b (need, zA y 25, gv) ng) : Inv (bkE x1 nr w h b (cc - gv)) := by
  obtain ⟨⟨n1, n2, n3, n4, n5⟩, ⟨n6, n7, n8⟩, ⟨n9, n10, n11⟩, m4, ⟨m5, m5'⟩, m6, m7⟩ := id hn
  obtain ⟨w1, w2, w3, w4, w5⟩ := hnw
  have hu := tk_used (B := zA y 21) (b := b) (s0 := (need, zA y 25, gv)) hfl hL hgf.1 ng (Nat.le_refl _)
  have hle2 := tk_le (I := I) (B := zA y 21) (b := b) (s0 := (need, zA y 25, gv)) ng
  have hflN := tk_fl (B := zA y 21) (b := b) (s0 := (need, zA y 25, gv)) hfl ng (Nat.le_refl _)
  have hout : ∀ i, (∀ g, g < ng → I g ≠ i) → F i = zA y 25 i := fun i hi => by rw [hF]; exact tk_out ng hi
  have hin : ∀ i, i < nr → zA y 18 i = 1 → zA y 24 i = 1 → ∃ g, g < ng ∧ I g = i := by
    intro i hi k1 k2
    obtain ⟨g, q1, q2⟩ := hgr.2.2 i hi k1 k2
    refine ⟨g, q1, ?_⟩
    rw [hIe g q1, nI_eq (by have := (hL.1 g q1).1; omega) (by omega)] at q2
    exact q2
  have hnin : ∀ i, zA y 24 i = 0 → ∀ g, g < ng → I g ≠ i := by
    intro i h0 g hg e
    have := (hL.1 g hg).2.2
    rw [e, h0] at this
    exact absurd this (by decide)
  have hdone : (tkN I (zA y 21) b (need, zA y 25, gv) ng).1 = 0 := tk_done hfl hL hm hle (fun i hi k1 k2 => by
    obtain ⟨a, e, q⟩ := hrec.1 i hi
    rcases q.2.2.2.2.2.2.2 with p | p | p
    · rcases p.2.2.2.2.2.2.2.2 with u | u
      · exact Or.inr ⟨u.2, hnin i u.1⟩
      · exact Or.inl (hin i hi k1 u.1)
    · have p' := p.1
      rw [k1] at p'
      exact absurd p' (by decide)
    · have p' := p.1
      rw [k1] at p'
      exact absurd p' (by decide))
  have hsum := tk_sum (B := zA y 21) (b := b) (s0 := (need, zA y 25, gv)) hfl hL ng (Nat.le_refl _)
  rw [hdone, Nat.sub_zero, ← hF] at hsum
  have hoth : ∀ c, ¬ nI b = c → flS (zA y 18) (zA y 21) F c nr = flS (zA y 18) (zA y 21) (zA y 25) c nr := fun c hc => by rw [hF]; exact tk_other hL hc ng (Nat.le_refl _)
  rw [← hF] at hu hflN
  rw [← hcc] at hu hle2
  have hgc : gv ≤ cc := hle2.2
  have hu2 : cc ≤ usedR (zA y 18) (zA y 24) F nr + 1 := hu.2
  obtain ⟨⟨c1, c2, c3, c4, c5, c6⟩, cF, cA, c72, c327, cU, cV, c134, c72n⟩ := C
  rw [← hF] at c327
  rw [← hcc] at c134 c72n
  obtain ⟨⟨d1, d2, d3, d4, d5, d6⟩, dF, dA, d25, dU, dV, d727⟩ := M
  rw [← hF] at d25
  rw [← hcc] at d727
  have k4b : 48 ≤ b4 ∧ zK y b4 = 0 ∧ b4 < n0 := by
    obtain ⟨a, e, p⟩ := hbk.1 b hb
    rw [hb4] at e
    cases e
    exact ⟨p.1, p.2.2.1, hltb b b4 hb hb4⟩
  -- the start of the class's loop over y
  have sF := bkS_F (y := y) (n0 := n0) (nr := nr) (t := 168 * w + h) (b := b) (k := k) (n := n) (wt := wt) (gv := gv)
  have ssm : ∀ a, 48 ≤ a → a ≠ n0 → Sm y (bkS y n0 nr (168 * w + h) b k n wt gv) a := fun a h1 h2 => bkS_sm h1 h2
  have sA : zA (bkS y n0 nr (168 * w + h) b k n wt gv) = zA y := by simp only [bkS, bkI, enterC, entZ, eF_zn, eF_zK, eF_zL, eF_s, eF_n, eF_zG, eF_zA, eF_zJ, eF_zR, eG_zn, eG_zK, eG_zL, eG_zF, eG_s, eG_n, eG_zA, eG_zJ, eG_zR, eA_zn, eA_zK, eA_zL, eA_zF, eA_zG, eA_s, eA_n, eA_zJ, eA_zR, eJ_zn, eJ_zK, eJ_zL, eJ_zF, eJ_zG, eJ_zA, eJ_s, eJ_n, eJ_zR, eR_zn, eR_zK, eR_zL, eR_zF, eR_zG, eR_zA, eR_zJ, eR_s, eR_n]
  have sn : zn (bkS y n0 nr (168 * w + h) b k n wt gv) = zn y := by simp only [bkS, bkI, enterC, entZ, eF_zn, eF_zK, eF_zL, eF_s, eF_n, eF_zG, eF_zA, eF_zJ, eF_zR, eG_zn, eG_zK, eG_zL, eG_zF, eG_s, eG_n, eG_zA, eG_zJ, eG_zR, eA_zn, eA_zK, eA_zL, eA_zF, eA_zG, eA_s, eA_n, eA_zJ, eA_zR, eJ_zn, eJ_zK, eJ_zL, eJ_zF, eJ_zG, eJ_zA, eJ_s, eJ_n, eJ_zR, eR_zn, eR_zK, eR_zL, eR_zF, eR_zG, eR_zA, eR_zJ, eR_s, eR_n]
  have sK : zK (bkS y n0 nr (168 * w + h) b k n wt gv) = zK y := by simp only [bkS, bkI, enterC, entZ, eF_zn, eF_zK, eF_zL, eF_s, eF_n, eF_zG, eF_zA, eF_zJ, eF_zR, eG_zn, eG_zK, eG_zL, eG_zF, eG_s, eG_n, eG_zA, eG_zJ, eG_zR, eA_zn, eA_zK, eA_zL, eA_zF, eA_zG, eA_s, eA_n, eA_zJ, eA_zR, eJ_zn, eJ_zK, eJ_zL, eJ_zF, eJ_zG, eJ_zA, eJ_s, eJ_n, eJ_zR, eR_zn, eR_zK, eR_zL, eR_zF, eR_zG, eR_zA, eR_zJ, eR_s, eR_n]
  have sL : zL (bkS y n0 nr (168 * w + h) b k n wt gv) = zL y := by simp only [bkS, bkI, enterC, entZ, eF_zn, eF_zK, eF_zL, eF_s, eF_n, eF_zG, eF_zA, eF_zJ, eF_zR, eG_zn, eG_zK, eG_zL, eG_zF, eG_s, eG_n, eG_zA, eG_zJ, eG_zR, eA_zn, eA_zK, eA_zL, eA_zF, eA_zG, eA_s, eA_n, eA_zJ, eA_zR, eJ_zn, eJ_zK, eJ_zL, eJ_zF, eJ_zG, eJ_zA, eJ_s, eJ_n, eJ_zR, eR_zn, eR_zK, eR_zL, eR_zF, eR_zG, eR_zA, eR_zJ, eR_s, eR_n]
  have sG : zG (bkS y n0 nr (168 * w + h) b k n wt gv) = zG y := by simp only [bkS, bkI, enterC, entZ, eF_zn, eF_zK, eF_zL, eF_s, eF_n, eF_zG, eF_zA, eF_zJ, eF_zR, eG_zn, eG_zK, eG_zL, eG_zF, eG_s, eG_n, eG_zA, eG_zJ, eG_zR, eA_zn, eA_zK, eA_zL, eA_zF, eA_zG, eA_s, eA_n, eA_zJ, eA_zR, eJ_zn, eJ_zK, eJ_zL, eJ_zF, eJ_zG, eJ_zA, eJ_s, eJ_n, eJ_zR, eR_zn, eR_zK, eR_zL, eR_zF, eR_zG, eR_zA, eR_zJ, eR_s, eR_n]
  have sJ : zJ (bkS y n0 nr (168 * w + h) b k n wt gv) = zJ y := by simp only [bkS, bkI, enterC, entZ, eF_zn, eF_zK, eF_zL, eF_s, eF_n, eF_zG, eF_zA, eF_zJ, eF_zR, eG_zn, eG_zK, eG_zL, eG_zF, eG_s, eG_n, eG_zA, eG_zJ, eG_zR, eA_zn, eA_zK, eA_zL, eA_zF, eA_zG, eA_s, eA_n, eA_zJ, eA_zR, eJ_zn, eJ_zK, eJ_zL, eJ_zF, eJ_zG, eJ_zA, eJ_s, eJ_n, eJ_zR, eR_zn, eR_zK, eR_zL, eR_zF, eR_zG, eR_zA, eR_zJ, eR_s, eR_n]
  have sR2 : zR (bkS y n0 nr (168 * w + h) b k n wt gv) 2 = va_up (zR y 2) nr (some n0) := by simp only [bkS, bkI, enterC, entZ, eF_zn, eF_zK, eF_zL, eF_s, eF_n, eF_zG, eF_zA, eF_zJ, eF_zR, eG_zn, eG_zK, eG_zL, eG_zF, eG_s, eG_n, eG_zA, eG_zJ, eG_zR, eA_zn, eA_zK, eA_zL, eA_zF, eA_zG, eA_s, eA_n, eA_zJ, eA_zR, eJ_zn, eJ_zK, eJ_zL, eJ_zF, eJ_zG, eJ_zA, eJ_s, eJ_n, eJ_zR, eR_zn, eR_zK, eR_zL, eR_zF, eR_zG, eR_zA, eR_zJ, eR_s, eR_n]
  have sRx : ∀ g, g ≠ 2 → zR (bkS y n0 nr (168 * w + h) b k n wt gv) g = zR y g := by
    intro g hg
    simp only [bkS, bkI, enterC, entZ, eF_zR, eR_n _ _ _ _ hg]
  have s768 : zF (bkS y n0 nr (168 * w + h) b k n wt gv) 768 n0 = 2 := by simp only [bkS, bkI, enterC, entZ, eF_zn, eF_zK, eF_zL, eF_s, eF_n, eF_zG, eF_zA, eF_zJ, eF_zR, eG_zn, eG_zK, eG_zL, eG_zF, eG_s, eG_n, eG_zA, eG_zJ, eG_zR, eA_zn, eA_zK, eA_zL, eA_zF, eA_zG, eA_s, eA_n, eA_zJ, eA_zR, eJ_zn, eJ_zK, eJ_zL, eJ_zF, eJ_zG, eJ_zA, eJ_s, eJ_n, eJ_zR, eR_zn, eR_zK, eR_zL, eR_zF, eR_zG, eR_zA, eR_zJ, eR_s, eR_n, ne_eq, not_false_eq_true, not_true_eq_false, reduceCtorEq, Nat.reduceEqDiff, va_up_self]
  have s769 : zF (bkS y n0 nr (168 * w + h) b k n wt gv) 769 n0 = nI nr := by simp only [bkS, bkI, enterC, entZ, eF_zn, eF_zK, eF_zL, eF_s, eF_n, eF_zG, eF_zA, eF_zJ, eF_zR, eG_zn, eG_zK, eG_zL, eG_zF, eG_s, eG_n, eG_zA, eG_zJ, eG_zR, eA_zn, eA_zK, eA_zL, eA_zF, eA_zG, eA_s, eA_n, eA_zJ, eA_zR, eJ_zn, eJ_zK, eJ_zL, eJ_zF, eJ_zG, eJ_zA, eJ_s, eJ_n, eJ_zR, eR_zn, eR_zK, eR_zL, eR_zF, eR_zG, eR_zA, eR_zJ, eR_s, eR_n, ne_eq, not_false_eq_true, not_true_eq_false, reduceCtorEq, Nat.reduceEqDiff, va_up_self]
  have s770 : zF (bkS y n0 nr (168 * w + h) b k n wt gv) 770 n0 = nI (168 * w + h) := by simp only [bkS, bkI, enterC, entZ, eF_zn, eF_zK, eF_zL, eF_s, eF_n, eF_zG, eF_zA, eF_zJ, eF_zR, eG_zn, eG_zK, eG_zL, eG_zF, eG_s, eG_n, eG_zA, eG_zJ, eG_zR, eA_zn, eA_zK, eA_zL, eA_zF, eA_zG, eA_s, eA_n, eA_zJ, eA_zR, eJ_zn, eJ_zK, eJ_zL, eJ_zF, eJ_zG, eJ_zA, eJ_s, eJ_n, eJ_zR, eR_zn, eR_zK, eR_zL, eR_zF, eR_zG, eR_zA, eR_zJ, eR_s, eR_n, ne_eq, not_false_eq_true, not_true_eq_false, reduceCtorEq, Nat.reduceEqDiff, va_up_self]
  have s771 : zF (bkS y n0 nr (168 * w + h) b k n wt gv) 771 n0 = nI b := by simp only [bkS, bkI, enterC, entZ, eF_zn, eF_zK, eF_zL, eF_s, eF_n, eF_zG, eF_zA, eF_zJ, eF_zR, eG_zn, eG_zK, eG_zL, eG_zF, eG_s, eG_n, eG_zA, eG_zJ, eG_zR, eA_zn, eA_zK, eA_zL, eA_zF, eA_zG, eA_s, eA_n, eA_zJ, eA_zR, eJ_zn, eJ_zK, eJ_zL, eJ_zF, eJ_zG, eJ_zA, eJ_s, eJ_n, eJ_zR, eR_zn, eR_zK, eR_zL, eR_zF, eR_zG, eR_zA, eR_zJ, eR_s, eR_n, ne_eq, not_false_eq_true, not_true_eq_false, reduceCtorEq, Nat.reduceEqDiff, va_up_self]
  have s68 : zF (bkS y n0 nr (168 * w + h) b k n wt gv) 68 n0 = nI k := by simp only [bkS, bkI, enterC, entZ, eF_zn, eF_zK, eF_zL, eF_s, eF_n, eF_zG, eF_zA, eF_zJ, eF_zR, eG_zn, eG_zK, eG_zL, eG_zF, eG_s, eG_n, eG_zA, eG_zJ, eG_zR, eA_zn, eA_zK, eA_zL, eA_zF, eA_zG, eA_s, eA_n, eA_zJ, eA_zR, eJ_zn, eJ_zK, eJ_zL, eJ_zF, eJ_zG, eJ_zA, eJ_s, eJ_n, eJ_zR, eR_zn, eR_zK, eR_zL, eR_zF, eR_zG, eR_zA, eR_zJ, eR_s, eR_n, ne_eq, not_false_eq_true, not_true_eq_false, reduceCtorEq, Nat.reduceEqDiff, va_up_self]
  have s69 : zF (bkS y n0 nr (168 * w + h) b k n wt gv) 69 n0 = nI n := by simp only [bkS, bkI, enterC, entZ, eF_zn, eF_zK, eF_zL, eF_s, eF_n, eF_zG, eF_zA, eF_zJ, eF_zR, eG_zn, eG_zK, eG_zL, eG_zF, eG_s, eG_n, eG_zA, eG_zJ, eG_zR, eA_zn, eA_zK, eA_zL, eA_zF, eA_zG, eA_s, eA_n, eA_zJ, eA_zR, eJ_zn, eJ_zK, eJ_zL, eJ_zF, eJ_zG, eJ_zA, eJ_s, eJ_n, eJ_zR, eR_zn, eR_zK, eR_zL, eR_zF, eR_zG, eR_zA, eR_zJ, eR_s, eR_n, ne_eq, not_false_eq_true, not_true_eq_false, reduceCtorEq, Nat.reduceEqDiff, va_up_self]
  have s70 : zF (bkS y n0 nr (168 * w + h) b k n wt gv) 70 n0 = nI wt := by simp only [bkS, bkI, enterC, entZ, eF_zn, eF_zK, eF_zL, eF_s, eF_n, eF_zG, eF_zA, eF_zJ, eF_zR, eG_zn, eG_zK, eG_zL, eG_zF, eG_s, eG_n, eG_zA, eG_zJ, eG_zR, eA_zn, eA_zK, eA_zL, eA_zF, eA_zG, eA_s, eA_n, eA_zJ, eA_zR, eJ_zn, eJ_zK, eJ_zL, eJ_zF, eJ_zG, eJ_zA, eJ_s, eJ_n, eJ_zR, eR_zn, eR_zK, eR_zL, eR_zF, eR_zG, eR_zA, eR_zJ, eR_s, eR_n, ne_eq, not_false_eq_true, not_true_eq_false, reduceCtorEq, Nat.reduceEqDiff, va_up_self]
  have s71 : zF (bkS y n0 nr (168 * w + h) b k n wt gv) 71 n0 = nI gv := by simp only [bkS, bkI, enterC, entZ, eF_zn, eF_zK, eF_zL, eF_s, eF_n, eF_zG, eF_zA, eF_zJ, eF_zR, eG_zn, eG_zK, eG_zL, eG_zF, eG_s, eG_n, eG_zA, eG_zJ, eG_zR, eA_zn, eA_zK, eA_zL, eA_zF, eA_zG, eA_s, eA_n, eA_zJ, eA_zR, eJ_zn, eJ_zK, eJ_zL, eJ_zF, eJ_zG, eJ_zA, eJ_s, eJ_n, eJ_zR, eR_zn, eR_zK, eR_zL, eR_zF, eR_zG, eR_zA, eR_zJ, eR_s, eR_n, ne_eq, not_false_eq_true, not_true_eq_false, reduceCtorEq, Nat.reduceEqDiff, va_up_self]
  have s132 : zF (bkS y n0 nr (168 * w + h) b k n wt gv) 132 1 = nI (nr + 1) := by simp only [bkS, bkI, enterC, entZ, eF_zn, eF_zK, eF_zL, eF_s, eF_n, eF_zG, eF_zA, eF_zJ, eF_zR, eG_zn, eG_zK, eG_zL, eG_zF, eG_s, eG_n, eG_zA, eG_zJ, eG_zR, eA_zn, eA_zK, eA_zL, eA_zF, eA_zG, eA_s, eA_n, eA_zJ, eA_zR, eJ_zn, eJ_zK, eJ_zL, eJ_zF, eJ_zG, eJ_zA, eJ_s, eJ_n, eJ_zR, eR_zn, eR_zK, eR_zL, eR_zF, eR_zG, eR_zA, eR_zJ, eR_s, eR_n, ne_eq, not_false_eq_true, not_true_eq_false, reduceCtorEq, Nat.reduceEqDiff, va_up_self]
  generalize bkS y n0 nr (168 * w + h) b k n wt gv = z0 at *
  -- the class's end
  have tF : ∀ g, g ∉ [0, 2] → zF (bkC y z1 n0 b4 need) g = zF z1 g := by
    intro g hg
    have q1 : g ≠ 0 := fun e => hg (by rw [e]; decide)
    have q2 : g ≠ 2 := fun e => hg (by rw [e]; decide)
    simp only [bkC, eG_zF, eF_n _ _ _ _ q1, eF_n _ _ _ _ q2]
  have t0 : zF (bkC y z1 n0 b4 need) 0 = va_up (zF z1 0) b4 (zF y 0 b4 - nI need) := by simp only [bkC, eF_zn, eF_zK, eF_zL, eF_s, eF_n, eF_zG, eF_zA, eF_zJ, eF_zR, eG_zn, eG_zK, eG_zL, eG_zF, eG_s, eG_n, eG_zA, eG_zJ, eG_zR, eA_zn, eA_zK, eA_zL, eA_zF, eA_zG, eA_s, eA_n, eA_zJ, eA_zR, eJ_zn, eJ_zK, eJ_zL, eJ_zF, eJ_zG, eJ_zA, eJ_s, eJ_n, eJ_zR, eR_zn, eR_zK, eR_zL, eR_zF, eR_zG, eR_zA, eR_zJ, eR_s, eR_n, ne_eq, not_false_eq_true, not_true_eq_false, reduceCtorEq, Nat.reduceEqDiff]
  have t2 : zF (bkC y z1 n0 b4 need) 2 = va_up (zF z1 2) b4 (zF y 2 b4 + 1) := by simp only [bkC, eF_zn, eF_zK, eF_zL, eF_s, eF_n, eF_zG, eF_zA, eF_zJ, eF_zR, eG_zn, eG_zK, eG_zL, eG_zF, eG_s, eG_n, eG_zA, eG_zJ, eG_zR, eA_zn, eA_zK, eA_zL, eA_zF, eA_zG, eA_s, eA_n, eA_zJ, eA_zR, eJ_zn, eJ_zK, eJ_zL, eJ_zF, eJ_zG, eJ_zA, eJ_s, eJ_n, eJ_zR, eR_zn, eR_zK, eR_zL, eR_zF, eR_zG, eR_zA, eR_zJ, eR_s, eR_n, ne_eq, not_false_eq_true, not_true_eq_false, reduceCtorEq, Nat.reduceEqDiff]
  have tA : zA (bkC y z1 n0 b4 need) = zA z1 := by simp only [bkC, eF_zn, eF_zK, eF_zL, eF_s, eF_n, eF_zG, eF_zA, eF_zJ, eF_zR, eG_zn, eG_zK, eG_zL, eG_zF, eG_s, eG_n, eG_zA, eG_zJ, eG_zR, eA_zn, eA_zK, eA_zL, eA_zF, eA_zG, eA_s, eA_n, eA_zJ, eA_zR, eJ_zn, eJ_zK, eJ_zL, eJ_zF, eJ_zG, eJ_zA, eJ_s, eJ_n, eJ_zR, eR_zn, eR_zK, eR_zL, eR_zF, eR_zG, eR_zA, eR_zJ, eR_s, eR_n]
  have tn : zn (bkC y z1 n0 b4 need) = zn z1 := by simp only [bkC, eF_zn, eF_zK, eF_zL, eF_s, eF_n, eF_zG, eF_zA, eF_zJ, eF_zR, eG_zn, eG_zK, eG_zL, eG_zF, eG_s, eG_n, eG_zA, eG_zJ, eG_zR, eA_zn, eA_zK, eA_zL, eA_zF, eA_zG, eA_s, eA_n, eA_zJ, eA_zR, eJ_zn, eJ_zK, eJ_zL, eJ_zF, eJ_zG, eJ_zA, eJ_s, eJ_n, eJ_zR, eR_zn, eR_zK, eR_zL, eR_zF, eR_zG, eR_zA, eR_zJ, eR_s, eR_n]
  have tK : zK (bkC y z1 n0 b4 need) = zK z1 := by simp only [bkC, eF_zn, eF_zK, eF_zL, eF_s, eF_n, eF_zG, eF_zA, eF_zJ, eF_zR, eG_zn, eG_zK, eG_zL, eG_zF, eG_s, eG_n, eG_zA, eG_zJ, eG_zR, eA_zn, eA_zK, eA_zL, eA_zF, eA_zG, eA_s, eA_n, eA_zJ, eA_zR, eJ_zn, eJ_zK, eJ_zL, eJ_zF, eJ_zG, eJ_zA, eJ_s, eJ_n, eJ_zR, eR_zn, eR_zK, eR_zL, eR_zF, eR_zG, eR_zA, eR_zJ, eR_s, eR_n]
  have tL : zL (bkC y z1 n0 b4 need) = zL z1 := by simp only [bkC, eF_zn, eF_zK, eF_zL, eF_s, eF_n, eF_zG, eF_zA, eF_zJ, eF_zR, eG_zn, eG_zK, eG_zL, eG_zF, eG_s, eG_n, eG_zA, eG_zJ, eG_zR, eA_zn, eA_zK, eA_zL, eA_zF, eA_zG, eA_s, eA_n, eA_zJ, eA_zR, eJ_zn, eJ_zK, eJ_zL, eJ_zF, eJ_zG, eJ_zA, eJ_s, eJ_n, eJ_zR, eR_zn, eR_zK, eR_zL, eR_zF, eR_zG, eR_zA, eR_zJ, eR_s, eR_n]
  have tG7 : zG (bkC y z1 n0 b4 need) 7 = va_up (zG z1 7) b4 (some n0) := by simp only [bkC, eF_zn, eF_zK, eF_zL, eF_s, eF_n, eF_zG, eF_zA, eF_zJ, eF_zR, eG_zn, eG_zK, eG_zL, eG_zF, eG_s, eG_n, eG_zA, eG_zJ, eG_zR, eA_zn, eA_zK, eA_zL, eA_zF, eA_zG, eA_s, eA_n, eA_zJ, eA_zR, eJ_zn, eJ_zK, eJ_zL, eJ_zF, eJ_zG, eJ_zA, eJ_s, eJ_n, eJ_zR, eR_zn, eR_zK, eR_zL, eR_zF, eR_zG, eR_zA, eR_zJ, eR_s, eR_n, ne_eq, not_false_eq_true, not_true_eq_false, reduceCtorEq, Nat.reduceEqDiff]
  have tGx : ∀ g, g ≠ 7 → zG (bkC y z1 n0 b4 need) g = zG z1 g := by
    intro g hg
    simp only [bkC, eF_zG, eG_n _ _ _ _ hg]
  have tJ : zJ (bkC y z1 n0 b4 need) = zJ z1 := by simp only [bkC, eF_zn, eF_zK, eF_zL, eF_s, eF_n, eF_zG, eF_zA, eF_zJ, eF_zR, eG_zn, eG_zK, eG_zL, eG_zF, eG_s, eG_n, eG_zA, eG_zJ, eG_zR, eA_zn, eA_zK, eA_zL, eA_zF, eA_zG, eA_s, eA_n, eA_zJ, eA_zR, eJ_zn, eJ_zK, eJ_zL, eJ_zF, eJ_zG, eJ_zA, eJ_s, eJ_n, eJ_zR, eR_zn, eR_zK, eR_zL, eR_zF, eR_zG, eR_zA, eR_zJ, eR_s, eR_n]
  have tR : zR (bkC y z1 n0 b4 need) = zR z1 := by simp only [bkC, eF_zn, eF_zK, eF_zL, eF_s, eF_n, eF_zG, eF_zA, eF_zJ, eF_zR, eG_zn, eG_zK, eG_zL, eG_zF, eG_s, eG_n, eG_zA, eG_zJ, eG_zR, eA_zn, eA_zK, eA_zL, eA_zF, eA_zG, eA_s, eA_n, eA_zJ, eA_zR, eJ_zn, eJ_zK, eJ_zL, eJ_zF, eJ_zG, eJ_zA, eJ_s, eJ_n, eJ_zR, eR_zn, eR_zK, eR_zL, eR_zF, eR_zG, eR_zA, eR_zJ, eR_s, eR_n]
  generalize bkC y z1 n0 b4 need = zc at *
  -- the start of the model's loop
  have uF : zF (bkX zc nr k n wt gv) = zF zc := by simp only [bkX, eF_zn, eF_zK, eF_zL, eF_s, eF_n, eF_zG, eF_zA, eF_zJ, eF_zR, eG_zn, eG_zK, eG_zL, eG_zF, eG_s, eG_n, eG_zA, eG_zJ, eG_zR, eA_zn, eA_zK, eA_zL, eA_zF, eA_zG, eA_s, eA_n, eA_zJ, eA_zR, eJ_zn, eJ_zK, eJ_zL, eJ_zF, eJ_zG, eJ_zA, eJ_s, eJ_n, eJ_zR, eR_zn, eR_zK, eR_zL, eR_zF, eR_zG, eR_zA, eR_zJ, eR_s, eR_n]
  have uA : ∀ g, g ∉ [27, 28, 29, 30] → zA (bkX zc nr k n wt gv) g = zA zc g := by
    intro g hg
    have q1 : g ≠ 27 := fun e => hg (by rw [e]; decide)
    have q2 : g ≠ 28 := fun e => hg (by rw [e]; decide)
    have q3 : g ≠ 29 := fun e => hg (by rw [e]; decide)
    have q4 : g ≠ 30 := fun e => hg (by rw [e]; decide)
    simp only [bkX, eA_n _ _ _ _ q1, eA_n _ _ _ _ q2, eA_n _ _ _ _ q3, eA_n _ _ _ _ q4]
  have u27 : zA (bkX zc nr k n wt gv) 27 = va_up (zA zc 27) nr (nI k) := by simp only [bkX, eF_zn, eF_zK, eF_zL, eF_s, eF_n, eF_zG, eF_zA, eF_zJ, eF_zR, eG_zn, eG_zK, eG_zL, eG_zF, eG_s, eG_n, eG_zA, eG_zJ, eG_zR, eA_zn, eA_zK, eA_zL, eA_zF, eA_zG, eA_s, eA_n, eA_zJ, eA_zR, eJ_zn, eJ_zK, eJ_zL, eJ_zF, eJ_zG, eJ_zA, eJ_s, eJ_n, eJ_zR, eR_zn, eR_zK, eR_zL, eR_zF, eR_zG, eR_zA, eR_zJ, eR_s, eR_n, ne_eq, not_false_eq_true, not_true_eq_false, reduceCtorEq, Nat.reduceEqDiff]
  have u28 : zA (bkX zc nr k n wt gv) 28 = va_up (zA zc 28) nr (nI n) := by simp only [bkX, eF_zn, eF_zK, eF_zL, eF_s, eF_n, eF_zG, eF_zA, eF_zJ, eF_zR, eG_zn, eG_zK, eG_zL, eG_zF, eG_s, eG_n, eG_zA, eG_zJ, eG_zR, eA_zn, eA_zK, eA_zL, eA_zF, eA_zG, eA_s, eA_n, eA_zJ, eA_zR, eJ_zn, eJ_zK, eJ_zL, eJ_zF, eJ_zG, eJ_zA, eJ_s, eJ_n, eJ_zR, eR_zn, eR_zK, eR_zL, eR_zF, eR_zG, eR_zA, eR_zJ, eR_s, eR_n, ne_eq, not_false_eq_true, not_true_eq_false, reduceCtorEq, Nat.reduceEqDiff]
  have u29 : zA (bkX zc nr k n wt gv) 29 = va_up (zA zc 29) nr (nI wt) := by simp only [bkX, eF_zn, eF_zK, eF_zL, eF_s, eF_n, eF_zG, eF_zA, eF_zJ, eF_zR, eG_zn, eG_zK, eG_zL, eG_zF, eG_s, eG_n, eG_zA, eG_zJ, eG_zR, eA_zn, eA_zK, eA_zL, eA_zF, eA_zG, eA_s, eA_n, eA_zJ, eA_zR, eJ_zn, eJ_zK, eJ_zL, eJ_zF, eJ_zG, eJ_zA, eJ_s, eJ_n, eJ_zR, eR_zn, eR_zK, eR_zL, eR_zF, eR_zG, eR_zA, eR_zJ, eR_s, eR_n, ne_eq, not_false_eq_true, not_true_eq_false, reduceCtorEq, Nat.reduceEqDiff]
  have u30 : zA (bkX zc nr k n wt gv) 30 = va_up (zA zc 30) nr (nI gv) := by simp only [bkX, eF_zn, eF_zK, eF_zL, eF_s, eF_n, eF_zG, eF_zA, eF_zJ, eF_zR, eG_zn, eG_zK, eG_zL, eG_zF, eG_s, eG_n, eG_zA, eG_zJ, eG_zR, eA_zn, eA_zK, eA_zL, eA_zF, eA_zG, eA_s, eA_n, eA_zJ, eA_zR, eJ_zn, eJ_zK, eJ_zL, eJ_zF, eJ_zG, eJ_zA, eJ_s, eJ_n, eJ_zR, eR_zn, eR_zK, eR_zL, eR_zF, eR_zG, eR_zA, eR_zJ, eR_s, eR_n, ne_eq, not_false_eq_true, not_true_eq_false, reduceCtorEq, Nat.reduceEqDiff]
  have un : zn (bkX zc nr k n wt gv) = zn zc := by simp only [bkX, eF_zn, eF_zK, eF_zL, eF_s, eF_n, eF_zG, eF_zA, eF_zJ, eF_zR, eG_zn, eG_zK, eG_zL, eG_zF, eG_s, eG_n, eG_zA, eG_zJ, eG_zR, eA_zn, eA_zK, eA_zL, eA_zF, eA_zG, eA_s, eA_n, eA_zJ, eA_zR, eJ_zn, eJ_zK, eJ_zL, eJ_zF, eJ_zG, eJ_zA, eJ_s, eJ_n, eJ_zR, eR_zn, eR_zK, eR_zL, eR_zF, eR_zG, eR_zA, eR_zJ, eR_s, eR_n]
  have uK : zK (bkX zc nr k n wt gv) = zK zc := by simp only [bkX, eF_zn, eF_zK, eF_zL, eF_s, eF_n, eF_zG, eF_zA, eF_zJ, eF_zR, eG_zn, eG_zK, eG_zL, eG_zF, eG_s, eG_n, eG_zA, eG_zJ, eG_zR, eA_zn, eA_zK, eA_zL, eA_zF, eA_zG, eA_s, eA_n, eA_zJ, eA_zR, eJ_zn, eJ_zK, eJ_zL, eJ_zF, eJ_zG, eJ_zA, eJ_s, eJ_n, eJ_zR, eR_zn, eR_zK, eR_zL, eR_zF, eR_zG, eR_zA, eR_zJ, eR_s, eR_n]
  have uL : zL (bkX zc nr k n wt gv) = zL zc := by simp only [bkX, eF_zn, eF_zK, eF_zL, eF_s, eF_n, eF_zG, eF_zA, eF_zJ, eF_zR, eG_zn, eG_zK, eG_zL, eG_zF, eG_s, eG_n, eG_zA, eG_zJ, eG_zR, eA_zn, eA_zK, eA_zL, eA_zF, eA_zG, eA_s, eA_n, eA_zJ, eA_zR, eJ_zn, eJ_zK, eJ_zL, eJ_zF, eJ_zG, eJ_zA, eJ_s, eJ_n, eJ_zR, eR_zn, eR_zK, eR_zL, eR_zF, eR_zG, eR_zA, eR_zJ, eR_s, eR_n]
  have uG : zG (bkX zc nr k n wt gv) = zG zc := by simp only [bkX, eF_zn, eF_zK, eF_zL, eF_s, eF_n, eF_zG, eF_zA, eF_zJ, eF_zR, eG_zn, eG_zK, eG_zL, eG_zF, eG_s, eG_n, eG_zA, eG_zJ, eG_zR, eA_zn, eA_zK, eA_zL, eA_zF, eA_zG, eA_s, eA_n, eA_zJ, eA_zR, eJ_zn, eJ_zK, eJ_zL, eJ_zF, eJ_zG, eJ_zA, eJ_s, eJ_n, eJ_zR, eR_zn, eR_zK, eR_zL, eR_zF, eR_zG, eR_zA, eR_zJ, eR_s, eR_n]
  have uJ : zJ (bkX zc nr k n wt gv) = zJ zc := by simp only [bkX, eF_zn, eF_zK, eF_zL, eF_s, eF_n, eF_zG, eF_zA, eF_zJ, eF_zR, eG_zn, eG_zK, eG_zL, eG_zF, eG_s, eG_n, eG_zA, eG_zJ, eG_zR, eA_zn, eA_zK, eA_zL, eA_zF, eA_zG, eA_s, eA_n, eA_zJ, eA_zR, eJ_zn, eJ_zK, eJ_zL, eJ_zF, eJ_zG, eJ_zA, eJ_s, eJ_n, eJ_zR, eR_zn, eR_zK, eR_zL, eR_zF, eR_zG, eR_zA, eR_zJ, eR_s, eR_n]
  have uR : zR (bkX zc nr k n wt gv) = zR zc := by simp only [bkX, eF_zn, eF_zK, eF_zL, eF_s, eF_n, eF_zG, eF_zA, eF_zJ, eF_zR, eG_zn, eG_zK, eG_zL, eG_zF, eG_s, eG_n, eG_zA, eG_zJ, eG_zR, eA_zn, eA_zK, eA_zL, eA_zF, eA_zG, eA_s, eA_n, eA_zJ, eA_zR, eJ_zn, eJ_zK, eJ_zL, eJ_zF, eJ_zG, eJ_zA, eJ_s, eJ_n, eJ_zR, eR_zn, eR_zK, eR_zL, eR_zF, eR_zG, eR_zA, eR_zJ, eR_s, eR_n]
  generalize bkX zc nr k n wt gv = x0 at *
  -- the end
  have vF : ∀ g, g ≠ 711 → zF (bkE x1 nr w h b (cc - gv)) g = zF x1 g := by
    intro g hg
    simp only [bkE, enterM, eA_zF, eF_n _ _ _ _ hg]
  have v711 : zF (bkE x1 nr w h b (cc - gv)) 711 17 = nI (nr + 1) := by simp only [bkE, enterM, eF_zn, eF_zK, eF_zL, eF_s, eF_n, eF_zG, eF_zA, eF_zJ, eF_zR, eG_zn, eG_zK, eG_zL, eG_zF, eG_s, eG_n, eG_zA, eG_zJ, eG_zR, eA_zn, eA_zK, eA_zL, eA_zF, eA_zG, eA_s, eA_n, eA_zJ, eA_zR, eJ_zn, eJ_zK, eJ_zL, eJ_zF, eJ_zG, eJ_zA, eJ_s, eJ_n, eJ_zR, eR_zn, eR_zK, eR_zL, eR_zF, eR_zG, eR_zA, eR_zJ, eR_s, eR_n, ne_eq, not_false_eq_true, not_true_eq_false, reduceCtorEq, Nat.reduceEqDiff, va_up_self]
  have vA : ∀ g, g ∉ [31, 38, 18, 19, 20, 21] → zA (bkE x1 nr w h b (cc - gv)) g = zA x1 g := by
    intro g hg
    have q1 : g ≠ 31 := fun e => hg (by rw [e]; decide)
    have q2 : g ≠ 38 := fun e => hg (by rw [e]; decide)
    have q3 : g ≠ 18 := fun e => hg (by rw [e]; decide)
    have q4 : g ≠ 19 := fun e => hg (by rw [e]; decide)
    have q5 : g ≠ 20 := fun e => hg (by rw [e]; decide)
    have q6 : g ≠ 21 := fun e => hg (by rw [e]; decide)
    simp only [bkE, enterM, eF_zA, eA_n _ _ _ _ q1, eA_n _ _ _ _ q2, eA_n _ _ _ _ q3, eA_n _ _ _ _ q4, eA_n _ _ _ _ q5, eA_n _ _ _ _ q6]
  have v18 : zA (bkE x1 nr w h b (cc - gv)) 18 = va_up (zA x1 18) nr 2 := by simp only [bkE, enterM, eF_zn, eF_zK, eF_zL, eF_s, eF_n, eF_zG, eF_zA, eF_zJ, eF_zR, eG_zn, eG_zK, eG_zL, eG_zF, eG_s, eG_n, eG_zA, eG_zJ, eG_zR, eA_zn, eA_zK, eA_zL, eA_zF, eA_zG, eA_s, eA_n, eA_zJ, eA_zR, eJ_zn, eJ_zK, eJ_zL, eJ_zF, eJ_zG, eJ_zA, eJ_s, eJ_n, eJ_zR, eR_zn, eR_zK, eR_zL, eR_zF, eR_zG, eR_zA, eR_zJ, eR_s, eR_n, ne_eq, not_false_eq_true, not_true_eq_false, reduceCtorEq, Nat.reduceEqDiff]
  have v19 : zA (bkE x1 nr w h b (cc - gv)) 19 = va_up (zA x1 19) nr (nI w) := by simp only [bkE, enterM, eF_zn, eF_zK, eF_zL, eF_s, eF_n, eF_zG, eF_zA, eF_zJ, eF_zR, eG_zn, eG_zK, eG_zL, eG_zF, eG_s, eG_n, eG_zA, eG_zJ, eG_zR, eA_zn, eA_zK, eA_zL, eA_zF, eA_zG, eA_s, eA_n, eA_zJ, eA_zR, eJ_zn, eJ_zK, eJ_zL, eJ_zF, eJ_zG, eJ_zA, eJ_s, eJ_n, eJ_zR, eR_zn, eR_zK, eR_zL, eR_zF, eR_zG, eR_zA, eR_zJ, eR_s, eR_n, ne_eq, not_false_eq_true, not_true_eq_false, reduceCtorEq, Nat.reduceEqDiff]
  have v20 : zA (bkE x1 nr w h b (cc - gv)) 20 = va_up (zA x1 20) nr (nI h) := by simp only [bkE, enterM, eF_zn, eF_zK, eF_zL, eF_s, eF_n, eF_zG, eF_zA, eF_zJ, eF_zR, eG_zn, eG_zK, eG_zL, eG_zF, eG_s, eG_n, eG_zA, eG_zJ, eG_zR, eA_zn, eA_zK, eA_zL, eA_zF, eA_zG, eA_s, eA_n, eA_zJ, eA_zR, eJ_zn, eJ_zK, eJ_zL, eJ_zF, eJ_zG, eJ_zA, eJ_s, eJ_n, eJ_zR, eR_zn, eR_zK, eR_zL, eR_zF, eR_zG, eR_zA, eR_zJ, eR_s, eR_n, ne_eq, not_false_eq_true, not_true_eq_false, reduceCtorEq, Nat.reduceEqDiff]
  have v21 : zA (bkE x1 nr w h b (cc - gv)) 21 = va_up (zA x1 21) nr (nI b) := by simp only [bkE, enterM, eF_zn, eF_zK, eF_zL, eF_s, eF_n, eF_zG, eF_zA, eF_zJ, eF_zR, eG_zn, eG_zK, eG_zL, eG_zF, eG_s, eG_n, eG_zA, eG_zJ, eG_zR, eA_zn, eA_zK, eA_zL, eA_zF, eA_zG, eA_s, eA_n, eA_zJ, eA_zR, eJ_zn, eJ_zK, eJ_zL, eJ_zF, eJ_zG, eJ_zA, eJ_s, eJ_n, eJ_zR, eR_zn, eR_zK, eR_zL, eR_zF, eR_zG, eR_zA, eR_zJ, eR_s, eR_n, ne_eq, not_false_eq_true, not_true_eq_false, reduceCtorEq, Nat.reduceEqDiff]
  have v31 : zA (bkE x1 nr w h b (cc - gv)) 31 = va_up (zA x1 31) nr (nI (cc - gv)) := by simp only [bkE, enterM, eF_zn, eF_zK, eF_zL, eF_s, eF_n, eF_zG, eF_zA, eF_zJ, eF_zR, eG_zn, eG_zK, eG_zL, eG_zF, eG_s, eG_n, eG_zA, eG_zJ, eG_zR, eA_zn, eA_zK, eA_zL, eA_zF, eA_zG, eA_s, eA_n, eA_zJ, eA_zR, eJ_zn, eJ_zK, eJ_zL, eJ_zF, eJ_zG, eJ_zA, eJ_s, eJ_n, eJ_zR, eR_zn, eR_zK, eR_zL, eR_zF, eR_zG, eR_zA, eR_zJ, eR_s, eR_n, ne_eq, not_false_eq_true, not_true_eq_false, reduceCtorEq, Nat.reduceEqDiff]
  have v38 : zA (bkE x1 nr w h b (cc - gv)) 38 = va_up (zA x1 38) b (nI nr) := by simp only [bkE, enterM, eF_zn, eF_zK, eF_zL, eF_s, eF_n, eF_zG, eF_zA, eF_zJ, eF_zR, eG_zn, eG_zK, eG_zL, eG_zF, eG_s, eG_n, eG_zA, eG_zJ, eG_zR, eA_zn, eA_zK, eA_zL, eA_zF, eA_zG, eA_s, eA_n, eA_zJ, eA_zR, eJ_zn, eJ_zK, eJ_zL, eJ_zF, eJ_zG, eJ_zA, eJ_s, eJ_n, eJ_zR, eR_zn, eR_zK, eR_zL, eR_zF, eR_zG, eR_zA, eR_zJ, eR_s, eR_n, ne_eq, not_false_eq_true, not_true_eq_false, reduceCtorEq, Nat.reduceEqDiff]
  have vn : zn (bkE x1 nr w h b (cc - gv)) = zn x1 := by simp only [bkE, enterM, eF_zn, eF_zK, eF_zL, eF_s, eF_n, eF_zG, eF_zA, eF_zJ, eF_zR, eG_zn, eG_zK, eG_zL, eG_zF, eG_s, eG_n, eG_zA, eG_zJ, eG_zR, eA_zn, eA_zK, eA_zL, eA_zF, eA_zG, eA_s, eA_n, eA_zJ, eA_zR, eJ_zn, eJ_zK, eJ_zL, eJ_zF, eJ_zG, eJ_zA, eJ_s, eJ_n, eJ_zR, eR_zn, eR_zK, eR_zL, eR_zF, eR_zG, eR_zA, eR_zJ, eR_s, eR_n]
  have vK : zK (bkE x1 nr w h b (cc - gv)) = zK x1 := by simp only [bkE, enterM, eF_zn, eF_zK, eF_zL, eF_s, eF_n, eF_zG, eF_zA, eF_zJ, eF_zR, eG_zn, eG_zK, eG_zL, eG_zF, eG_s, eG_n, eG_zA, eG_zJ, eG_zR, eA_zn, eA_zK, eA_zL, eA_zF, eA_zG, eA_s, eA_n, eA_zJ, eA_zR, eJ_zn, eJ_zK, eJ_zL, eJ_zF, eJ_zG, eJ_zA, eJ_s, eJ_n, eJ_zR, eR_zn, eR_zK, eR_zL, eR_zF, eR_zG, eR_zA, eR_zJ, eR_s, eR_n]
  have vL : zL (bkE x1 nr w h b (cc - gv)) = zL x1 := by simp only [bkE, enterM, eF_zn, eF_zK, eF_zL, eF_s, eF_n, eF_zG, eF_zA, eF_zJ, eF_zR, eG_zn, eG_zK, eG_zL, eG_zF, eG_s, eG_n, eG_zA, eG_zJ, eG_zR, eA_zn, eA_zK, eA_zL, eA_zF, eA_zG, eA_s, eA_n, eA_zJ, eA_zR, eJ_zn, eJ_zK, eJ_zL, eJ_zF, eJ_zG, eJ_zA, eJ_s, eJ_n, eJ_zR, eR_zn, eR_zK, eR_zL, eR_zF, eR_zG, eR_zA, eR_zJ, eR_s, eR_n]
  have vG : zG (bkE x1 nr w h b (cc - gv)) = zG x1 := by simp only [bkE, enterM, eF_zn, eF_zK, eF_zL, eF_s, eF_n, eF_zG, eF_zA, eF_zJ, eF_zR, eG_zn, eG_zK, eG_zL, eG_zF, eG_s, eG_n, eG_zA, eG_zJ, eG_zR, eA_zn, eA_zK, eA_zL, eA_zF, eA_zG, eA_s, eA_n, eA_zJ, eA_zR, eJ_zn, eJ_zK, eJ_zL, eJ_zF, eJ_zG, eJ_zA, eJ_s, eJ_n, eJ_zR, eR_zn, eR_zK, eR_zL, eR_zF, eR_zG, eR_zA, eR_zJ, eR_s, eR_n]
  have vJ : zJ (bkE x1 nr w h b (cc - gv)) = zJ x1 := by simp only [bkE, enterM, eF_zn, eF_zK, eF_zL, eF_s, eF_n, eF_zG, eF_zA, eF_zJ, eF_zR, eG_zn, eG_zK, eG_zL, eG_zF, eG_s, eG_n, eG_zA, eG_zJ, eG_zR, eA_zn, eA_zK, eA_zL, eA_zF, eA_zG, eA_s, eA_n, eA_zJ, eA_zR, eJ_zn, eJ_zK, eJ_zL, eJ_zF, eJ_zG, eJ_zA, eJ_s, eJ_n, eJ_zR, eR_zn, eR_zK, eR_zL, eR_zF, eR_zG, eR_zA, eR_zJ, eR_s, eR_n]
  have vR : zR (bkE x1 nr w h b (cc - gv)) = zR x1 := by simp only [bkE, enterM, eF_zn, eF_zK, eF_zL, eF_s, eF_n, eF_zG, eF_zA, eF_zJ, eF_zR, eG_zn, eG_zK, eG_zL, eG_zF, eG_s, eG_n, eG_zA, eG_zJ, eG_zR, eA_zn, eA_zK, eA_zL, eA_zF, eA_zG, eA_s, eA_n, eA_zJ, eA_zR, eJ_zn, eJ_zK, eJ_zL, eJ_zF, eJ_zG, eJ_zA, eJ_s, eJ_n, eJ_zR, eR_zn, eR_zK, eR_zL, eR_zF, eR_zG, eR_zA, eR_zJ, eR_s, eR_n]
  generalize bkE x1 nr w h b (cc - gv) = zf at *
  -- all over y
  have en : zn zf = zn y := by rw [vn, d1, un, tn, c1, sn]
  have eK : zK zf = zK y := by rw [vK, d2, uK, tK, c2, sK]
  have eL : zL zf = zL y := by rw [vL, d3, uL, tL, c3, sL]
  have eJ : zJ zf = zJ y := by rw [vJ, d5, uJ, tJ, c5, sJ]
  have eG7 : zG zf 7 = va_up (zG y 7) b4 (some n0) := by rw [vG, d4, uG, tG7, c4, sG]
  have eGx : ∀ g, g ≠ 7 → zG zf g = zG y g := fun g hg => by rw [vG, d4, uG, tGx g hg, c4, sG]
  have r2 : zR zf 2 = va_up (zR y 2) nr (some n0) := by rw [vR, d6, uR, tR, c6, sR2]
  have rx : ∀ g, g ≠ 2 → zR zf g = zR y g := fun g hg => by rw [vR, d6, uR, tR, c6, sRx g hg]
  have fz1 : ∀ g, g ∉ [711, 727, 0, 2] → zF zf g = zF z1 g := by
    intro g hg
    have q1 : g ≠ 711 := fun e => hg (by rw [e]; decide)
    have q2 : g ≠ 727 := fun e => hg (by rw [e]; decide)
    have q3 : g ∉ [0, 2] := fun e => hg (by simp only [List.mem_cons, List.not_mem_nil, or_false] at e ⊢; omega)
    rw [vF g q1, dF g q2, uF, tF g q3]
  have fz0 : ∀ g, g ∉ [711, 727, 0, 2, 327, 134, 72] → zF zf g = zF z0 g := by
    intro g hg
    have q1 : g ∉ [711, 727, 0, 2] := fun e => hg (by simp only [List.mem_cons, List.not_mem_nil, or_false] at e ⊢; omega)
    have q2 : g ∉ [327, 134, 72] := fun e => hg (by simp only [List.mem_cons, List.not_mem_nil, or_false] at e ⊢; omega)
    rw [fz1 g q1, cF g q2]
  have fx : ∀ g, g ∉ [711, 727, 0, 2, 327, 134, 72, 768, 769, 770, 771, 68, 69, 70, 71, 132] → zF zf g = zF y g := by
    intro g hg
    have q1 : g ∉ [711, 727, 0, 2, 327, 134, 72] := fun e => hg (by simp only [List.mem_cons, List.not_mem_nil, or_false] at e ⊢; omega)
    have q2 : g ∉ [768, 769, 770, 771, 68, 69, 70, 71, 132] := fun e => hg (by simp only [List.mem_cons, List.not_mem_nil, or_false] at e ⊢; omega)
    rw [fz0 g q1, sF g q2]
  have fa : ∀ g a, 48 ≤ a → a ≠ n0 → g ∉ [711, 727, 0, 2, 327, 134, 72] → zF zf g a = zF y g a := by
    intro g a h1 h2 hg
    rw [fz0 g hg]
    exact (ssm a h1 h2).2.1 g
  have f72a : ∀ a, 48 ≤ a → a ≠ n0 → zF zf 72 a = zF y 72 a := by
    intro a h1 h2
    rw [fz1 72 (by decide), c72 a h2]
    exact (ssm a h1 h2).2.1 72
  have f327 : ∀ i a, i < nr → zR y 2 i = some a → zA y 18 i = 1 → zF zf 327 a = F i := by
    intro i a hi e1 e2
    rw [fz1 327 (by decide)]
    exact c327 i a hi (by rw [sR2, up_old hi]; exact e1) (by rw [sA]; exact e2)
  have ax1 : ∀ g, g ∉ [31, 38, 18, 19, 20, 21, 25, 32, 33] → zA zf g = zA x0 g := by
    intro g hg
    have q1 : g ∉ [31, 38, 18, 19, 20, 21] := fun e => hg (by simp only [List.mem_cons, List.not_mem_nil, or_false] at e ⊢; omega)
    have q2 : g ∉ [25, 32, 33] := fun e => hg (by simp only [List.mem_cons, List.not_mem_nil, or_false] at e ⊢; omega)
    rw [vA g q1, dA g q2]
  have zcA : ∀ g, g ∉ [4, 5] → zA zc g = zA y g := fun g hg => by rw [tA, cA g hg, sA]
  have x0A : ∀ g, g ∉ [27, 28, 29, 30, 4, 5] → zA x0 g = zA y g := by
    intro g hg
    have q1 : g ∉ [27, 28, 29, 30] := fun e => hg (by simp only [List.mem_cons, List.not_mem_nil, or_false] at e ⊢; omega)
    have q2 : g ∉ [4, 5] := fun e => hg (by simp only [List.mem_cons, List.not_mem_nil, or_false] at e ⊢; omega)
    rw [uA g q1, zcA g q2]
  have x1A : ∀ g, g ∉ [27, 28, 29, 30, 4, 5, 25, 32, 33] → zA x1 g = zA y g := by
    intro g hg
    have q1 : g ∉ [25, 32, 33] := fun e => hg (by simp only [List.mem_cons, List.not_mem_nil, or_false] at e ⊢; omega)
    have q2 : g ∉ [27, 28, 29, 30, 4, 5] := fun e => hg (by simp only [List.mem_cons, List.not_mem_nil, or_false] at e ⊢; omega)
    rw [dA g q1, x0A g q2]
  have ax : ∀ g, g ∉ [31, 38, 18, 19, 20, 21, 25, 32, 33, 27, 28, 29, 30, 4, 5] → zA zf g = zA y g := by
    intro g hg
    have q1 : g ∉ [31, 38, 18, 19, 20, 21] := fun e => hg (by simp only [List.mem_cons, List.not_mem_nil, or_false] at e ⊢; omega)
    have q2 : g ∉ [27, 28, 29, 30, 4, 5, 25, 32, 33] := fun e => hg (by simp only [List.mem_cons, List.not_mem_nil, or_false] at e ⊢; omega)
    rw [vA g q1, x1A g q2]
  have a18 : zA zf 18 = va_up (zA y 18) nr 2 := by rw [v18, x1A 18 (by decide)]
  have a19 : zA zf 19 = va_up (zA y 19) nr (nI w) := by rw [v19, x1A 19 (by decide)]
  have a20 : zA zf 20 = va_up (zA y 20) nr (nI h) := by rw [v20, x1A 20 (by decide)]
  have a21 : zA zf 21 = va_up (zA y 21) nr (nI b) := by rw [v21, x1A 21 (by decide)]
  have a31 : zA zf 31 = va_up (zA y 31) nr (nI (cc - gv)) := by rw [v31, x1A 31 (by decide)]
  have a38 : zA zf 38 = va_up (zA y 38) b (nI nr) := by rw [v38, x1A 38 (by decide)]
  have a27 : zA zf 27 = va_up (zA y 27) nr (nI k) := by rw [ax1 27 (by decide), u27, zcA 27 (by decide)]
  have a28 : zA zf 28 = va_up (zA y 28) nr (nI n) := by rw [ax1 28 (by decide), u28, zcA 28 (by decide)]
  have a29 : zA zf 29 = va_up (zA y 29) nr (nI wt) := by rw [ax1 29 (by decide), u29, zcA 29 (by decide)]
  have a30 : zA zf 30 = va_up (zA y 30) nr (nI gv) := by rw [ax1 30 (by decide), u30, zcA 30 (by decide)]
  have a25 : zA zf 25 = F := by rw [vA 25 (by decide), d25]
  have a32 : zA zf 32 = gvU I (zA y 21) b (need, zA y 25, gv) (zA y 32) ng := by rw [vA 32 (by decide), dU, x0A 32 (by decide)]
  have a33 : zA zf 33 = gvV I (zA y 21) b (need, zA y 25, gv) (zA y 33) ng := by rw [vA 33 (by decide), dV, x0A 33 (by decide)]
  have a4 : zA zf 4 = gvU I (zA y 21) b (need, zA y 25, gv) (zA y 4) ng := by rw [vA 4 (by decide), dA 4 (by decide), uA 4 (by decide), tA, cU, sA]
  have a5 : zA zf 5 = gvV I (zA y 21) b (need, zA y 25, gv) (zA y 5) ng := by rw [vA 5 (by decide), dA 5 (by decide), uA 5 (by decide), tA, cV, sA]
  have f134 : zF zf 134 1 = nI cc := by rw [fz1 134 (by decide)]; exact c134
  have f727 : zF zf 727 17 = nI cc := by rw [vF 727 (by decide)]; exact d727
  have f0 : zF zf 0 = va_up (zF y 0) b4 (zF y 0 b4 - nI need) := by rw [vF 0 (by decide), dF 0 (by decide), uF, t0, cF 0 (by decide), sF 0 (by decide)]
  have f2 : zF zf 2 = va_up (zF y 2) b4 (zF y 2 b4 + 1) := by rw [vF 2 (by decide), dF 2 (by decide), uF, t2, cF 2 (by decide), sF 2 (by decide)]
  clear vF vA vn vK vL vG vJ vR dF dA un uK uL uG uJ uR uF uA tF tA tn tK tL tG7 tGx tJ tR ax1 zcA x0A x1A v18 v19 v20 v21 v31 v38 u27 u28 u29 u30 d25 dU dV d727 t0 t2 cU cV c134
  have hS' : Sh zf := hS.fx en eK eL (fun g c hc => by
    by_cases e : g = 7
    · rw [e, eG7, va_up_ne _ _ (by omega)]
    · rw [eGx g e])
  have hnum : I_num zf w h nb (nr + 1) ng cc nt nh := num_app hn hr (fun g hg => fx g ((by decide : ∀ f : Nat, f ∈ [704, 705, 647, 706, 646, 717, 133, 739, 257, 753, 194] → f ∉ [711, 727, 0, 2, 327, 134, 72, 768, 769, 770, 771, 68, 69, 70, 71, 132]) g hg)) v711 (by rw [fz0 132 (by decide), s132]) f727 f134
  have hnew : recOf zf (168 * w + h) nb cc nr n0 := by
    refine ⟨w1, by rw [en]; exact w2, by rw [fz0 768 (by decide), s768, a18, va_up_self], by rw [fz0 769 (by decide), s769], by rw [fz0 771 (by decide), s771, a21, va_up_self], ⟨w, h, by rw [a19, va_up_self], by rw [a20, va_up_self], n3, n4, by rw [fz0 770 (by decide), s770], Nat.le_refl _⟩, ⟨b, hb, by rw [a21, va_up_self]⟩, Or.inr (Or.inl ⟨by rw [a18, va_up_self], by rw [eK]; exact w3, by rw [fz0 68 (by decide), s68, a27, va_up_self], by rw [fz0 69 (by decide), s69, a28, va_up_self], by rw [fz0 70 (by decide), s70, a29, va_up_self], by rw [fz0 71 (by decide), s71, a30, va_up_self], by rw [fz1 72 (by decide), c72n, a31, va_up_self], ⟨k, by rw [a27, va_up_self], hk3⟩, ⟨wt, by rw [a29, va_up_self], hw1, hw2⟩, ⟨gv, cc - gv, by rw [a30, va_up_self], by rw [a31, va_up_self], by omega⟩⟩)⟩
  have hold : ∀ i a, i < nr → zR y 2 i = some a → recOf y (168 * w + h) nb gv i a → recOf zf (168 * w + h) nb cc i a := by
    intro i a hi e q
    obtain ⟨p1, p2, p3, p4, p5, p6, p7, p8⟩ := q
    have hne : a ≠ n0 := by have := hlt i a hi e; omega
    refine ⟨p1, by rw [en]; exact p2, by rw [fa 768 a p1 hne (by decide), a18, up_old hi]; exact p3, by rw [fa 769 a p1 hne (by decide)]; exact p4, by rw [fa 771 a p1 hne (by decide), a21, up_old hi]; exact p5, by rw [fa 770 a p1 hne (by decide), a19, up_old hi, a20, up_old hi]; exact p6, by rw [a21, up_old hi]; exact p7, ?_⟩
    rcases p8 with p | p | p
    · obtain ⟨q1, q2, q3, q4, q5, q6, q7, q8, q9⟩ := p
      refine Or.inl ⟨by rw [a18, up_old hi]; exact q1, by rw [eK]; exact q2, by rw [fa 324 a p1 hne (by decide), ax 22 (by decide)]; exact q3, by rw [fa 325 a p1 hne (by decide), ax 23 (by decide)]; exact q4, by rw [fa 326 a p1 hne (by decide), ax 24 (by decide)]; exact q5, by rw [f327 i a hi e q1, a25], by rw [ax 22 (by decide)]; exact q7, by rw [ax 23 (by decide)]; exact q8, ?_⟩
      rw [ax 24 (by decide), a25]
      rcases q9 with u | u
      · exact Or.inl ⟨u.1, by rw [hout i (hnin i u.1)]; exact u.2⟩
      · obtain ⟨g, o1, o2⟩ := hin i hi q1 u.1
        have := hflN g o1
        rw [o2] at this
        exact Or.inr ⟨u.1, this⟩
    · obtain ⟨q1, q2, q3, q4, q5, q6, q7, q8, q9, f', g', r1, r2', r3⟩ := p
      exact Or.inr (Or.inl ⟨by rw [a18, up_old hi]; exact q1, by rw [eK]; exact q2, by rw [fa 68 a p1 hne (by decide), a27, up_old hi]; exact q3, by rw [fa 69 a p1 hne (by decide), a28, up_old hi]; exact q4, by rw [fa 70 a p1 hne (by decide), a29, up_old hi]; exact q5, by rw [fa 71 a p1 hne (by decide), a30, up_old hi]; exact q6, by rw [f72a a p1 hne, a31, up_old hi]; exact q7, by rw [a27, up_old hi]; exact q8, by rw [a29, up_old hi]; exact q9, ⟨f', g', by rw [a30, up_old hi]; exact r1, by rw [a31, up_old hi]; exact r2', by omega⟩⟩)
    · obtain ⟨q1, q2, q3, q4, q5, q6, q7, q8, q9⟩ := p
      exact Or.inr (Or.inr ⟨by rw [a18, up_old hi]; exact q1, by rw [eK]; exact q2, by rw [fa 452 a p1 hne (by decide), ax 34 (by decide)]; exact q3, by rw [fa 453 a p1 hne (by decide), ax 34 (by decide)]; exact q4, by rw [fa 454 a p1 hne (by decide), ax 34 (by decide)]; exact q5, by rw [fa 455 a p1 hne (by decide), ax 34 (by decide)]; exact q6, by rw [fa 456 a p1 hne (by decide), ax 34 (by decide)]; exact q7, by rw [fa 457 a p1 hne (by decide), ax 34 (by decide)]; exact q8, by rw [ax 34 (by decide)]; exact q9⟩)
  have hrec' : I_rec zf (168 * w + h) nb (nr + 1) cc := by
    refine ⟨fun i hi => ?_, fun i j a a' hij hj ha hb => ?_, fun i hi => ?_⟩
    · rw [r2]
      rcases Nat.lt_or_ge i nr with hi2 | hi2
      · obtain ⟨a, e, q⟩ := hrec.1 i hi2
        exact ⟨a, by rw [up_old hi2]; exact e, hold i a hi2 e q⟩
      · have ei : i = nr := by omega
        rw [ei]
        exact ⟨n0, va_up_self _ _ _, hnew⟩
    · rw [r2] at ha hb
      rcases Nat.lt_or_ge j nr with hj2 | hj2
      · rw [up_old (show i < nr by omega)] at ha
        rw [up_old hj2] at hb
        exact hrec.2.1 i j a a' hij hj2 ha hb
      · have ej : j = nr := by omega
        rw [ej, va_up_self] at hb
        rw [up_old (show i < nr by omega)] at ha
        cases hb
        exact hlt i a (by omega) ha
    · rw [ax 24 (by decide), a25, hout i (fun g hg => by have := (hL.1 g hg).1; omega)]
      exact hrec.2.2 i (by omega)
  have hbk' : I_bk zf nb (nr + 1) := by
    refine ⟨fun j hj => ?_, by rw [rx 16 (by decide)]; exact hbk.2.1, by rw [ax 35 (by decide), ax 36 (by decide), ax 37 (by decide)]; exact hbk.2.2⟩
    obtain ⟨a, e, p⟩ := hbk.1 j hj
    have p' := p
    obtain ⟨q1, q2, q3, q4, q5, q6, q7, q8, q9, q10, q11⟩ := p'
    refine ⟨a, by rw [rx 16 (by decide)]; exact e, p.app (s := 2) (b := nI b) (n0 := n0) (by rw [en]; exact Nat.le_refl _) (by rw [eK]) a18 a21 ?_ ?_ ?_ ?_ ?_ ?_ ?_ r2 ?_⟩
    · rw [fl_app a18 a21 (C := F) (fun k _ => by rw [a25]) (fun e => absurd e (by decide)), f0]
      by_cases ej : j = b
      · subst ej
        rw [hb4] at e
        cases e
        rw [va_up_self, q4, ← hsum, Int32.add_sub_cancel]
      · have hne := hbk.ne hj hb e hb4 ej
        have hne2 : ¬ nI b = nI j := by rw [nI_eq (by omega) (by omega)]; omega
        rw [va_up_ne _ _ hne, q4, hoth _ hne2]
    · rw [fx 1 (by decide), if_neg (fun t => absurd t.1 (by decide)), Int32.add_zero]
    · rw [f2]
      by_cases ej : j = b
      · subst ej
        rw [hb4] at e
        cases e
        rw [va_up_self, if_pos ⟨rfl, rfl⟩]
      · have hne := hbk.ne hj hb e hb4 ej
        have hne2 : ¬ nI b = nI j := by rw [nI_eq (by omega) (by omega)]; omega
        rw [va_up_ne _ _ hne, if_neg (fun t => hne2 t.2), Int32.add_zero]
    · rw [fx 3 (by decide), if_neg (fun t => absurd t.1 (by decide)), Int32.add_zero]
    · rw [fx 4 (by decide), ax 35 (by decide)]; exact q8
    · rw [fx 5 (by decide), ax 36 (by decide)]; exact q9
    · rw [fx 6 (by decide), ax 37 (by decide)]; exact q10
    · rw [eG7, a38]
      by_cases ej : j = b
      · subst ej
        rw [hb4] at e
        cases e
        exact Or.inr ⟨va_up_self _ _ _, va_up_self _ _ _, rfl⟩
      · have hne := hbk.ne hj hb e hb4 ej
        exact Or.inl ⟨va_up_ne _ _ hne, va_up_ne _ _ ej⟩
  have hgr' : I_gr zf (nr + 1) ng := hgr.app (ax 26 (by decide)) (rx 3 (by decide)) r2 a18 (ax 24 (by decide)) (hrec.2.2 nr (Nat.le_refl _)).1
  have hgf' : I_gf zf (nr + 1) cc := by
    refine ⟨?_, fun j hj => ?_⟩
    · rw [a18, ax 24 (by decide), a25]
      simp only [usedR, usedR_congr (A := va_up (zA y 18) nr 2) (A' := zA y 18) (B := zA y 24) (B' := zA y 24) (C := F) (C' := F) (n := nr) (fun k hk => ⟨up_old hk, rfl, rfl⟩), va_up_self]
      rw [if_pos (Or.inr trivial)]
      exact hu2
    · rw [a4, a5, a32, a33]
      rw [hcc] at hj
      exact ⟨gvU_old (s0 := (need, zA y 25, gv)) (fun k hk => (hgf.2 k hk).1) ng j hj, gvV_old (s0 := (need, zA y 25, gv)) (fun k hk => (hgf.2 k hk).2) ng j hj⟩
  have hmk' : I_mk zf (nr + 1) := hmk.app (s := 2) (by decide) a18 a19 (ax 22 (by decide)) (ax 23 (by decide)) (by rw [eJ]) (by rw [eJ])
  have htx' : I_tx zf nt := htx.fx en eK eL (fun g hg => fx g ((by decide : ∀ f : Nat, f ∈ [512, 513, 514, 518] → f ∉ [711, 727, 0, 2, 327, 134, 72, 768, 769, 770, 771, 68, 69, 70, 71, 132]) g hg)) (fun g hg => eGx g ((by decide : ∀ f : Nat, f ∈ [515, 516, 517] → f ≠ 7) g hg)) (fun c hc => ax c (fun e => by
    simp only [List.mem_cons, List.not_mem_nil, or_false] at e hc
    omega)) (rx 10 (by decide))
  have hst' : I_st zf := hst.fx (fun g hg => fx g ((by decide : ∀ f : Nat, f ∈ [746, 747, 748, 749, 195, 196, 197, 198, 199, 750] → f ∉ [711, 727, 0, 2, 327, 134, 72, 768, 769, 770, 771, 68, 69, 70, 71, 132]) g hg))
  have hsc' : I_sc zf := hsc.fx (fun g hg => fx g ((by decide : ∀ f : Nat, f ∈ [718, 648, 651, 719, 649, 744, 650, 745, 579, 743] → f ∉ [711, 727, 0, 2, 327, 134, 72, 768, 769, 770, 771, 68, 69, 70, 71, 132]) g hg))
  have hhv' : I_hv zf w nh := hhv.fx (fun g hg => ax g ((by decide : ∀ f : Nat, f ∈ [46, 47, 14, 15] → f ∉ [31, 38, 18, 19, 20, 21, 25, 32, 33, 27, 28, 29, 30, 4, 5]) g hg))
  have htn' : I_tn zf nb := htn.fx (fun g hg => fx g ((by decide : ∀ f : Nat, f ∈ [741, 742, 577, 578] → f ∉ [711, 727, 0, 2, 327, 134, 72, 768, 769, 770, 771, 68, 69, 70, 71, 132]) g hg)) (fun g hg => ax g ((by decide : ∀ f : Nat, f ∈ [12, 45] → f ∉ [31, 38, 18, 19, 20, 21, 25, 32, 33, 27, 28, 29, 30, 4, 5]) g hg))
  exact ⟨hS', hsc', hst', w, h, nb, nr + 1, ng, cc, nt, nh, hnum, hhv', hrec', hbk', hgr', hgf', hmk', htx', htn'⟩
