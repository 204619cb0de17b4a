-- BAKER
/-- a cell that has just been made -/
def Nw (y : Hp) (n k : Nat) : Prop := 48 ≤ n ∧ n < zn y ∧ zK y n = k ∧ (∀ f, zF y f n = 0) ∧ (∀ f, zG y f n = none)
theorem Nw.of {z : Hp} {k len : Nat} (hS : Sh z) : Nw (zal z k len) (zn z) k := by
  refine ⟨hS.1, by rw [al_n]; omega, by rw [al_K, va_up_self], fun f => by rw [al_F, va_up_self], fun f => by rw [al_G, va_up_self]⟩
theorem al_F0 {z : Hp} {k n f a : Nat} (hS : Sh z) (ha : a < 48) : zF (zal z k n) f a = zF z f a := by rw [al_F, va_up_ne _ _ (ne_n hS ha)]
theorem al_G0 {z : Hp} {k n f a : Nat} (hS : Sh z) (ha : a < 48) : zG (zal z k n) f a = zG z f a := by rw [al_G, va_up_ne _ _ (ne_n hS ha)]
def bkZ1 (y : Hp) (n0 nb : Nat) : Hp := zsF (zsF (zsF (zsR y 16 nb (some n0)) 646 0 (nI (nb + 1))) 577 11 0) 578 11 0
def bkZ2 (y : Hp) (nb : Nat) : Hp := zsF (zsF (zsA y 38 nb (-6)) 706 17 (nI (nb + 1))) 741 17 0
theorem baker_bk {y : Hp} {n0 nb nr t gv : Nat} (hrec : I_rec y t nb nr gv) (hbk : I_bk y nb nr) (hnb : nb < 8) (hnw : Nw y n0 0) (hlt : ∀ j a, j < nb → zR y 16 j = some a → a < n0) : I_bk (bkZ2 (bkZ1 y n0 nb) nb) (nb + 1) nr := by
  obtain ⟨h1, h2, h3⟩ := hbk
  obtain ⟨w1, w2, w3, w4, w5⟩ := hnw
  have r16 : zR (bkZ2 (bkZ1 y n0 nb) nb) 16 = va_up (zR y 16) nb (some n0) := by simp only [bkZ1, bkZ2, eF_zn, eF_zK, eF_zL, eF_s, eF_n, eF_zG, eF_zA, eF_zJ, eF_zR, eG_zn, eG_zK, eG_zL, eG_zF, eG_s, eG_n, eG_zA, eG_zJ, eG_zR, eA_zn, eA_zK, eA_zL, eA_zF, eA_zG, eA_s, eA_n, eA_zJ, eA_zR, eJ_zn, eJ_zK, eJ_zL, eJ_zF, eJ_zG, eJ_zA, eJ_s, eJ_n, eJ_zR, eR_zn, eR_zK, eR_zL, eR_zF, eR_zG, eR_zA, eR_zJ, eR_s, eR_n, ne_eq, not_false_eq_true, not_true_eq_false, reduceCtorEq, Nat.reduceEqDiff]
  have r2 : zR (bkZ2 (bkZ1 y n0 nb) nb) 2 = zR y 2 := by simp only [bkZ1, bkZ2, eF_zn, eF_zK, eF_zL, eF_s, eF_n, eF_zG, eF_zA, eF_zJ, eF_zR, eG_zn, eG_zK, eG_zL, eG_zF, eG_s, eG_n, eG_zA, eG_zJ, eG_zR, eA_zn, eA_zK, eA_zL, eA_zF, eA_zG, eA_s, eA_n, eA_zJ, eA_zR, eJ_zn, eJ_zK, eJ_zL, eJ_zF, eJ_zG, eJ_zA, eJ_s, eJ_n, eJ_zR, eR_zn, eR_zK, eR_zL, eR_zF, eR_zG, eR_zA, eR_zJ, eR_s, eR_n, ne_eq, not_false_eq_true, not_true_eq_false, reduceCtorEq, Nat.reduceEqDiff]
  have a18 : zA (bkZ2 (bkZ1 y n0 nb) nb) 18 = zA y 18 := by simp only [bkZ1, bkZ2, eF_zn, eF_zK, eF_zL, eF_s, eF_n, eF_zG, eF_zA, eF_zJ, eF_zR, eG_zn, eG_zK, eG_zL, eG_zF, eG_s, eG_n, eG_zA, eG_zJ, eG_zR, eA_zn, eA_zK, eA_zL, eA_zF, eA_zG, eA_s, eA_n, eA_zJ, eA_zR, eJ_zn, eJ_zK, eJ_zL, eJ_zF, eJ_zG, eJ_zA, eJ_s, eJ_n, eJ_zR, eR_zn, eR_zK, eR_zL, eR_zF, eR_zG, eR_zA, eR_zJ, eR_s, eR_n, ne_eq, not_false_eq_true, not_true_eq_false, reduceCtorEq, Nat.reduceEqDiff]
  have a21 : zA (bkZ2 (bkZ1 y n0 nb) nb) 21 = zA y 21 := by simp only [bkZ1, bkZ2, eF_zn, eF_zK, eF_zL, eF_s, eF_n, eF_zG, eF_zA, eF_zJ, eF_zR, eG_zn, eG_zK, eG_zL, eG_zF, eG_s, eG_n, eG_zA, eG_zJ, eG_zR, eA_zn, eA_zK, eA_zL, eA_zF, eA_zG, eA_s, eA_n, eA_zJ, eA_zR, eJ_zn, eJ_zK, eJ_zL, eJ_zF, eJ_zG, eJ_zA, eJ_s, eJ_n, eJ_zR, eR_zn, eR_zK, eR_zL, eR_zF, eR_zG, eR_zA, eR_zJ, eR_s, eR_n, ne_eq, not_false_eq_true, not_true_eq_false, reduceCtorEq, Nat.reduceEqDiff]
  have a25 : zA (bkZ2 (bkZ1 y n0 nb) nb) 25 = zA y 25 := by simp only [bkZ1, bkZ2, eF_zn, eF_zK, eF_zL, eF_s, eF_n, eF_zG, eF_zA, eF_zJ, eF_zR, eG_zn, eG_zK, eG_zL, eG_zF, eG_s, eG_n, eG_zA, eG_zJ, eG_zR, eA_zn, eA_zK, eA_zL, eA_zF, eA_zG, eA_s, eA_n, eA_zJ, eA_zR, eJ_zn, eJ_zK, eJ_zL, eJ_zF, eJ_zG, eJ_zA, eJ_s, eJ_n, eJ_zR, eR_zn, eR_zK, eR_zL, eR_zF, eR_zG, eR_zA, eR_zJ, eR_s, eR_n, ne_eq, not_false_eq_true, not_true_eq_false, reduceCtorEq, Nat.reduceEqDiff]
  have a35 : zA (bkZ2 (bkZ1 y n0 nb) nb) 35 = zA y 35 := by simp only [bkZ1, bkZ2, eF_zn, eF_zK, eF_zL, eF_s, eF_n, eF_zG, eF_zA, eF_zJ, eF_zR, eG_zn, eG_zK, eG_zL, eG_zF, eG_s, eG_n, eG_zA, eG_zJ, eG_zR, eA_zn, eA_zK, eA_zL, eA_zF, eA_zG, eA_s, eA_n, eA_zJ, eA_zR, eJ_zn, eJ_zK, eJ_zL, eJ_zF, eJ_zG, eJ_zA, eJ_s, eJ_n, eJ_zR, eR_zn, eR_zK, eR_zL, eR_zF, eR_zG, eR_zA, eR_zJ, eR_s, eR_n, ne_eq, not_false_eq_true, not_true_eq_false, reduceCtorEq, Nat.reduceEqDiff]
  have a36 : zA (bkZ2 (bkZ1 y n0 nb) nb) 36 = zA y 36 := by simp only [bkZ1, bkZ2, eF_zn, eF_zK, eF_zL, eF_s, eF_n, eF_zG, eF_zA, eF_zJ, eF_zR, eG_zn, eG_zK, eG_zL, eG_zF, eG_s, eG_n, eG_zA, eG_zJ, eG_zR, eA_zn, eA_zK, eA_zL, eA_zF, eA_zG, eA_s, eA_n, eA_zJ, eA_zR, eJ_zn, eJ_zK, eJ_zL, eJ_zF, eJ_zG, eJ_zA, eJ_s, eJ_n, eJ_zR, eR_zn, eR_zK, eR_zL, eR_zF, eR_zG, eR_zA, eR_zJ, eR_s, eR_n, ne_eq, not_false_eq_true, not_true_eq_false, reduceCtorEq, Nat.reduceEqDiff]
  have a37 : zA (bkZ2 (bkZ1 y n0 nb) nb) 37 = zA y 37 := by simp only [bkZ1, bkZ2, eF_zn, eF_zK, eF_zL, eF_s, eF_n, eF_zG, eF_zA, eF_zJ, eF_zR, eG_zn, eG_zK, eG_zL, eG_zF, eG_s, eG_n, eG_zA, eG_zJ, eG_zR, eA_zn, eA_zK, eA_zL, eA_zF, eA_zG, eA_s, eA_n, eA_zJ, eA_zR, eJ_zn, eJ_zK, eJ_zL, eJ_zF, eJ_zG, eJ_zA, eJ_s, eJ_n, eJ_zR, eR_zn, eR_zK, eR_zL, eR_zF, eR_zG, eR_zA, eR_zJ, eR_s, eR_n, ne_eq, not_false_eq_true, not_true_eq_false, reduceCtorEq, Nat.reduceEqDiff]
  have a38 : zA (bkZ2 (bkZ1 y n0 nb) nb) 38 = va_up (zA y 38) nb (-6) := by simp only [bkZ1, bkZ2, eF_zn, eF_zK, eF_zL, eF_s, eF_n, eF_zG, eF_zA, eF_zJ, eF_zR, eG_zn, eG_zK, eG_zL, eG_zF, eG_s, eG_n, eG_zA, eG_zJ, eG_zR, eA_zn, eA_zK, eA_zL, eA_zF, eA_zG, eA_s, eA_n, eA_zJ, eA_zR, eJ_zn, eJ_zK, eJ_zL, eJ_zF, eJ_zG, eJ_zA, eJ_s, eJ_n, eJ_zR, eR_zn, eR_zK, eR_zL, eR_zF, eR_zG, eR_zA, eR_zJ, eR_s, eR_n, ne_eq, not_false_eq_true, not_true_eq_false, reduceCtorEq, Nat.reduceEqDiff]
  have sm : ∀ a, 48 ≤ a → Sm y (bkZ2 (bkZ1 y n0 nb) nb) a := fun a ha => ((((((((Sm.refl y a).sR).sF (by omega)).sF (by omega)).sF (by omega)).sA).sF (by omega)).sF (by omega))
  have en : zn (bkZ2 (bkZ1 y n0 nb) nb) = zn y := by simp only [bkZ1, bkZ2, eF_zn, eF_zK, eF_zL, eF_s, eF_n, eF_zG, eF_zA, eF_zJ, eF_zR, eG_zn, eG_zK, eG_zL, eG_zF, eG_s, eG_n, eG_zA, eG_zJ, eG_zR, eA_zn, eA_zK, eA_zL, eA_zF, eA_zG, eA_s, eA_n, eA_zJ, eA_zR, eJ_zn, eJ_zK, eJ_zL, eJ_zF, eJ_zG, eJ_zA, eJ_s, eJ_n, eJ_zR, eR_zn, eR_zK, eR_zL, eR_zF, eR_zG, eR_zA, eR_zJ, eR_s, eR_n, ne_eq, not_false_eq_true, not_true_eq_false, reduceCtorEq, Nat.reduceEqDiff]
  refine ⟨fun j hj => ?_, fun i j a b hij hj ha hb => ?_, fun j hj => ?_⟩
  · rw [r16]
    rcases Nat.lt_or_ge j nb with hj2 | hj2
    · obtain ⟨a, e, q⟩ := h1 j hj2
      refine ⟨a, by rw [up_old hj2]; exact e, q.cg (by rw [en]; exact Nat.le_refl _) (sm a q.1) a18 a21 a25 (by rw [a35]) (by rw [a36]) (by rw [a37]) (by rw [a38, up_old hj2]) r2⟩
    · have ej : j = nb := by omega
      subst ej
      obtain ⟨k, f, g⟩ := sm n0 w1
      obtain ⟨p1, p2, p3⟩ := h3 j (Nat.le_refl _)
      have hne : ∀ i, i < nr → zA y 21 i ≠ nI j := by
        intro i hi q
        obtain ⟨b, b1, b2⟩ := hrec.b hi
        rw [b2, nI_eq (by omega) (by omega)] at q
        omega
      refine ⟨n0, va_up_self _ _ _, w1, by rw [en]; exact w2, by rw [k]; exact w3, ?_, ?_, ?_, ?_, ?_, ?_, ?_, Or.inl ⟨by rw [g]; exact w5 7, by rw [a38, va_up_self]⟩⟩
      · rw [f, w4, a18, a21, a25, flS_0 hne]
      · rw [f, w4, a18, a21, cntR_0 hne]
      · rw [f, w4, a18, a21, cntR_0 hne]
      · rw [f, w4, a18, a21, cntR_0 hne]
      · rw [f, w4, a35, p1]
      · rw [f, w4, a36, p2]
      · rw [f, w4, a37, p3]
  · rw [r16] at ha hb
    rcases Nat.lt_or_ge j nb with hj2 | hj2
    · rw [up_old (show i < nb by omega)] at ha
      rw [up_old hj2] at hb
      exact h2 i j a b hij hj2 ha hb
    · have ej : j = nb := by omega
      subst ej
      rw [va_up_self] at hb
      rw [up_old hij] at ha
      cases hb
      exact hlt i a hij ha
  · rw [a35, a36, a37]
    exact h3 j (by omega)
theorem baker_num {y : Hp} {n0 w h nb nr ng gv nt nh : Nat} (hn : I_num y w h nb nr ng gv nt nh) (hnb : nb < 8) : I_num (bkZ2 (bkZ1 y n0 nb) nb) w h (nb + 1) nr ng gv nt nh := by
  obtain ⟨⟨n1, n2, n3, n4, n5⟩, m2, m3, m4, m5, m6, m7⟩ := id hn
  unfold I_num
  simp only [bkZ1, bkZ2, eF_zn, eF_zK, eF_zL, eF_s, eF_n, eF_zG, eF_zA, eF_zJ, eF_zR, eG_zn, eG_zK, eG_zL, eG_zF, eG_s, eG_n, eG_zA, eG_zJ, eG_zR, eA_zn, eA_zK, eA_zL, eA_zF, eA_zG, eA_s, eA_n, eA_zJ, eA_zR, eJ_zn, eJ_zK, eJ_zL, eJ_zF, eJ_zG, eJ_zA, eJ_s, eJ_n, eJ_zR, eR_zn, eR_zK, eR_zL, eR_zF, eR_zG, eR_zA, eR_zJ, eR_s, eR_n, ne_eq, not_false_eq_true, not_true_eq_false, reduceCtorEq, Nat.reduceEqDiff, va_up_self]
  exact ⟨⟨n1, n2, n3, n4, n5⟩, ⟨trivial, trivial, by omega⟩, m3, m4, m5, m6, m7⟩
theorem baker_tn {y : Hp} {n0 nb : Nat} (htn : I_tn y nb) : I_tn (bkZ2 (bkZ1 y n0 nb) nb) (nb + 1) := by
  obtain ⟨tl, tm, len, nx, t1, t2, t3, t4, t5, t6, t7, t8, -⟩ := htn
  unfold I_tn
  simp only [bkZ1, bkZ2, eF_zn, eF_zK, eF_zL, eF_s, eF_n, eF_zG, eF_zA, eF_zJ, eF_zR, eG_zn, eG_zK, eG_zL, eG_zF, eG_s, eG_n, eG_zA, eG_zJ, eG_zR, eA_zn, eA_zK, eA_zL, eA_zF, eA_zG, eA_s, eA_n, eA_zJ, eA_zR, eJ_zn, eJ_zK, eJ_zL, eJ_zF, eJ_zG, eJ_zA, eJ_s, eJ_n, eJ_zR, eR_zn, eR_zK, eR_zL, eR_zF, eR_zG, eR_zA, eR_zJ, eR_s, eR_n, ne_eq, not_false_eq_true, not_true_eq_false, reduceCtorEq, Nat.reduceEqDiff, va_up_self]
  exact ⟨0, tm, 0, 0, rfl, t2, rfl, rfl, by omega, by omega, t7, by omega, Or.inl ⟨rfl, Nat.le_refl _⟩⟩
theorem baker_keep {z : Hp} {n0 w h nb nr ng gv nt nh : Nat} (hS : Sh z) (hsc : I_sc z) (hst : I_st z) (hn : I_num z w h nb nr ng gv nt nh) (hhv : I_hv z w nh) (hrec : I_rec z (168 * w + h) nb nr gv) (hbk : I_bk z nb nr) (hgr : I_gr z nr ng) (hgf : I_gf z nr gv) (hmk : I_mk z nr) (htx : I_tx z nt) (htn : I_tn z nb) (hnb : nb < 8) (hnw : Nw z n0 0) (hlt : ∀ j a, j < nb → zR z 16 j = some a → a < n0) : Inv (bkZ2 (bkZ1 z n0 nb) nb) := by
  exact ⟨hS.sR.sF.sF.sF.sA.sF.sF, (((((((hsc.sR).sF (by decide)).sF (by decide)).sF (by decide)).sA).sF (by decide)).sF (by decide)), (((((((hst.sR).sF (by decide)).sF (by decide)).sF (by decide)).sA).sF (by decide)).sF (by decide)), w, h, nb + 1, nr, ng, gv, nt, nh, (baker_num hn hnb), (((((((hhv.sR).sF).sF).sF).sA (by decide)).sF).sF), ((((((((hrec.sR (by decide)).sF (by decide)).sF (by decide)).sF (by decide)).sA (by decide)).sF (by decide)).sF (by decide)).nbUp (Nat.le_succ nb)), (baker_bk hrec hbk hnb hnw hlt), (((((((hgr.sR (by decide)).sF).sF).sF).sA (by decide)).sF).sF), (((((((hgf.sR).sF).sF).sF).sA (by decide)).sF).sF), (((((((hmk.sR).sF).sF).sF).sA (by decide)).sF).sF), (((((((htx.sR (by decide)).sF (by decide)).sF (by decide)).sF (by decide)).sA (by decide) (by decide)).sF (by decide)).sF (by decide)), (baker_tn htn)⟩
theorem op_baker (N : Nat) : Op_baker N Inv := by
  intro z hI
  obtain ⟨hS, hsc, hst, w, h, nb, nr, ng, gv, nt, nh, hn, hhv, hrec, hbk, hgr, hgf, hmk, htx, htn⟩ := id hI
  obtain ⟨n1, ⟨n3, n4, n5⟩, m3, m4, m5, m6, m7⟩ := id hn
  by_cases h8 : nb = 8
  · have c1 : ¬ nI nb < 8 := by rw [h8]; decide
    have c2 : nI nb = 8 := by rw [h8]; rfl
    refine ⟨-4, z, z, ?_, of_eq_true (o17 hS), ?_, hI⟩
    · simp only [fX11_baker, gdT, brTr, brFa, br_00, br_10, bd_e, bo_s, bp_s, cs_s, cs_n, lf_s, o0 hS, o1 hS, o2 hS, o3 hS, o4 hS, o5 hS, o6 hS, o7 hS, o8 hS, o9 hS, o10 hS, o11 hS, o12 hS, o13 hS, o14 hS, o15 hS, o16 hS, o17 hS, o18 hS, o19 hS, o20 hS, o21 hS, o22 hS, o23 hS, o24 hS, o25 hS, o26 hS, o27 hS, o28 hS, o29 hS, o30 hS, o31 hS, o32 hS, o33 hS, o34 hS, o35 hS, o36 hS, o37 hS, o38 hS, o39 hS, o40 hS, o41 hS, o42 hS, o43 hS, o44 hS, o45 hS, o46 hS, o47 hS, l2 hS, l3 hS, l4 hS, l5 hS, l7 hS, l8 hS, l10 hS, l12 hS, l14 hS, l15 hS, l16 hS, l18 hS, l19 hS, l20 hS, l21 hS, l22 hS, l23 hS, l24 hS, l25 hS, l26 hS, l27 hS, l28 hS, l29 hS, l30 hS, l31 hS, l32 hS, l33 hS, l34 hS, l35 hS, l36 hS, l37 hS, l38 hS, l39 hS, l40 hS, l41 hS, l42 hS, l43 hS, l44 hS, l45 hS, l46 hS, l47 hS, g640 hS, g641 hS, g642 hS, g643 hS, g644 hS, g645 hS, g128 hS, g129 hS, g130 hS, g131 hS, g384 hS, g385 hS, g256 hS, g576 hS, g192 hS, g193 hS, g707 hS, g708 hS, g709 hS, g710 hS, g712 hS, g713 hS, g714 hS, g715 hS, g716 hS, g720 hS, g721 hS, g722 hS, g723 hS, g724 hS, g725 hS, g726 hS, g728 hS, g729 hS, g730 hS, g731 hS, g732 hS, g733 hS, g734 hS, g735 hS, g736 hS, g737 hS, g738 hS, g740 hS, g751 hS, g752 hS, n4, br_n c1]
    · simp only [fX12_baker, gdT, brTr, brFa, br_00, br_10, bd_e, bo_s, bp_s, cs_s, cs_n, lf_s, o0 hS, o1 hS, o2 hS, o3 hS, o4 hS, o5 hS, o6 hS, o7 hS, o8 hS, o9 hS, o10 hS, o11 hS, o12 hS, o13 hS, o14 hS, o15 hS, o16 hS, o17 hS, o18 hS, o19 hS, o20 hS, o21 hS, o22 hS, o23 hS, o24 hS, o25 hS, o26 hS, o27 hS, o28 hS, o29 hS, o30 hS, o31 hS, o32 hS, o33 hS, o34 hS, o35 hS, o36 hS, o37 hS, o38 hS, o39 hS, o40 hS, o41 hS, o42 hS, o43 hS, o44 hS, o45 hS, o46 hS, o47 hS, l2 hS, l3 hS, l4 hS, l5 hS, l7 hS, l8 hS, l10 hS, l12 hS, l14 hS, l15 hS, l16 hS, l18 hS, l19 hS, l20 hS, l21 hS, l22 hS, l23 hS, l24 hS, l25 hS, l26 hS, l27 hS, l28 hS, l29 hS, l30 hS, l31 hS, l32 hS, l33 hS, l34 hS, l35 hS, l36 hS, l37 hS, l38 hS, l39 hS, l40 hS, l41 hS, l42 hS, l43 hS, l44 hS, l45 hS, l46 hS, l47 hS, g640 hS, g641 hS, g642 hS, g643 hS, g644 hS, g645 hS, g128 hS, g129 hS, g130 hS, g131 hS, g384 hS, g385 hS, g256 hS, g576 hS, g192 hS, g193 hS, g707 hS, g708 hS, g709 hS, g710 hS, g712 hS, g713 hS, g714 hS, g715 hS, g716 hS, g720 hS, g721 hS, g722 hS, g723 hS, g724 hS, g725 hS, g726 hS, g728 hS, g729 hS, g730 hS, g731 hS, g732 hS, g733 hS, g734 hS, g735 hS, g736 hS, g737 hS, g738 hS, g740 hS, g751 hS, g752 hS, n3, br_y c2]
  · have hb : nb < 8 := by omega
    have c1 : nI nb < 8 := by rw [show (8 : Int32) = nI 8 from rfl]; exact nI_lt hb (by decide)
    have c2 : ¬ nI nb = 8 := by rw [show (8 : Int32) = nI 8 from rfl, nI_eq (by omega) (by decide)]; exact h8
    have hSy : Sh (zal z 0 0) := hS.al
    have hnw := Nw.of (k := 0) (len := 0) hS
    have e646 : zF (zal z 0 0) 646 0 = nI nb := (al_F0 hS (by decide)).trans n4
    have e706 : zF (zal z 0 0) 706 17 = nI nb := (al_F0 hS (by decide)).trans n3
    have hlt : ∀ j a, j < nb → zR (zal z 0 0) 16 j = some a → a < zn z := by
      intro j a hj e
      rw [al_R _ _ _ (ne_n hS (by decide))] at e
      obtain ⟨b, e1, q⟩ := hbk.1 j hj
      rw [e1] at e
      cases e
      exact q.2.1
    have hk := baker_keep hSy (hsc.al hS) (hst.al hS) (hn.al hS) (hhv.al hS) (hrec.al hS) (hbk.al hS) (hgr.al hS) (hgf.al hS) (hmk.al hS) (htx.al hS) (htn.al hS) hb hnw hlt
    have hnew : (zn z < zn (zal z 0 0) ∧ zK (zal z 0 0) (zn z) = 0) = True := eq_true ⟨hnw.2.1, hnw.2.2.1⟩
    refine ⟨nI nb, bkZ1 (zal z 0 0) (zn z) nb, bkZ2 (bkZ1 (zal z 0 0) (zn z) nb) nb, ?_, of_eq_true (o17 hSy.sR.sF.sF.sF), ?_, hk⟩
    · simp only [fX11_baker, fX0_init, fX10_dropRow, gdT, brTr, brFa, br_00, br_10, bd_e, bo_s, bp_s, cs_s, cs_n, lf_s, eF_zn, eF_zK, eF_zL, eF_s, eF_n, eF_zG, eF_zA, eF_zJ, eF_zR, eG_zn, eG_zK, eG_zL, eG_zF, eG_s, eG_n, eG_zA, eG_zJ, eG_zR, eA_zn, eA_zK, eA_zL, eA_zF, eA_zG, eA_s, eA_n, eA_zJ, eA_zR, eJ_zn, eJ_zK, eJ_zL, eJ_zF, eJ_zG, eJ_zA, eJ_s, eJ_n, eJ_zR, eR_zn, eR_zK, eR_zL, eR_zF, eR_zG, eR_zA, eR_zJ, eR_s, eR_n, ne_eq, not_false_eq_true, not_true_eq_false, reduceCtorEq, Nat.reduceEqDiff, o0 hS, o1 hS, o2 hS, o3 hS, o4 hS, o5 hS, o6 hS, o7 hS, o8 hS, o9 hS, o10 hS, o11 hS, o12 hS, o13 hS, o14 hS, o15 hS, o16 hS, o17 hS, o18 hS, o19 hS, o20 hS, o21 hS, o22 hS, o23 hS, o24 hS, o25 hS, o26 hS, o27 hS, o28 hS, o29 hS, o30 hS, o31 hS, o32 hS, o33 hS, o34 hS, o35 hS, o36 hS, o37 hS, o38 hS, o39 hS, o40 hS, o41 hS, o42 hS, o43 hS, o44 hS, o45 hS, o46 hS, o47 hS, l2 hS, l3 hS, l4 hS, l5 hS, l7 hS, l8 hS, l10 hS, l12 hS, l14 hS, l15 hS, l16 hS, l18 hS, l19 hS, l20 hS, l21 hS, l22 hS, l23 hS, l24 hS, l25 hS, l26 hS, l27 hS, l28 hS, l29 hS, l30 hS, l31 hS, l32 hS, l33 hS, l34 hS, l35 hS, l36 hS, l37 hS, l38 hS, l39 hS, l40 hS, l41 hS, l42 hS, l43 hS, l44 hS, l45 hS, l46 hS, l47 hS, g640 hS, g641 hS, g642 hS, g643 hS, g644 hS, g645 hS, g128 hS, g129 hS, g130 hS, g131 hS, g384 hS, g385 hS, g256 hS, g576 hS, g192 hS, g193 hS, g707 hS, g708 hS, g709 hS, g710 hS, g712 hS, g713 hS, g714 hS, g715 hS, g716 hS, g720 hS, g721 hS, g722 hS, g723 hS, g724 hS, g725 hS, g726 hS, g728 hS, g729 hS, g730 hS, g731 hS, g732 hS, g733 hS, g734 hS, g735 hS, g736 hS, g737 hS, g738 hS, g740 hS, g751 hS, g752 hS, o0 hSy, o1 hSy, o2 hSy, o3 hSy, o4 hSy, o5 hSy, o6 hSy, o7 hSy, o8 hSy, o9 hSy, o10 hSy, o11 hSy, o12 hSy, o13 hSy, o14 hSy, o15 hSy, o16 hSy, o17 hSy, o18 hSy, o19 hSy, o20 hSy, o21 hSy, o22 hSy, o23 hSy, o24 hSy, o25 hSy, o26 hSy, o27 hSy, o28 hSy, o29 hSy, o30 hSy, o31 hSy, o32 hSy, o33 hSy, o34 hSy, o35 hSy, o36 hSy, o37 hSy, o38 hSy, o39 hSy, o40 hSy, o41 hSy, o42 hSy, o43 hSy, o44 hSy, o45 hSy, o46 hSy, o47 hSy, l2 hSy, l3 hSy, l4 hSy, l5 hSy, l7 hSy, l8 hSy, l10 hSy, l12 hSy, l14 hSy, l15 hSy, l16 hSy, l18 hSy, l19 hSy, l20 hSy, l21 hSy, l22 hSy, l23 hSy, l24 hSy, l25 hSy, l26 hSy, l27 hSy, l28 hSy, l29 hSy, l30 hSy, l31 hSy, l32 hSy, l33 hSy, l34 hSy, l35 hSy, l36 hSy, l37 hSy, l38 hSy, l39 hSy, l40 hSy, l41 hSy, l42 hSy, l43 hSy, l44 hSy, l45 hSy, l46 hSy, l47 hSy, g640 hSy, g641 hSy, g642 hSy, g643 hSy, g644 hSy, g645 hSy, g128 hSy, g129 hSy, g130 hSy, g131 hSy, g384 hSy, g385 hSy, g256 hSy, g576 hSy, g192 hSy, g193 hSy, g707 hSy, g708 hSy, g709 hSy, g710 hSy, g712 hSy, g713 hSy, g714 hSy, g715 hSy, g716 hSy, g720 hSy, g721 hSy, g722 hSy, g723 hSy, g724 hSy, g725 hSy, g726 hSy, g728 hSy, g729 hSy, g730 hSy, g731 hSy, g732 hSy, g733 hSy, g734 hSy, g735 hSy, g736 hSy, g737 hSy, g738 hSy, g740 hSy, g751 hSy, g752 hSy, n4, br_y c1, inb (show nb < 8 from hb) (by decide), nI_clamp (show nb < 2 ^ 31 by omega), hnew, e646, nI_1, va_up_self, nI_pred, bkZ1]
    · have hS1 : Sh (bkZ1 (zal z 0 0) (zn z) nb) := hSy.sR.sF.sF.sF
      have q706 : zF (bkZ1 (zal z 0 0) (zn z) nb) 706 17 = nI nb := by
        simp only [bkZ1, eF_zn, eF_zK, eF_zL, eF_s, eF_n, eF_zG, eF_zA, eF_zJ, eF_zR, eG_zn, eG_zK, eG_zL, eG_zF, eG_s, eG_n, eG_zA, eG_zJ, eG_zR, eA_zn, eA_zK, eA_zL, eA_zF, eA_zG, eA_s, eA_n, eA_zJ, eA_zR, eJ_zn, eJ_zK, eJ_zL, eJ_zF, eJ_zG, eJ_zA, eJ_s, eJ_n, eJ_zR, eR_zn, eR_zK, eR_zL, eR_zF, eR_zG, eR_zA, eR_zJ, eR_s, eR_n, ne_eq, not_false_eq_true, not_true_eq_false, reduceCtorEq, Nat.reduceEqDiff]
        exact e706
      generalize bkZ1 (zal z 0 0) (zn z) nb = y at *
      simp only [fX12_baker, gdT, brTr, brFa, br_00, br_10, bd_e, bo_s, bp_s, cs_s, cs_n, lf_s, eF_zn, eF_zK, eF_zL, eF_s, eF_n, eF_zG, eF_zA, eF_zJ, eF_zR, eG_zn, eG_zK, eG_zL, eG_zF, eG_s, eG_n, eG_zA, eG_zJ, eG_zR, eA_zn, eA_zK, eA_zL, eA_zF, eA_zG, eA_s, eA_n, eA_zJ, eA_zR, eJ_zn, eJ_zK, eJ_zL, eJ_zF, eJ_zG, eJ_zA, eJ_s, eJ_n, eJ_zR, eR_zn, eR_zK, eR_zL, eR_zF, eR_zG, eR_zA, eR_zJ, eR_s, eR_n, ne_eq, not_false_eq_true, not_true_eq_false, reduceCtorEq, Nat.reduceEqDiff, o0 hS1, o1 hS1, o2 hS1, o3 hS1, o4 hS1, o5 hS1, o6 hS1, o7 hS1, o8 hS1, o9 hS1, o10 hS1, o11 hS1, o12 hS1, o13 hS1, o14 hS1, o15 hS1, o16 hS1, o17 hS1, o18 hS1, o19 hS1, o20 hS1, o21 hS1, o22 hS1, o23 hS1, o24 hS1, o25 hS1, o26 hS1, o27 hS1, o28 hS1, o29 hS1, o30 hS1, o31 hS1, o32 hS1, o33 hS1, o34 hS1, o35 hS1, o36 hS1, o37 hS1, o38 hS1, o39 hS1, o40 hS1, o41 hS1, o42 hS1, o43 hS1, o44 hS1, o45 hS1, o46 hS1, o47 hS1, l2 hS1, l3 hS1, l4 hS1, l5 hS1, l7 hS1, l8 hS1, l10 hS1, l12 hS1, l14 hS1, l15 hS1, l16 hS1, l18 hS1, l19 hS1, l20 hS1, l21 hS1, l22 hS1, l23 hS1, l24 hS1, l25 hS1, l26 hS1, l27 hS1, l28 hS1, l29 hS1, l30 hS1, l31 hS1, l32 hS1, l33 hS1, l34 hS1, l35 hS1, l36 hS1, l37 hS1, l38 hS1, l39 hS1, l40 hS1, l41 hS1, l42 hS1, l43 hS1, l44 hS1, l45 hS1, l46 hS1, l47 hS1, g640 hS1, g641 hS1, g642 hS1, g643 hS1, g644 hS1, g645 hS1, g128 hS1, g129 hS1, g130 hS1, g131 hS1, g384 hS1, g385 hS1, g256 hS1, g576 hS1, g192 hS1, g193 hS1, g707 hS1, g708 hS1, g709 hS1, g710 hS1, g712 hS1, g713 hS1, g714 hS1, g715 hS1, g716 hS1, g720 hS1, g721 hS1, g722 hS1, g723 hS1, g724 hS1, g725 hS1, g726 hS1, g728 hS1, g729 hS1, g730 hS1, g731 hS1, g732 hS1, g733 hS1, g734 hS1, g735 hS1, g736 hS1, g737 hS1, g738 hS1, g740 hS1, g751 hS1, g752 hS1, q706, br_n c2, inb (show nb < 8 from hb) (by decide), nI_clamp (show nb < 2 ^ 31 by omega), nI_1, va_up_self, nI_pred, bkZ2]
