-- THE STORE
theorem hvS_congr {A A' B B' : Nat → Int32} {v : Nat} : ∀ {n : Nat}, (∀ k, k < n → A k = A' k ∧ B k = B' k) → hvS A B v n = hvS A' B' v n
  | 0, _ => rfl
  | n + 1, h => by
    have h1 := hvS_congr (v := v) (n := n) (fun k hk => h k (by omega))
    have h2 := h n (by omega)
    simp only [hvS, h1, h2.1, h2.2]
theorem hvC_congr {A A' : Nat → Int32} {v : Nat} : ∀ {n : Nat}, (∀ k, k < n → A k = A' k) → hvC A v n = hvC A' v n
  | 0, _ => rfl
  | n + 1, h => by
    have h1 := hvC_congr (v := v) (n := n) (fun k hk => h k (by omega))
    simp only [hvC, h1, h n (by omega)]
theorem up_old {α : Type} {f : Nat → α} {n k : Nat} {x : α} (h : k < n) : va_up f n x k = f k := va_up_ne _ _ (by omega)
noncomputable def hvZ1 (z : Hp) (v o nh : Nat) : Hp := zsF (zsA (zsA z 14 v (zA z 14 v + nI o)) 15 v (zA z 15 v + 1)) 194 13 (nI (nh + 1))
noncomputable def hvZ2 (z : Hp) (v o nh : Nat) : Hp := zsF (zsA (zsA z 46 nh (nI v)) 47 nh (nI o)) 753 17 (nI (nh + 1))
theorem hv_num {z : Hp} {w h nb nr ng gv nt nh v o : Nat} (hn : I_num z w h nb nr ng gv nt nh) (h10 : nh < 10) : I_num (hvZ2 (hvZ1 z v o nh) v o nh) w h nb nr ng gv nt (nh + 1) := by
  obtain ⟨⟨n1, n2, n3, n4, n5⟩, m2, m3, m4, m5, m6, ⟨n17, n18, n19⟩⟩ := id hn
  unfold I_num
  simp only [hvZ1, hvZ2, eF_zn, eF_zK, eF_zL, eF_s, eF_n, eF_zG, eF_zA, eF_zJ, eF_zR, eG_zn, eG_zK, eG_zL, eG_zF, eG_s, eG_n, eG_zA, eG_zJ, eG_zR, eA_zn, eA_zK, eA_zL, eA_zF, eA_zG, eA_s, eA_n, eA_zJ, eA_zR, eJ_zn, eJ_zK, eJ_zL, eJ_zF, eJ_zG, eJ_zA, eJ_s, eJ_n, eJ_zR, eR_zn, eR_zK, eR_zL, eR_zF, eR_zG, eR_zA, eR_zJ, eR_s, eR_n, ne_eq, not_false_eq_true, not_true_eq_false, reduceCtorEq, Nat.reduceEqDiff, va_up_self]
  exact ⟨⟨n1, n2, n3, n4, n5⟩, m2, m3, m4, m5, m6, trivial, trivial, by omega⟩
theorem hv_hv {z : Hp} {w nh v o : Nat} (hhv : I_hv z w nh) (hwv : w < v) (hv : v < 200) (ho1 : 1 ≤ o) (ho3 : o ≤ 10000000) : I_hv (hvZ2 (hvZ1 z v o nh) v o nh) w (nh + 1) := by
  obtain ⟨hv1, hv2⟩ := hhv
  unfold I_hv
  simp only [hvZ1, hvZ2, eF_zn, eF_zK, eF_zL, eF_s, eF_n, eF_zG, eF_zA, eF_zJ, eF_zR, eG_zn, eG_zK, eG_zL, eG_zF, eG_s, eG_n, eG_zA, eG_zJ, eG_zR, eA_zn, eA_zK, eA_zL, eA_zF, eA_zG, eA_s, eA_n, eA_zJ, eA_zR, eJ_zn, eJ_zK, eJ_zL, eJ_zF, eJ_zG, eJ_zA, eJ_s, eJ_n, eJ_zR, eR_zn, eR_zK, eR_zL, eR_zF, eR_zG, eR_zA, eR_zJ, eR_s, eR_n, ne_eq, not_false_eq_true, not_true_eq_false, reduceCtorEq, Nat.reduceEqDiff]
  refine ⟨fun k hk => ?_, fun u h1 h2 => ?_⟩
  · rcases Nat.lt_or_ge k nh with hk' | hk'
    · obtain ⟨wk, ok, r1, r2, r3⟩ := hv1 k hk'
      exact ⟨wk, ok, by rw [up_old hk']; exact r1, by rw [up_old hk']; exact r2, r3⟩
    · have e : k = nh := by omega
      subst e
      exact ⟨v, o, va_up_self _ _ _, va_up_self _ _ _, hwv, by omega, ho1, ho3⟩
  · obtain ⟨q1, q2⟩ := hv2 u h1 h2
    have s1 : hvS (va_up (zA z 46) nh (nI v)) (va_up (zA z 47) nh (nI o)) u nh = hvS (zA z 46) (zA z 47) u nh := hvS_congr (fun k hk => ⟨up_old hk, up_old hk⟩)
    have s2 : hvC (va_up (zA z 46) nh (nI v)) u nh = hvC (zA z 46) u nh := hvC_congr (fun k hk => up_old hk)
    simp only [hvS, hvC, s1, s2, va_up_self, nI_clamp (show o < 2 ^ 31 by omega)]
    by_cases e : u = v
    · subst e
      rw [va_up_self, va_up_self, if_pos rfl, if_pos rfl, q1, q2, nI_add, nI_1]
      exact ⟨rfl, rfl⟩
    · have e' : ¬ nI v = nI u := by rw [nI_eq (by omega) (by omega)]; omega
      rw [va_up_ne _ _ e, va_up_ne _ _ e, if_neg e', if_neg e', q1, q2, Nat.add_zero, Nat.add_zero]
      exact ⟨rfl, rfl⟩
theorem hv_keep {z : Hp} {w h nb nr ng gv nt nh v o : Nat} (hS : Sh z) (hsc : I_sc z) (hst : I_st z) (hn : I_num z w h nb nr ng gv nt nh) (hhv : I_hv z w nh) (hrec : I_rec z (168 * w + h) nb nr gv) (hbk : I_bk z nb nr) (hgr : I_gr z nr ng) (hgf : I_gf z nr gv) (hmk : I_mk z nr) (htx : I_tx z nt) (htn : I_tn z nb) (hwv : w < v) (hv : v < 200) (ho1 : 1 ≤ o) (ho3 : o ≤ 10000000) (h10 : nh < 10) : Inv (hvZ2 (hvZ1 z v o nh) v o nh) := by
  exact ⟨hS.sA.sA.sF.sA.sA.sF, ((((((hsc.sA).sA).sF (by decide)).sA).sA).sF (by decide)), ((((((hst.sA).sA).sF (by decide)).sA).sA).sF (by decide)), w, h, nb, nr, ng, gv, nt, nh + 1, (hv_num hn h10), (hv_hv hhv hwv hv ho1 ho3), ((((((hrec.sA (by decide)).sA (by decide)).sF (by decide)).sA (by decide)).sA (by decide)).sF (by decide)), ((((((hbk.sA (by decide)).sA (by decide)).sF (by decide)).sA (by decide)).sA (by decide)).sF (by decide)), ((((((hgr.sA (by decide)).sA (by decide)).sF).sA (by decide)).sA (by decide)).sF), ((((((hgf.sA (by decide)).sA (by decide)).sF).sA (by decide)).sA (by decide)).sF), ((((((hmk.sA (by decide)).sA (by decide)).sF).sA (by decide)).sA (by decide)).sF), ((((((htx.sA (by decide) (by decide)).sA (by decide) (by decide)).sF (by decide)).sA (by decide) (by decide)).sA (by decide) (by decide)).sF (by decide)), ((((((htn.sA (by decide)).sA (by decide)).sF (by decide)).sA (by decide)).sA (by decide)).sF (by decide))⟩
theorem op_harvest (N : Nat) : Op_harvest N Inv := by
  intro z a1 a2 hI
  obtain ⟨hS, hsc, hst, w, h, nb, nr, ng, gv, nt, nh, hn, hhv, hrec, hbk, hgr, hgf, hmk, htx, htn⟩ := id hI
  have hw := weekNow_e (N := N) hS hn
  obtain ⟨⟨n1, n2, n3, n4, n5⟩, m2, m3, m4, m5, m6, ⟨n17, n18, n19⟩⟩ := id hn
  by_cases ho : a1 < 0 ∨ 199 < a1
  · refine ⟨-2, z, z, ?_, of_eq_true (o17 hS), ?_, hI⟩
    · simp only [fX11_harvest_21, fX11_harvest, out_1 ho, gdT, brTr, brFa, br_00, br_10, bd_e, bo_s, bp_s, cs_s, cs_n, lf_s]
    · simp only [fX12_harvest_24, fX12_harvest, in_0 (A := 0) (B := 199) (a := 0) (b := 199) rfl rfl ho, gdT, brTr, brFa, br_00, br_10, bd_e, bo_s, bp_s, cs_s, cs_n, lf_s]
  by_cases ho2 : a2 < 1 ∨ 10000000 < a2
  · refine ⟨-2, z, z, ?_, of_eq_true (o17 hS), ?_, hI⟩
    · simp only [fX11_harvest_21, fX11_harvest, out_0 ho, out_1 ho2, gdT, brTr, brFa, br_00, br_10, bd_e, bo_s, bp_s, cs_s, cs_n, lf_s]
    · simp only [fX12_harvest_24, fX12_harvest, in_1 (A := 0) (B := 199) (a := 0) (b := 199) rfl rfl ho, in_0 (A := 1) (B := 10000000) (a := 1) (b := 10000000) rfl rfl ho2, gdT, brTr, brFa, br_00, br_10, bd_e, bo_s, bp_s, cs_s, cs_n, lf_s]
  by_cases h10 : nh = 10
  · have c1 : ¬ nI nh < 10 := by rw [h10]; decide
    have c2 : nI nh = 10 := by rw [h10]; rfl
    refine ⟨-4, z, z, ?_, of_eq_true (o17 hS), ?_, hI⟩
    · simp only [fX11_harvest_21, fX11_harvest, out_0 ho, out_0 ho2, gdT, brTr, brFa, br_00, br_10, bd_e, bo_s, bp_s, cs_s, cs_n, lf_s, o0 hS, o1 hS, o2 hS, o3 hS, o4 hS, o5 hS, o6 hS, o7 hS, o8 hS, o9 hS, o10 hS, o11 hS, o12 hS, o13 hS, o14 hS, o15 hS, o16 hS, o17 hS, o18 hS, o19 hS, o20 hS, o21 hS, o22 hS, o23 hS, o24 hS, o25 hS, o26 hS, o27 hS, o28 hS, o29 hS, o30 hS, o31 hS, o32 hS, o33 hS, o34 hS, o35 hS, o36 hS, o37 hS, o38 hS, o39 hS, o40 hS, o41 hS, o42 hS, o43 hS, o44 hS, o45 hS, o46 hS, o47 hS, l2 hS, l3 hS, l4 hS, l5 hS, l7 hS, l8 hS, l10 hS, l12 hS, l14 hS, l15 hS, l16 hS, l18 hS, l19 hS, l20 hS, l21 hS, l22 hS, l23 hS, l24 hS, l25 hS, l26 hS, l27 hS, l28 hS, l29 hS, l30 hS, l31 hS, l32 hS, l33 hS, l34 hS, l35 hS, l36 hS, l37 hS, l38 hS, l39 hS, l40 hS, l41 hS, l42 hS, l43 hS, l44 hS, l45 hS, l46 hS, l47 hS, g640 hS, g641 hS, g642 hS, g643 hS, g644 hS, g645 hS, g128 hS, g129 hS, g130 hS, g131 hS, g384 hS, g385 hS, g256 hS, g576 hS, g192 hS, g193 hS, g707 hS, g708 hS, g709 hS, g710 hS, g712 hS, g713 hS, g714 hS, g715 hS, g716 hS, g720 hS, g721 hS, g722 hS, g723 hS, g724 hS, g725 hS, g726 hS, g728 hS, g729 hS, g730 hS, g731 hS, g732 hS, g733 hS, g734 hS, g735 hS, g736 hS, g737 hS, g738 hS, g740 hS, g751 hS, g752 hS, n18, br_n c1]
    · simp only [fX12_harvest_24, fX12_harvest, in_1 (A := 0) (B := 199) (a := 0) (b := 199) rfl rfl ho, in_1 (A := 1) (B := 10000000) (a := 1) (b := 10000000) rfl rfl ho2, gdT, brTr, brFa, br_00, br_10, bd_e, bo_s, bp_s, cs_s, cs_n, lf_s, o0 hS, o1 hS, o2 hS, o3 hS, o4 hS, o5 hS, o6 hS, o7 hS, o8 hS, o9 hS, o10 hS, o11 hS, o12 hS, o13 hS, o14 hS, o15 hS, o16 hS, o17 hS, o18 hS, o19 hS, o20 hS, o21 hS, o22 hS, o23 hS, o24 hS, o25 hS, o26 hS, o27 hS, o28 hS, o29 hS, o30 hS, o31 hS, o32 hS, o33 hS, o34 hS, o35 hS, o36 hS, o37 hS, o38 hS, o39 hS, o40 hS, o41 hS, o42 hS, o43 hS, o44 hS, o45 hS, o46 hS, o47 hS, l2 hS, l3 hS, l4 hS, l5 hS, l7 hS, l8 hS, l10 hS, l12 hS, l14 hS, l15 hS, l16 hS, l18 hS, l19 hS, l20 hS, l21 hS, l22 hS, l23 hS, l24 hS, l25 hS, l26 hS, l27 hS, l28 hS, l29 hS, l30 hS, l31 hS, l32 hS, l33 hS, l34 hS, l35 hS, l36 hS, l37 hS, l38 hS, l39 hS, l40 hS, l41 hS, l42 hS, l43 hS, l44 hS, l45 hS, l46 hS, l47 hS, g640 hS, g641 hS, g642 hS, g643 hS, g644 hS, g645 hS, g128 hS, g129 hS, g130 hS, g131 hS, g384 hS, g385 hS, g256 hS, g576 hS, g192 hS, g193 hS, g707 hS, g708 hS, g709 hS, g710 hS, g712 hS, g713 hS, g714 hS, g715 hS, g716 hS, g720 hS, g721 hS, g722 hS, g723 hS, g724 hS, g725 hS, g726 hS, g728 hS, g729 hS, g730 hS, g731 hS, g732 hS, g733 hS, g734 hS, g735 hS, g736 hS, g737 hS, g738 hS, g740 hS, g751 hS, g752 hS, n17, br_y c2]
  have c1 : nI nh < 10 := by rw [show (10 : Int32) = nI 10 from rfl]; exact nI_lt (by omega) (by decide)
  have c2 : ¬ nI nh = 10 := by rw [show (10 : Int32) = nI 10 from rfl, nI_eq (by omega) (by decide)]; exact h10
  obtain ⟨v, rfl, -, hv⟩ := nI_rng (a := 0) (b := 199) (by decide) (by decide) ho
  obtain ⟨o, rfl, ho1, ho3⟩ := nI_rng (a := 1) (b := 10000000) (by decide) (by decide) ho2
  by_cases hwv : w < v
  · have c3 : nI w < nI v := nI_lt hwv (by omega)
    have c4 : ¬ nI v < 0 := nI_pos (by omega)
    have c5 : ¬ (200 : Int32) ≤ nI v := by rw [show (200 : Int32) = nI 200 from rfl, nI_leI (by decide) (by omega)]; omega
    refine ⟨nI (nh + 1), hvZ1 z v o nh, hvZ2 (hvZ1 z v o nh) v o nh, ?_, of_eq_true (o17 hS.sA.sA.sF), ?_, hv_keep hS hsc hst hn hhv hrec hbk hgr hgf hmk htx htn hwv (by omega) ho1 ho3 (by omega)⟩
    · simp only [fX11_harvest_21, fX11_harvest, fX4_expect_41, fX4_expect, out_0 ho, out_0 ho2, gdT, brTr, brFa, br_00, br_10, bd_e, bo_s, bp_s, cs_s, cs_n, lf_s, eF_zn, eF_zK, eF_zL, eF_s, eF_n, eF_zG, eF_zA, eF_zJ, eF_zR, eG_zn, eG_zK, eG_zL, eG_zF, eG_s, eG_n, eG_zA, eG_zJ, eG_zR, eA_zn, eA_zK, eA_zL, eA_zF, eA_zG, eA_s, eA_n, eA_zJ, eA_zR, eJ_zn, eJ_zK, eJ_zL, eJ_zF, eJ_zG, eJ_zA, eJ_s, eJ_n, eJ_zR, eR_zn, eR_zK, eR_zL, eR_zF, eR_zG, eR_zA, eR_zJ, eR_s, eR_n, ne_eq, not_false_eq_true, not_true_eq_false, reduceCtorEq, Nat.reduceEqDiff, o0 hS, o1 hS, o2 hS, o3 hS, o4 hS, o5 hS, o6 hS, o7 hS, o8 hS, o9 hS, o10 hS, o11 hS, o12 hS, o13 hS, o14 hS, o15 hS, o16 hS, o17 hS, o18 hS, o19 hS, o20 hS, o21 hS, o22 hS, o23 hS, o24 hS, o25 hS, o26 hS, o27 hS, o28 hS, o29 hS, o30 hS, o31 hS, o32 hS, o33 hS, o34 hS, o35 hS, o36 hS, o37 hS, o38 hS, o39 hS, o40 hS, o41 hS, o42 hS, o43 hS, o44 hS, o45 hS, o46 hS, o47 hS, l2 hS, l3 hS, l4 hS, l5 hS, l7 hS, l8 hS, l10 hS, l12 hS, l14 hS, l15 hS, l16 hS, l18 hS, l19 hS, l20 hS, l21 hS, l22 hS, l23 hS, l24 hS, l25 hS, l26 hS, l27 hS, l28 hS, l29 hS, l30 hS, l31 hS, l32 hS, l33 hS, l34 hS, l35 hS, l36 hS, l37 hS, l38 hS, l39 hS, l40 hS, l41 hS, l42 hS, l43 hS, l44 hS, l45 hS, l46 hS, l47 hS, g640 hS, g641 hS, g642 hS, g643 hS, g644 hS, g645 hS, g128 hS, g129 hS, g130 hS, g131 hS, g384 hS, g385 hS, g256 hS, g576 hS, g192 hS, g193 hS, g707 hS, g708 hS, g709 hS, g710 hS, g712 hS, g713 hS, g714 hS, g715 hS, g716 hS, g720 hS, g721 hS, g722 hS, g723 hS, g724 hS, g725 hS, g726 hS, g728 hS, g729 hS, g730 hS, g731 hS, g732 hS, g733 hS, g734 hS, g735 hS, g736 hS, g737 hS, g738 hS, g740 hS, g751 hS, g752 hS, n18, br_y c1, hw, br_y c3, br_n c4, br_n c5, inb (show v < 200 by omega) (by decide), nI_clamp (show v < 2 ^ 31 by omega), nI_1, va_up_self, hvZ1]
    · have hS1 : Sh (hvZ1 z v o nh) := hS.sA.sA.sF
      have q17 : zF (hvZ1 z v o nh) 753 17 = nI nh := n17
      have q1 : zF (hvZ1 z v o nh) 704 17 = nI w := n1
      generalize hvZ1 z v o nh = y at *
      simp only [fX12_harvest_24, fX12_harvest, in_1 (A := 0) (B := 199) (a := 0) (b := 199) rfl rfl ho, in_1 (A := 1) (B := 10000000) (a := 1) (b := 10000000) rfl rfl ho2, gdT, brTr, brFa, br_00, br_10, bd_e, bo_s, bp_s, cs_s, cs_n, lf_s, eF_zn, eF_zK, eF_zL, eF_s, eF_n, eF_zG, eF_zA, eF_zJ, eF_zR, eG_zn, eG_zK, eG_zL, eG_zF, eG_s, eG_n, eG_zA, eG_zJ, eG_zR, eA_zn, eA_zK, eA_zL, eA_zF, eA_zG, eA_s, eA_n, eA_zJ, eA_zR, eJ_zn, eJ_zK, eJ_zL, eJ_zF, eJ_zG, eJ_zA, eJ_s, eJ_n, eJ_zR, eR_zn, eR_zK, eR_zL, eR_zF, eR_zG, eR_zA, eR_zJ, eR_s, eR_n, ne_eq, not_false_eq_true, not_true_eq_false, reduceCtorEq, Nat.reduceEqDiff, o0 hS1, o1 hS1, o2 hS1, o3 hS1, o4 hS1, o5 hS1, o6 hS1, o7 hS1, o8 hS1, o9 hS1, o10 hS1, o11 hS1, o12 hS1, o13 hS1, o14 hS1, o15 hS1, o16 hS1, o17 hS1, o18 hS1, o19 hS1, o20 hS1, o21 hS1, o22 hS1, o23 hS1, o24 hS1, o25 hS1, o26 hS1, o27 hS1, o28 hS1, o29 hS1, o30 hS1, o31 hS1, o32 hS1, o33 hS1, o34 hS1, o35 hS1, o36 hS1, o37 hS1, o38 hS1, o39 hS1, o40 hS1, o41 hS1, o42 hS1, o43 hS1, o44 hS1, o45 hS1, o46 hS1, o47 hS1, l2 hS1, l3 hS1, l4 hS1, l5 hS1, l7 hS1, l8 hS1, l10 hS1, l12 hS1, l14 hS1, l15 hS1, l16 hS1, l18 hS1, l19 hS1, l20 hS1, l21 hS1, l22 hS1, l23 hS1, l24 hS1, l25 hS1, l26 hS1, l27 hS1, l28 hS1, l29 hS1, l30 hS1, l31 hS1, l32 hS1, l33 hS1, l34 hS1, l35 hS1, l36 hS1, l37 hS1, l38 hS1, l39 hS1, l40 hS1, l41 hS1, l42 hS1, l43 hS1, l44 hS1, l45 hS1, l46 hS1, l47 hS1, g640 hS1, g641 hS1, g642 hS1, g643 hS1, g644 hS1, g645 hS1, g128 hS1, g129 hS1, g130 hS1, g131 hS1, g384 hS1, g385 hS1, g256 hS1, g576 hS1, g192 hS1, g193 hS1, g707 hS1, g708 hS1, g709 hS1, g710 hS1, g712 hS1, g713 hS1, g714 hS1, g715 hS1, g716 hS1, g720 hS1, g721 hS1, g722 hS1, g723 hS1, g724 hS1, g725 hS1, g726 hS1, g728 hS1, g729 hS1, g730 hS1, g731 hS1, g732 hS1, g733 hS1, g734 hS1, g735 hS1, g736 hS1, g737 hS1, g738 hS1, g740 hS1, g751 hS1, g752 hS1, q17, q1, br_n c2, br_y c3, inb (show nh < 10 by omega) (by decide), nI_clamp (show nh < 2 ^ 31 by omega), nI_1, va_up_self, hvZ2]
  · have c3 : ¬ nI w < nI v := nI_nlt (by omega) (by omega)
    refine ⟨-5, z, z, ?_, of_eq_true (o17 hS), ?_, hI⟩
    · simp only [fX11_harvest_21, fX11_harvest, out_0 ho, out_0 ho2, gdT, brTr, brFa, br_00, br_10, bd_e, bo_s, bp_s, cs_s, cs_n, lf_s, o0 hS, o1 hS, o2 hS, o3 hS, o4 hS, o5 hS, o6 hS, o7 hS, o8 hS, o9 hS, o10 hS, o11 hS, o12 hS, o13 hS, o14 hS, o15 hS, o16 hS, o17 hS, o18 hS, o19 hS, o20 hS, o21 hS, o22 hS, o23 hS, o24 hS, o25 hS, o26 hS, o27 hS, o28 hS, o29 hS, o30 hS, o31 hS, o32 hS, o33 hS, o34 hS, o35 hS, o36 hS, o37 hS, o38 hS, o39 hS, o40 hS, o41 hS, o42 hS, o43 hS, o44 hS, o45 hS, o46 hS, o47 hS, l2 hS, l3 hS, l4 hS, l5 hS, l7 hS, l8 hS, l10 hS, l12 hS, l14 hS, l15 hS, l16 hS, l18 hS, l19 hS, l20 hS, l21 hS, l22 hS, l23 hS, l24 hS, l25 hS, l26 hS, l27 hS, l28 hS, l29 hS, l30 hS, l31 hS, l32 hS, l33 hS, l34 hS, l35 hS, l36 hS, l37 hS, l38 hS, l39 hS, l40 hS, l41 hS, l42 hS, l43 hS, l44 hS, l45 hS, l46 hS, l47 hS, g640 hS, g641 hS, g642 hS, g643 hS, g644 hS, g645 hS, g128 hS, g129 hS, g130 hS, g131 hS, g384 hS, g385 hS, g256 hS, g576 hS, g192 hS, g193 hS, g707 hS, g708 hS, g709 hS, g710 hS, g712 hS, g713 hS, g714 hS, g715 hS, g716 hS, g720 hS, g721 hS, g722 hS, g723 hS, g724 hS, g725 hS, g726 hS, g728 hS, g729 hS, g730 hS, g731 hS, g732 hS, g733 hS, g734 hS, g735 hS, g736 hS, g737 hS, g738 hS, g740 hS, g751 hS, g752 hS, n18, br_y c1, hw, br_n c3]
    · simp only [fX12_harvest_24, fX12_harvest, in_1 (A := 0) (B := 199) (a := 0) (b := 199) rfl rfl ho, in_1 (A := 1) (B := 10000000) (a := 1) (b := 10000000) rfl rfl ho2, gdT, brTr, brFa, br_00, br_10, bd_e, bo_s, bp_s, cs_s, cs_n, lf_s, o0 hS, o1 hS, o2 hS, o3 hS, o4 hS, o5 hS, o6 hS, o7 hS, o8 hS, o9 hS, o10 hS, o11 hS, o12 hS, o13 hS, o14 hS, o15 hS, o16 hS, o17 hS, o18 hS, o19 hS, o20 hS, o21 hS, o22 hS, o23 hS, o24 hS, o25 hS, o26 hS, o27 hS, o28 hS, o29 hS, o30 hS, o31 hS, o32 hS, o33 hS, o34 hS, o35 hS, o36 hS, o37 hS, o38 hS, o39 hS, o40 hS, o41 hS, o42 hS, o43 hS, o44 hS, o45 hS, o46 hS, o47 hS, l2 hS, l3 hS, l4 hS, l5 hS, l7 hS, l8 hS, l10 hS, l12 hS, l14 hS, l15 hS, l16 hS, l18 hS, l19 hS, l20 hS, l21 hS, l22 hS, l23 hS, l24 hS, l25 hS, l26 hS, l27 hS, l28 hS, l29 hS, l30 hS, l31 hS, l32 hS, l33 hS, l34 hS, l35 hS, l36 hS, l37 hS, l38 hS, l39 hS, l40 hS, l41 hS, l42 hS, l43 hS, l44 hS, l45 hS, l46 hS, l47 hS, g640 hS, g641 hS, g642 hS, g643 hS, g644 hS, g645 hS, g128 hS, g129 hS, g130 hS, g131 hS, g384 hS, g385 hS, g256 hS, g576 hS, g192 hS, g193 hS, g707 hS, g708 hS, g709 hS, g710 hS, g712 hS, g713 hS, g714 hS, g715 hS, g716 hS, g720 hS, g721 hS, g722 hS, g723 hS, g724 hS, g725 hS, g726 hS, g728 hS, g729 hS, g730 hS, g731 hS, g732 hS, g733 hS, g734 hS, g735 hS, g736 hS, g737 hS, g738 hS, g740 hS, g751 hS, g752 hS, n17, br_n c2, n1, br_n c3]
theorem mul3_le {a b c : Nat} (ha : a ≤ 10000) (hb : b ≤ 1000) (hc : c ≤ 100) : a * b * c ≤ 1000000000 := by
  have h1 : a * b ≤ 10000 * 1000 := Nat.mul_le_mul ha hb
  exact Nat.mul_le_mul h1 hc
theorem needWith_e {N mo ea r : Nat} {z : Hp} (hS : Sh z) (e1 : zF z 196 13 = nI mo) (e2 : zF z 197 13 = nI ea) (hm : mo ≤ 10000) (he : ea ≤ 1000) (hr : r ≤ 100) : fX4_needWith N 13 (nI r) z = some (nI (mo * ea * r / 100)) := by
  have hb := mul3_le hm he hr
  simp only [fX4_needWith, gdT, brTr, brFa, br_00, br_10, bd_e, bo_s, bp_s, cs_s, cs_n, lf_s, o0 hS, o1 hS, o2 hS, o3 hS, o4 hS, o5 hS, o6 hS, o7 hS, o8 hS, o9 hS, o10 hS, o11 hS, o12 hS, o13 hS, o14 hS, o15 hS, o16 hS, o17 hS, o18 hS, o19 hS, o20 hS, o21 hS, o22 hS, o23 hS, o24 hS, o25 hS, o26 hS, o27 hS, o28 hS, o29 hS, o30 hS, o31 hS, o32 hS, o33 hS, o34 hS, o35 hS, o36 hS, o37 hS, o38 hS, o39 hS, o40 hS, o41 hS, o42 hS, o43 hS, o44 hS, o45 hS, o46 hS, o47 hS, l2 hS, l3 hS, l4 hS, l5 hS, l7 hS, l8 hS, l10 hS, l12 hS, l14 hS, l15 hS, l16 hS, l18 hS, l19 hS, l20 hS, l21 hS, l22 hS, l23 hS, l24 hS, l25 hS, l26 hS, l27 hS, l28 hS, l29 hS, l30 hS, l31 hS, l32 hS, l33 hS, l34 hS, l35 hS, l36 hS, l37 hS, l38 hS, l39 hS, l40 hS, l41 hS, l42 hS, l43 hS, l44 hS, l45 hS, l46 hS, l47 hS, g640 hS, g641 hS, g642 hS, g643 hS, g644 hS, g645 hS, g128 hS, g129 hS, g130 hS, g131 hS, g384 hS, g385 hS, g256 hS, g576 hS, g192 hS, g193 hS, g707 hS, g708 hS, g709 hS, g710 hS, g712 hS, g713 hS, g714 hS, g715 hS, g716 hS, g720 hS, g721 hS, g722 hS, g723 hS, g724 hS, g725 hS, g726 hS, g728 hS, g729 hS, g730 hS, g731 hS, g732 hS, g733 hS, g734 hS, g735 hS, g736 hS, g737 hS, g738 hS, g740 hS, g751 hS, g752 hS, e1, e2, pk_mul]
  rw [show (100 : Int32) = nI 100 from rfl, pk_div (by omega) (by decide) (by decide)]
theorem needOf_e {N mo ea r : Nat} {z : Hp} (hS : Sh z) (e1 : zF z 747 17 = nI mo) (e2 : zF z 748 17 = nI ea) (hm : mo ≤ 10000) (he : ea ≤ 1000) (hr : r ≤ 100) : fX12_needOf N 17 (nI r) z = some (nI (mo * ea * r / 100)) := by
  have hb := mul3_le hm he hr
  simp only [fX12_needOf, gdT, brTr, brFa, br_00, br_10, bd_e, bo_s, bp_s, cs_s, cs_n, lf_s, o0 hS, o1 hS, o2 hS, o3 hS, o4 hS, o5 hS, o6 hS, o7 hS, o8 hS, o9 hS, o10 hS, o11 hS, o12 hS, o13 hS, o14 hS, o15 hS, o16 hS, o17 hS, o18 hS, o19 hS, o20 hS, o21 hS, o22 hS, o23 hS, o24 hS, o25 hS, o26 hS, o27 hS, o28 hS, o29 hS, o30 hS, o31 hS, o32 hS, o33 hS, o34 hS, o35 hS, o36 hS, o37 hS, o38 hS, o39 hS, o40 hS, o41 hS, o42 hS, o43 hS, o44 hS, o45 hS, o46 hS, o47 hS, l2 hS, l3 hS, l4 hS, l5 hS, l7 hS, l8 hS, l10 hS, l12 hS, l14 hS, l15 hS, l16 hS, l18 hS, l19 hS, l20 hS, l21 hS, l22 hS, l23 hS, l24 hS, l25 hS, l26 hS, l27 hS, l28 hS, l29 hS, l30 hS, l31 hS, l32 hS, l33 hS, l34 hS, l35 hS, l36 hS, l37 hS, l38 hS, l39 hS, l40 hS, l41 hS, l42 hS, l43 hS, l44 hS, l45 hS, l46 hS, l47 hS, g640 hS, g641 hS, g642 hS, g643 hS, g644 hS, g645 hS, g128 hS, g129 hS, g130 hS, g131 hS, g384 hS, g385 hS, g256 hS, g576 hS, g192 hS, g193 hS, g707 hS, g708 hS, g709 hS, g710 hS, g712 hS, g713 hS, g714 hS, g715 hS, g716 hS, g720 hS, g721 hS, g722 hS, g723 hS, g724 hS, g725 hS, g726 hS, g728 hS, g729 hS, g730 hS, g731 hS, g732 hS, g733 hS, g734 hS, g735 hS, g736 hS, g737 hS, g738 hS, g740 hS, g751 hS, g752 hS, e1, e2, nI_l (show mo < 2 ^ 31 by omega), nI_l (show ea < 2 ^ 31 by omega), nI_l (show r < 2 ^ 31 by omega), lN_mul]
  rw [show (100 : Int64) = lN 100 from rfl, pk_lDiv (by omega) (by decide) (by decide), lN_i]
/-- the store with the harvests of week v -/
def adv (A46 A47 : Nat → Int32) (nh l v : Nat) : Nat := min 100000000 (l + hvS A46 A47 v nh)
def caF (A46 A47 : Nat → Int32) (nh st w d : Nat) : Nat → Nat
  | 0 => st
  | i + 1 => adv A46 A47 nh (caF A46 A47 nh st w d i - d) (w + i + 1)
def hunF (A46 A47 : Nat → Int32) (nh st w d : Nat) : Nat → Nat → Option Nat
  | 0, _ => none
  | m + 1, i => if caF A46 A47 nh st w d i < d then some (w + i) else hunF A46 A47 nh st w d m (i + 1)
def hvA (A46 A47 : Nat → Int32) (v l : Nat) : Nat → Nat
  | 0 => l
  | n + 1 => if A46 n = nI v then min 100000000 (hvA A46 A47 v l n + (A47 n).toNatClampNeg) else hvA A46 A47 v l n
theorem hvA_e {A46 A47 : Nat → Int32} {v l : Nat} (hl : l ≤ 100000000) : ∀ n, hvA A46 A47 v l n = min 100000000 (l + hvS A46 A47 v n)
  | 0 => by simp only [hvA, hvS]; omega
  | n + 1 => by
    have ih := hvA_e (A46 := A46) (A47 := A47) (v := v) hl n
    simp only [hvA, hvS]
    split
    · rw [ih]; omega
    · rw [ih]; omega
theorem caF_le {A46 A47 : Nat → Int32} {nh st w d : Nat} (hst : st ≤ 100000000) : ∀ i, caF A46 A47 nh st w d i ≤ 100000000
  | 0 => hst
  | i + 1 => Nat.min_le_left _ _
theorem hvS_le {A46 A47 : Nat → Int32} {v : Nat} : ∀ n, (∀ k, k < n → ∃ ok, A47 k = nI ok ∧ ok ≤ 10000000) → hvS A46 A47 v n ≤ 10000000 * n
  | 0, _ => Nat.le_refl _
  | n + 1, h => by
    have ih := hvS_le (A46 := A46) (v := v) n (fun k hk => h k (by omega))
    obtain ⟨ok, e, ho⟩ := h n (by omega)
    have : (A47 n).toNatClampNeg = ok := by rw [e, nI_clamp (by omega)]
    simp only [hvS, this]
    split <;> omega
theorem withHarvest_e {N l v s : Nat} {z : Hp} (hS : Sh z) (hv : v < 200) (e : zA z 14 v = nI s) (hl : l ≤ 100000000) (hs : s ≤ 100000000) : fX4_withHarvest N 13 (nI l) (nI v) z = some (nI (min 100000000 (l + s))) := by
  have c1 : ¬ nI v < 0 := nI_pos (by omega)
  have c2 : nI v < 200 := by rw [show (200 : Int32) = nI 200 from rfl]; exact nI_lt hv (by decide)
  simp only [fX4_withHarvest_11, fX4_withHarvest, br_n c1, br_y c2, gdT, brTr, brFa, br_00, br_10, bd_e, bo_s, bp_s, cs_s, cs_n, lf_s, o0 hS, o1 hS, o2 hS, o3 hS, o4 hS, o5 hS, o6 hS, o7 hS, o8 hS, o9 hS, o10 hS, o11 hS, o12 hS, o13 hS, o14 hS, o15 hS, o16 hS, o17 hS, o18 hS, o19 hS, o20 hS, o21 hS, o22 hS, o23 hS, o24 hS, o25 hS, o26 hS, o27 hS, o28 hS, o29 hS, o30 hS, o31 hS, o32 hS, o33 hS, o34 hS, o35 hS, o36 hS, o37 hS, o38 hS, o39 hS, o40 hS, o41 hS, o42 hS, o43 hS, o44 hS, o45 hS, o46 hS, o47 hS, l2 hS, l3 hS, l4 hS, l5 hS, l7 hS, l8 hS, l10 hS, l12 hS, l14 hS, l15 hS, l16 hS, l18 hS, l19 hS, l20 hS, l21 hS, l22 hS, l23 hS, l24 hS, l25 hS, l26 hS, l27 hS, l28 hS, l29 hS, l30 hS, l31 hS, l32 hS, l33 hS, l34 hS, l35 hS, l36 hS, l37 hS, l38 hS, l39 hS, l40 hS, l41 hS, l42 hS, l43 hS, l44 hS, l45 hS, l46 hS, l47 hS, g640 hS, g641 hS, g642 hS, g643 hS, g644 hS, g645 hS, g128 hS, g129 hS, g130 hS, g131 hS, g384 hS, g385 hS, g256 hS, g576 hS, g192 hS, g193 hS, g707 hS, g708 hS, g709 hS, g710 hS, g712 hS, g713 hS, g714 hS, g715 hS, g716 hS, g720 hS, g721 hS, g722 hS, g723 hS, g724 hS, g725 hS, g726 hS, g728 hS, g729 hS, g730 hS, g731 hS, g732 hS, g733 hS, g734 hS, g735 hS, g736 hS, g737 hS, g738 hS, g740 hS, g751 hS, g752 hS, inb hv (by decide), nI_clamp (show v < 2 ^ 31 by omega), e, nI_add]
  by_cases c : l + s < 100000000
  · rw [if_pos (by rw [show (100000000 : Int32) = nI 100000000 from rfl]; exact nI_lt c (by decide)), show min 100000000 (l + s) = l + s by omega]
  · rw [if_neg (by rw [show (100000000 : Int32) = nI 100000000 from rfl]; exact nI_nlt (by omega) (by omega)), show min 100000000 (l + s) = 100000000 by omega]
    rfl
theorem I_hv.b {z : Hp} {w nh v : Nat} (h : I_hv z w nh) (hn : nh ≤ 10) : hvS (zA z 46) (zA z 47) v nh ≤ 100000000 := by
  have := hvS_le (A46 := zA z 46) (A47 := zA z 47) (v := v) nh (fun k hk => by obtain ⟨_, ok, _, e, _, _, _, q⟩ := h.1 k hk; exact ⟨ok, e, q⟩)
  omega
theorem firstHunger_l {N st w nh d last : Nat} {z : Hp} (hS : Sh z) (hhv : I_hv z w nh) (hn : nh ≤ 10) (hst : st ≤ 100000000) (hd : d ≤ 1000000000) (hl : last < 200) : ∀ m i, w + i + m = last + 1 → ∀ (b : Nat), (i = 0 → b = st) → (∀ j, i = j + 1 → b = caF (zA z 46) (zA z 47) nh st w d j - d) → ∀ M, m < M → wh (fun (u : Int32 × Int32) => fX4_firstHunger_16 N 13 (nI w) (nI last) (nI d) u.1 u.2 z) M (nI b, nI (w + i)) = some (encT (-6) nI (hunF (zA z 46) (zA z 47) nh st w d m i)) := by
  intro m
  induction m with
  | zero =>
    intro i hm b h0 h1 M hM
    obtain ⟨M', rfl⟩ : ∃ M', M = M' + 1 := ⟨M - 1, by omega⟩
    have c : nI last < nI (w + i) := nI_lt (by omega) (by omega)
    exact wh_out (by simp only [fX4_firstHunger_16, br_y c, lf_s, hunF, encT])
  | succ m ih =>
    intro i hm b h0 h1 M hM
    obtain ⟨M', rfl⟩ : ∃ M', M = M' + 1 := ⟨M - 1, by omega⟩
    have c : ¬ nI last < nI (w + i) := nI_nlt (by omega) (by omega)
    have hca := caF_le (A46 := zA z 46) (A47 := zA z 47) (nh := nh) (w := w) (d := d) hst i
    -- with the harvest of this week
    have step : fX4_firstHunger_16 N 13 (nI w) (nI last) (nI d) (nI b) (nI (w + i)) z = fX4_firstHunger_38 N 13 (nI w) (nI last) (nI d) (nI (caF (zA z 46) (zA z 47) nh st w d i)) (nI (w + i)) z := by
      rcases Nat.eq_zero_or_pos i with hi | hi
      · subst hi
        have c2 : nI (w + 0) ≤ nI w := nI_le (by omega) (by omega)
        simp only [fX4_firstHunger_16, br_n c, br_y c2, caF, h0 rfl]
      · obtain ⟨j, rfl⟩ : ∃ j, i = j + 1 := ⟨i - 1, by omega⟩
        have c2 : ¬ nI (w + (j + 1)) ≤ nI w := nI_ge (by omega) (by omega)
        have hb := h1 j rfl
        have hbl := caF_le (A46 := zA z 46) (A47 := zA z 47) (nh := nh) (w := w) (d := d) hst j
        have e14 := (hhv.2 (w + (j + 1)) (by omega) (by omega)).1
        simp only [fX4_firstHunger_16, br_n c, br_n c2, gdT, brTr, brFa, br_00, br_10, bd_e, bo_s, bp_s, cs_s, cs_n, lf_s, o0 hS, o1 hS, o2 hS, o3 hS, o4 hS, o5 hS, o6 hS, o7 hS, o8 hS, o9 hS, o10 hS, o11 hS, o12 hS, o13 hS, o14 hS, o15 hS, o16 hS, o17 hS, o18 hS, o19 hS, o20 hS, o21 hS, o22 hS, o23 hS, o24 hS, o25 hS, o26 hS, o27 hS, o28 hS, o29 hS, o30 hS, o31 hS, o32 hS, o33 hS, o34 hS, o35 hS, o36 hS, o37 hS, o38 hS, o39 hS, o40 hS, o41 hS, o42 hS, o43 hS, o44 hS, o45 hS, o46 hS, o47 hS, l2 hS, l3 hS, l4 hS, l5 hS, l7 hS, l8 hS, l10 hS, l12 hS, l14 hS, l15 hS, l16 hS, l18 hS, l19 hS, l20 hS, l21 hS, l22 hS, l23 hS, l24 hS, l25 hS, l26 hS, l27 hS, l28 hS, l29 hS, l30 hS, l31 hS, l32 hS, l33 hS, l34 hS, l35 hS, l36 hS, l37 hS, l38 hS, l39 hS, l40 hS, l41 hS, l42 hS, l43 hS, l44 hS, l45 hS, l46 hS, l47 hS, g640 hS, g641 hS, g642 hS, g643 hS, g644 hS, g645 hS, g128 hS, g129 hS, g130 hS, g131 hS, g384 hS, g385 hS, g256 hS, g576 hS, g192 hS, g193 hS, g707 hS, g708 hS, g709 hS, g710 hS, g712 hS, g713 hS, g714 hS, g715 hS, g716 hS, g720 hS, g721 hS, g722 hS, g723 hS, g724 hS, g725 hS, g726 hS, g728 hS, g729 hS, g730 hS, g731 hS, g732 hS, g733 hS, g734 hS, g735 hS, g736 hS, g737 hS, g738 hS, g740 hS, g751 hS, g752 hS, withHarvest_e hS (show w + (j + 1) < 200 by omega) e14 (show b ≤ 100000000 by omega) (hhv.b hn), caF, adv, ← hb, Nat.add_assoc]
    by_cases hh : caF (zA z 46) (zA z 47) nh st w d i < d
    · have c3 : ¬ nI d ≤ nI (caF (zA z 46) (zA z 47) nh st w d i) := nI_ge hh (by omega)
      refine wh_out ?_
      show fX4_firstHunger_16 N 13 (nI w) (nI last) (nI d) (nI b) (nI (w + i)) z = _
      rw [step]
      simp only [fX4_firstHunger_38, br_n c3, lf_s, hunF, if_pos hh, encT]
    · have c3 : nI d ≤ nI (caF (zA z 46) (zA z 47) nh st w d i) := nI_le (by omega) (by omega)
      rw [wh_in (s' := (nI (caF (zA z 46) (zA z 47) nh st w d i - d), nI (w + (i + 1)))) ?_]
      · rw [ih (i + 1) (by omega) _ (fun q => by omega) (fun j hj => by cases hj; rfl) M' (by omega)]
        simp only [hunF, if_neg hh]
      · show fX4_firstHunger_16 N 13 (nI w) (nI last) (nI d) (nI b) (nI (w + i)) z = _
        rw [step]
        simp only [fX4_firstHunger_38, br_y c3, bd_e, pk_sub (show d ≤ caF (zA z 46) (zA z 47) nh st w d i by omega), nI_1, Nat.add_assoc]
theorem firstHunger_e {N st w nh mo ea r last : Nat} {z : Hp} (hN : 6000 ≤ N) (hS : Sh z) (hhv : I_hv z w nh) (hn : nh ≤ 10) (e195 : zF z 195 13 = nI st) (hst : st ≤ 100000000) (e1 : zF z 196 13 = nI mo) (e2 : zF z 197 13 = nI ea) (hm : mo ≤ 10000) (he : ea ≤ 1000) (hr : r ≤ 100) (hl : last < 200) (hwl : w ≤ last) : fX4_firstHunger N 13 (nI w) (nI last) (nI r) z = some (encT (-6) nI (hunF (zA z 46) (zA z 47) nh st w (mo * ea * r / 100) (last + 1 - w) 0)) := by
  have hb := mul3_le hm he hr
  simp only [fX4_firstHunger, gdT, brTr, brFa, br_00, br_10, bd_e, bo_s, bp_s, cs_s, cs_n, lf_s, o0 hS, o1 hS, o2 hS, o3 hS, o4 hS, o5 hS, o6 hS, o7 hS, o8 hS, o9 hS, o10 hS, o11 hS, o12 hS, o13 hS, o14 hS, o15 hS, o16 hS, o17 hS, o18 hS, o19 hS, o20 hS, o21 hS, o22 hS, o23 hS, o24 hS, o25 hS, o26 hS, o27 hS, o28 hS, o29 hS, o30 hS, o31 hS, o32 hS, o33 hS, o34 hS, o35 hS, o36 hS, o37 hS, o38 hS, o39 hS, o40 hS, o41 hS, o42 hS, o43 hS, o44 hS, o45 hS, o46 hS, o47 hS, l2 hS, l3 hS, l4 hS, l5 hS, l7 hS, l8 hS, l10 hS, l12 hS, l14 hS, l15 hS, l16 hS, l18 hS, l19 hS, l20 hS, l21 hS, l22 hS, l23 hS, l24 hS, l25 hS, l26 hS, l27 hS, l28 hS, l29 hS, l30 hS, l31 hS, l32 hS, l33 hS, l34 hS, l35 hS, l36 hS, l37 hS, l38 hS, l39 hS, l40 hS, l41 hS, l42 hS, l43 hS, l44 hS, l45 hS, l46 hS, l47 hS, g640 hS, g641 hS, g642 hS, g643 hS, g644 hS, g645 hS, g128 hS, g129 hS, g130 hS, g131 hS, g384 hS, g385 hS, g256 hS, g576 hS, g192 hS, g193 hS, g707 hS, g708 hS, g709 hS, g710 hS, g712 hS, g713 hS, g714 hS, g715 hS, g716 hS, g720 hS, g721 hS, g722 hS, g723 hS, g724 hS, g725 hS, g726 hS, g728 hS, g729 hS, g730 hS, g731 hS, g732 hS, g733 hS, g734 hS, g735 hS, g736 hS, g737 hS, g738 hS, g740 hS, g751 hS, g752 hS, needWith_e hS e1 e2 hm he hr, e195]
  exact firstHunger_l hS hhv hn hst (by omega) hl (last + 1 - w) 0 (by omega) st (fun _ => rfl) (fun j hj => by omega) N (by omega)
theorem hungerBy_in {N nh v l d last : Nat} {z : Hp} (hN : 6000 ≤ N) (hS : Sh z) (e753 : zF z 753 17 = nI nh) (hn : nh ≤ 10) (hok : ∀ k, k < nh → ∃ ok, zA z 47 k = nI ok ∧ ok ≤ 10000000) (hl : l ≤ 100000000) (hv : v < 1000) : wh (fun (u : Int32 × Int32) => fX12_hungerBy_42 N 17 (nI last) (nI d) u.1 (nI v) u.2 z) N (nI l, (0 : Int32)) = some (.inl (nI (adv (zA z 46) (zA z 47) nh l (v + 1)), nI (v + 1))) := by
  have key := wh_seq (f := fun (u : Int32 × Int32) => fX12_hungerBy_42 N 17 (nI last) (nI d) u.1 (nI v) u.2 z) (r := (.inl (nI (adv (zA z 46) (zA z 47) nh l (v + 1)), nI (v + 1)) : (Int32 × Int32) ⊕ Int32)) (fun i => (nI (hvA (zA z 46) (zA z 47) (v + 1) l i), nI i)) nh 0 ?_ ?_ N (by omega)
  · exact key
  · intro j _ hj
    have hj' : j < nh := by omega
    have h1 : ¬ nI nh ≤ nI j := nI_ge hj' (by omega)
    obtain ⟨ok, eo, ho⟩ := hok j hj'
    have hb : hvA (zA z 46) (zA z 47) (v + 1) l j ≤ 100000000 := by rw [hvA_e hl]; exact Nat.min_le_left _ _
    have ec : (zA z 47 j).toNatClampNeg = ok := by rw [eo, nI_clamp (by omega)]
    simp only [fX12_hungerBy_42, fX12_hungerBy_95, fX12_hungerBy_97, gdT, brTr, brFa, br_00, br_10, bd_e, bo_s, bp_s, cs_s, cs_n, lf_s, o0 hS, o1 hS, o2 hS, o3 hS, o4 hS, o5 hS, o6 hS, o7 hS, o8 hS, o9 hS, o10 hS, o11 hS, o12 hS, o13 hS, o14 hS, o15 hS, o16 hS, o17 hS, o18 hS, o19 hS, o20 hS, o21 hS, o22 hS, o23 hS, o24 hS, o25 hS, o26 hS, o27 hS, o28 hS, o29 hS, o30 hS, o31 hS, o32 hS, o33 hS, o34 hS, o35 hS, o36 hS, o37 hS, o38 hS, o39 hS, o40 hS, o41 hS, o42 hS, o43 hS, o44 hS, o45 hS, o46 hS, o47 hS, l2 hS, l3 hS, l4 hS, l5 hS, l7 hS, l8 hS, l10 hS, l12 hS, l14 hS, l15 hS, l16 hS, l18 hS, l19 hS, l20 hS, l21 hS, l22 hS, l23 hS, l24 hS, l25 hS, l26 hS, l27 hS, l28 hS, l29 hS, l30 hS, l31 hS, l32 hS, l33 hS, l34 hS, l35 hS, l36 hS, l37 hS, l38 hS, l39 hS, l40 hS, l41 hS, l42 hS, l43 hS, l44 hS, l45 hS, l46 hS, l47 hS, g640 hS, g641 hS, g642 hS, g643 hS, g644 hS, g645 hS, g128 hS, g129 hS, g130 hS, g131 hS, g384 hS, g385 hS, g256 hS, g576 hS, g192 hS, g193 hS, g707 hS, g708 hS, g709 hS, g710 hS, g712 hS, g713 hS, g714 hS, g715 hS, g716 hS, g720 hS, g721 hS, g722 hS, g723 hS, g724 hS, g725 hS, g726 hS, g728 hS, g729 hS, g730 hS, g731 hS, g732 hS, g733 hS, g734 hS, g735 hS, g736 hS, g737 hS, g738 hS, g740 hS, g751 hS, g752 hS, e753, br_n h1, inb (show j < 10 by omega) (by decide), nI_clamp (show j < 2 ^ 31 by omega), eo, nI_add, nI_1, hvA, nI_clamp (show ok < 2 ^ 31 by omega)]
    by_cases c1 : zA z 46 j = nI (v + 1)
    · simp only [br_y c1, if_pos c1]
      by_cases c2 : hvA (zA z 46) (zA z 47) (v + 1) l j + ok ≤ 100000000
      · have c3 : nI (hvA (zA z 46) (zA z 47) (v + 1) l j + ok) ≤ 100000000 := by rw [show (100000000 : Int32) = nI 100000000 from rfl]; exact nI_le c2 (by decide)
        rw [br_y c3, show min 100000000 (hvA (zA z 46) (zA z 47) (v + 1) l j + ok) = hvA (zA z 46) (zA z 47) (v + 1) l j + ok by omega]
      · have c3 : ¬ nI (hvA (zA z 46) (zA z 47) (v + 1) l j + ok) ≤ 100000000 := by rw [show (100000000 : Int32) = nI 100000000 from rfl]; exact nI_ge (by omega) (by omega)
        rw [br_n c3, show min 100000000 (hvA (zA z 46) (zA z 47) (v + 1) l j + ok) = 100000000 by omega]
        rfl
    · simp only [br_n c1, if_neg c1]
  · simp only [fX12_hungerBy_42, gdT, brTr, brFa, br_00, br_10, bd_e, bo_s, bp_s, cs_s, cs_n, lf_s, o0 hS, o1 hS, o2 hS, o3 hS, o4 hS, o5 hS, o6 hS, o7 hS, o8 hS, o9 hS, o10 hS, o11 hS, o12 hS, o13 hS, o14 hS, o15 hS, o16 hS, o17 hS, o18 hS, o19 hS, o20 hS, o21 hS, o22 hS, o23 hS, o24 hS, o25 hS, o26 hS, o27 hS, o28 hS, o29 hS, o30 hS, o31 hS, o32 hS, o33 hS, o34 hS, o35 hS, o36 hS, o37 hS, o38 hS, o39 hS, o40 hS, o41 hS, o42 hS, o43 hS, o44 hS, o45 hS, o46 hS, o47 hS, l2 hS, l3 hS, l4 hS, l5 hS, l7 hS, l8 hS, l10 hS, l12 hS, l14 hS, l15 hS, l16 hS, l18 hS, l19 hS, l20 hS, l21 hS, l22 hS, l23 hS, l24 hS, l25 hS, l26 hS, l27 hS, l28 hS, l29 hS, l30 hS, l31 hS, l32 hS, l33 hS, l34 hS, l35 hS, l36 hS, l37 hS, l38 hS, l39 hS, l40 hS, l41 hS, l42 hS, l43 hS, l44 hS, l45 hS, l46 hS, l47 hS, g640 hS, g641 hS, g642 hS, g643 hS, g644 hS, g645 hS, g128 hS, g129 hS, g130 hS, g131 hS, g384 hS, g385 hS, g256 hS, g576 hS, g192 hS, g193 hS, g707 hS, g708 hS, g709 hS, g710 hS, g712 hS, g713 hS, g714 hS, g715 hS, g716 hS, g720 hS, g721 hS, g722 hS, g723 hS, g724 hS, g725 hS, g726 hS, g728 hS, g729 hS, g730 hS, g731 hS, g732 hS, g733 hS, g734 hS, g735 hS, g736 hS, g737 hS, g738 hS, g740 hS, g751 hS, g752 hS, e753, Nat.zero_add, br_y (Int32.le_refl (nI nh)), nI_1, hvA_e hl, adv]
theorem hungerBy_l {N st w nh d last : Nat} {z : Hp} (hN : 6000 ≤ N) (hS : Sh z) (e753 : zF z 753 17 = nI nh) (hn : nh ≤ 10) (hok : ∀ k, k < nh → ∃ ok, zA z 47 k = nI ok ∧ ok ≤ 10000000) (hst : st ≤ 100000000) (hd : d ≤ 1000000000) (hl : last < 200) : ∀ m i, w + i + m = last + 1 → ∀ M, m < M → wh (fun (u : Int32 × Int32) => fX12_hungerBy_18 N 17 (nI last) (nI d) u.1 u.2 z) M (nI (caF (zA z 46) (zA z 47) nh st w d i), nI (w + i)) = some (encT (-6) nI (hunF (zA z 46) (zA z 47) nh st w d m i)) := by
  intro m
  induction m with
  | zero =>
    intro i hm M hM
    obtain ⟨M', rfl⟩ : ∃ M', M = M' + 1 := ⟨M - 1, by omega⟩
    have c : nI last < nI (w + i) := nI_lt (by omega) (by omega)
    exact wh_out (by simp only [fX12_hungerBy_18, br_y c, lf_s, hunF, encT])
  | succ m ih =>
    intro i hm M hM
    obtain ⟨M', rfl⟩ : ∃ M', M = M' + 1 := ⟨M - 1, by omega⟩
    have c : ¬ nI last < nI (w + i) := nI_nlt (by omega) (by omega)
    have hca := caF_le (A46 := zA z 46) (A47 := zA z 47) (nh := nh) (w := w) (d := d) hst i
    by_cases hh : caF (zA z 46) (zA z 47) nh st w d i < d
    · have c3 : ¬ nI d ≤ nI (caF (zA z 46) (zA z 47) nh st w d i) := nI_ge hh (by omega)
      exact wh_out (by simp only [fX12_hungerBy_18, br_n c, br_n c3, lf_s, hunF, if_pos hh, encT])
    · have c3 : nI d ≤ nI (caF (zA z 46) (zA z 47) nh st w d i) := nI_le (by omega) (by omega)
      rw [wh_in (s' := (nI (caF (zA z 46) (zA z 47) nh st w d (i + 1)), nI (w + (i + 1)))) ?_]
      · rw [ih (i + 1) (by omega) M' (by omega)]
        simp only [hunF, if_neg hh]
      · simp only [fX12_hungerBy_18, br_n c, br_y c3, bd_e, pk_sub (show d ≤ caF (zA z 46) (zA z 47) nh st w d i by omega)]
        rw [hungerBy_in hN hS e753 hn hok (by omega) (by omega)]
        simp only [caF, Nat.add_assoc]
theorem hungerBy_e {N st w nh mo ea r last : Nat} {z : Hp} (hN : 6000 ≤ N) (hS : Sh z) (e753 : zF z 753 17 = nI nh) (hhv : I_hv z w nh) (hn : nh ≤ 10) (e746 : zF z 746 17 = nI st) (hst : st ≤ 100000000) (e704 : zF z 704 17 = nI w) (e1 : zF z 747 17 = nI mo) (e2 : zF z 748 17 = nI ea) (hm : mo ≤ 10000) (he : ea ≤ 1000) (hr : r ≤ 100) (hl : last < 200) (hwl : w ≤ last) : fX12_hungerBy N 17 (nI r) (nI last) z = some (encT (-6) nI (hunF (zA z 46) (zA z 47) nh st w (mo * ea * r / 100) (last + 1 - w) 0)) := by
  have hb := mul3_le hm he hr
  simp only [fX12_hungerBy, gdT, brTr, brFa, br_00, br_10, bd_e, bo_s, bp_s, cs_s, cs_n, lf_s, o0 hS, o1 hS, o2 hS, o3 hS, o4 hS, o5 hS, o6 hS, o7 hS, o8 hS, o9 hS, o10 hS, o11 hS, o12 hS, o13 hS, o14 hS, o15 hS, o16 hS, o17 hS, o18 hS, o19 hS, o20 hS, o21 hS, o22 hS, o23 hS, o24 hS, o25 hS, o26 hS, o27 hS, o28 hS, o29 hS, o30 hS, o31 hS, o32 hS, o33 hS, o34 hS, o35 hS, o36 hS, o37 hS, o38 hS, o39 hS, o40 hS, o41 hS, o42 hS, o43 hS, o44 hS, o45 hS, o46 hS, o47 hS, l2 hS, l3 hS, l4 hS, l5 hS, l7 hS, l8 hS, l10 hS, l12 hS, l14 hS, l15 hS, l16 hS, l18 hS, l19 hS, l20 hS, l21 hS, l22 hS, l23 hS, l24 hS, l25 hS, l26 hS, l27 hS, l28 hS, l29 hS, l30 hS, l31 hS, l32 hS, l33 hS, l34 hS, l35 hS, l36 hS, l37 hS, l38 hS, l39 hS, l40 hS, l41 hS, l42 hS, l43 hS, l44 hS, l45 hS, l46 hS, l47 hS, g640 hS, g641 hS, g642 hS, g643 hS, g644 hS, g645 hS, g128 hS, g129 hS, g130 hS, g131 hS, g384 hS, g385 hS, g256 hS, g576 hS, g192 hS, g193 hS, g707 hS, g708 hS, g709 hS, g710 hS, g712 hS, g713 hS, g714 hS, g715 hS, g716 hS, g720 hS, g721 hS, g722 hS, g723 hS, g724 hS, g725 hS, g726 hS, g728 hS, g729 hS, g730 hS, g731 hS, g732 hS, g733 hS, g734 hS, g735 hS, g736 hS, g737 hS, g738 hS, g740 hS, g751 hS, g752 hS, needOf_e hS e1 e2 hm he hr, e746, e704]
  exact hungerBy_l (i := 0) hN hS e753 hn (fun k hk => by obtain ⟨_, ok, _, e, _, _, _, q⟩ := hhv.1 k hk; exact ⟨ok, e, q⟩) hst (by omega) hl (last + 1 - w) (by omega) N (by omega)
theorem op_foretell (N : Nat) (hN : 6000 ≤ N) : Op_foretell N Inv := by
  intro z a1 hI
  obtain ⟨hS, hsc, hst, w, h, nb, nr, ng, gv, nt, nh, hn, hhv, hrec, hbk, hgr, hgf, hmk, htx, htn⟩ := id hI
  have hw := weekNow_e (N := N) hS hn
  obtain ⟨⟨n1, n2, n3, n4, n5⟩, m2, m3, m4, m5, m6, ⟨n17, n18, n19⟩⟩ := id hn
  obtain ⟨⟨st, s1, s2⟩, ⟨mo, s3, s4⟩, ⟨ea, s5, s6⟩, -, s7, s8, s9, -⟩ := id hst
  by_cases ho : a1 < 1 ∨ 100 < a1
  · exact ⟨-2, by simp only [fX11_foretell, out_1 ho, gdT, brTr, brFa, br_00, br_10, bd_e, bo_s, bp_s, cs_s, cs_n, lf_s], by simp only [fX12_foretell, in_0 (A := 1) (B := 100) (a := 1) (b := 100) rfl rfl ho, gdT, brTr, brFa, br_00, br_10, bd_e, bo_s, bp_s, cs_s, cs_n, lf_s]⟩
  · obtain ⟨r, rfl, -, hr⟩ := nI_rng (a := 1) (b := 100) (by decide) (by decide) ho
    have f1 := firstHunger_e (last := 199) hN hS hhv n19 (s7.trans s1) s2 (s8.trans s3) (s9.trans s5) s4 s6 hr (by omega) (by omega)
    have f2 := hungerBy_e (last := 199) hN hS n17 hhv n19 s1 s2 n1 s3 s5 s4 s6 hr (by omega) (by omega)
    rw [show nI 199 = (199 : Int32) from rfl] at f1 f2
    exact ⟨_, by simp only [fX11_foretell, out_0 ho, gdT, brTr, brFa, br_00, br_10, bd_e, bo_s, bp_s, cs_s, cs_n, lf_s, o0 hS, o1 hS, o2 hS, o3 hS, o4 hS, o5 hS, o6 hS, o7 hS, o8 hS, o9 hS, o10 hS, o11 hS, o12 hS, o13 hS, o14 hS, o15 hS, o16 hS, o17 hS, o18 hS, o19 hS, o20 hS, o21 hS, o22 hS, o23 hS, o24 hS, o25 hS, o26 hS, o27 hS, o28 hS, o29 hS, o30 hS, o31 hS, o32 hS, o33 hS, o34 hS, o35 hS, o36 hS, o37 hS, o38 hS, o39 hS, o40 hS, o41 hS, o42 hS, o43 hS, o44 hS, o45 hS, o46 hS, o47 hS, l2 hS, l3 hS, l4 hS, l5 hS, l7 hS, l8 hS, l10 hS, l12 hS, l14 hS, l15 hS, l16 hS, l18 hS, l19 hS, l20 hS, l21 hS, l22 hS, l23 hS, l24 hS, l25 hS, l26 hS, l27 hS, l28 hS, l29 hS, l30 hS, l31 hS, l32 hS, l33 hS, l34 hS, l35 hS, l36 hS, l37 hS, l38 hS, l39 hS, l40 hS, l41 hS, l42 hS, l43 hS, l44 hS, l45 hS, l46 hS, l47 hS, g640 hS, g641 hS, g642 hS, g643 hS, g644 hS, g645 hS, g128 hS, g129 hS, g130 hS, g131 hS, g384 hS, g385 hS, g256 hS, g576 hS, g192 hS, g193 hS, g707 hS, g708 hS, g709 hS, g710 hS, g712 hS, g713 hS, g714 hS, g715 hS, g716 hS, g720 hS, g721 hS, g722 hS, g723 hS, g724 hS, g725 hS, g726 hS, g728 hS, g729 hS, g730 hS, g731 hS, g732 hS, g733 hS, g734 hS, g735 hS, g736 hS, g737 hS, g738 hS, g740 hS, g751 hS, g752 hS, hw, f1]; rfl, by simp only [fX12_foretell, in_1 (A := 1) (B := 100) (a := 1) (b := 100) rfl rfl ho, gdT, brTr, brFa, br_00, br_10, bd_e, bo_s, bp_s, cs_s, cs_n, lf_s, o0 hS, o1 hS, o2 hS, o3 hS, o4 hS, o5 hS, o6 hS, o7 hS, o8 hS, o9 hS, o10 hS, o11 hS, o12 hS, o13 hS, o14 hS, o15 hS, o16 hS, o17 hS, o18 hS, o19 hS, o20 hS, o21 hS, o22 hS, o23 hS, o24 hS, o25 hS, o26 hS, o27 hS, o28 hS, o29 hS, o30 hS, o31 hS, o32 hS, o33 hS, o34 hS, o35 hS, o36 hS, o37 hS, o38 hS, o39 hS, o40 hS, o41 hS, o42 hS, o43 hS, o44 hS, o45 hS, o46 hS, o47 hS, l2 hS, l3 hS, l4 hS, l5 hS, l7 hS, l8 hS, l10 hS, l12 hS, l14 hS, l15 hS, l16 hS, l18 hS, l19 hS, l20 hS, l21 hS, l22 hS, l23 hS, l24 hS, l25 hS, l26 hS, l27 hS, l28 hS, l29 hS, l30 hS, l31 hS, l32 hS, l33 hS, l34 hS, l35 hS, l36 hS, l37 hS, l38 hS, l39 hS, l40 hS, l41 hS, l42 hS, l43 hS, l44 hS, l45 hS, l46 hS, l47 hS, g640 hS, g641 hS, g642 hS, g643 hS, g644 hS, g645 hS, g128 hS, g129 hS, g130 hS, g131 hS, g384 hS, g385 hS, g256 hS, g576 hS, g192 hS, g193 hS, g707 hS, g708 hS, g709 hS, g710 hS, g712 hS, g713 hS, g714 hS, g715 hS, g716 hS, g720 hS, g721 hS, g722 hS, g723 hS, g724 hS, g725 hS, g726 hS, g728 hS, g729 hS, g730 hS, g731 hS, g732 hS, g733 hS, g734 hS, g735 hS, g736 hS, g737 hS, g738 hS, g740 hS, g751 hS, g752 hS, f2]⟩
