theorem wh_in {S R : Type} {f : S → Option (S ⊕ R)} {s s' : S} {N : Nat} (h : f s = some (.inl s')) : wh f (N + 1) s = wh f N s' := by simp only [wh, h]
theorem wh_out {S R : Type} {f : S → Option (S ⊕ R)} {s : S} {r : R} {N : Nat} (h : f s = some (.inr r)) : wh f (N + 1) s = some r := by simp only [wh, h]
/-- the price of the week ahead of K -/
def prS (mo mw : Nat → Int64) : Nat → Int32
  | 0 => 100
  | v + 1 => if 0 < mo v then (mw v / mo v).toInt32 else prS mo mw v
def moz (z : Hp) (nr v : Nat) : Int64 := mkO (zA z 18) (zA z 19) (zA z 22) (nI v) nr
def mwz (z : Hp) (nr v : Nat) : Int64 := mkW (zA z 18) (zA z 19) (zA z 22) (zA z 23) (nI v) nr
theorem priceOf_l {N nr : Nat} {z : Hp} (hS : Sh z) (hmk : I_mk z nr) : ∀ K, K ≤ 200 → ∀ M, K < M → wh (fun (u : Int32) => fX7_priceOf_8 N 6 u z) M (nI K + (-1)) = some (prS (moz z nr) (mwz z nr) K) := by
  intro K
  induction K with
  | zero =>
    intro _ M hM
    obtain ⟨M', rfl⟩ : ∃ M', M = M' + 1 := ⟨M - 1, by omega⟩
    have h0 : nI 0 + (-1) < 0 := by decide
    exact wh_out (by simp only [fX7_priceOf_8, br_y h0, lf_s, prS])
  | succ K ih =>
    intro hK M hM
    obtain ⟨M', rfl⟩ : ∃ M', M = M' + 1 := ⟨M - 1, by omega⟩
    rw [pk_m1]
    have h0 : ¬ nI K < 0 := nI_pos (by omega)
    obtain ⟨e1, e2⟩ := hmk K (by omega)
    by_cases c : 0 < moz z nr K
    · have hc : ¬ lg_cmp (moz z nr K) 0 ≤ 0 := by rw [lg_cmp_le]; exact Int64.not_le.mpr c
      have hd : (¬ moz z nr K = 0) = True := eq_true (fun q => by rw [q] at c; exact absurd c (by decide))
      refine wh_out ?_
      simp only [fX7_priceOf_8, br_n h0, gdT, brTr, brFa, br_00, br_10, bd_e, bo_s, bp_s, cs_s, cs_n, lf_s, o0 hS, o1 hS, o2 hS, o3 hS, o4 hS, o5 hS, o6 hS, o7 hS, o8 hS, o9 hS, o10 hS, o11 hS, o12 hS, o13 hS, o14 hS, o15 hS, o16 hS, o17 hS, o18 hS, o19 hS, o20 hS, o21 hS, o22 hS, o23 hS, o24 hS, o25 hS, o26 hS, o27 hS, o28 hS, o29 hS, o30 hS, o31 hS, o32 hS, o33 hS, o34 hS, o35 hS, o36 hS, o37 hS, o38 hS, o39 hS, o40 hS, o41 hS, o42 hS, o43 hS, o44 hS, o45 hS, o46 hS, o47 hS, l2 hS, l3 hS, l4 hS, l5 hS, l7 hS, l8 hS, l10 hS, l12 hS, l14 hS, l15 hS, l16 hS, l18 hS, l19 hS, l20 hS, l21 hS, l22 hS, l23 hS, l24 hS, l25 hS, l26 hS, l27 hS, l28 hS, l29 hS, l30 hS, l31 hS, l32 hS, l33 hS, l34 hS, l35 hS, l36 hS, l37 hS, l38 hS, l39 hS, l40 hS, l41 hS, l42 hS, l43 hS, l44 hS, l45 hS, l46 hS, l47 hS, g640 hS, g641 hS, g642 hS, g643 hS, g644 hS, g645 hS, g128 hS, g129 hS, g130 hS, g131 hS, g384 hS, g385 hS, g256 hS, g576 hS, g192 hS, g193 hS, g707 hS, g708 hS, g709 hS, g710 hS, g712 hS, g713 hS, g714 hS, g715 hS, g716 hS, g720 hS, g721 hS, g722 hS, g723 hS, g724 hS, g725 hS, g726 hS, g728 hS, g729 hS, g730 hS, g731 hS, g732 hS, g733 hS, g734 hS, g735 hS, g736 hS, g737 hS, g738 hS, g740 hS, g751 hS, g752 hS, inb (show K < 200 by omega) (by decide), nI_clamp (show K < 2 ^ 31 by omega), e1, e2]
      rw [show mkO (zA z 18) (zA z 19) (zA z 22) (nI K) nr = moz z nr K from rfl, show mkW (zA z 18) (zA z 19) (zA z 22) (zA z 23) (nI K) nr = mwz z nr K from rfl]
      simp only [br_n hc, hd, gdT, brTr, brFa, br_00, br_10, bd_e, bo_s, bp_s, cs_s, cs_n, lf_s, prS, if_pos c]
    · have hc : lg_cmp (moz z nr K) 0 ≤ 0 := by rw [lg_cmp_le]; exact Int64.not_lt.mp c
      rw [wh_in (s' := nI K + (-1)) ?_]
      · rw [ih (by omega) M' (by omega)]
        simp only [prS, if_neg c]
      · simp only [fX7_priceOf_8, br_n h0, gdT, brTr, brFa, br_00, br_10, bd_e, bo_s, bp_s, cs_s, cs_n, lf_s, o0 hS, o1 hS, o2 hS, o3 hS, o4 hS, o5 hS, o6 hS, o7 hS, o8 hS, o9 hS, o10 hS, o11 hS, o12 hS, o13 hS, o14 hS, o15 hS, o16 hS, o17 hS, o18 hS, o19 hS, o20 hS, o21 hS, o22 hS, o23 hS, o24 hS, o25 hS, o26 hS, o27 hS, o28 hS, o29 hS, o30 hS, o31 hS, o32 hS, o33 hS, o34 hS, o35 hS, o36 hS, o37 hS, o38 hS, o39 hS, o40 hS, o41 hS, o42 hS, o43 hS, o44 hS, o45 hS, o46 hS, o47 hS, l2 hS, l3 hS, l4 hS, l5 hS, l7 hS, l8 hS, l10 hS, l12 hS, l14 hS, l15 hS, l16 hS, l18 hS, l19 hS, l20 hS, l21 hS, l22 hS, l23 hS, l24 hS, l25 hS, l26 hS, l27 hS, l28 hS, l29 hS, l30 hS, l31 hS, l32 hS, l33 hS, l34 hS, l35 hS, l36 hS, l37 hS, l38 hS, l39 hS, l40 hS, l41 hS, l42 hS, l43 hS, l44 hS, l45 hS, l46 hS, l47 hS, g640 hS, g641 hS, g642 hS, g643 hS, g644 hS, g645 hS, g128 hS, g129 hS, g130 hS, g131 hS, g384 hS, g385 hS, g256 hS, g576 hS, g192 hS, g193 hS, g707 hS, g708 hS, g709 hS, g710 hS, g712 hS, g713 hS, g714 hS, g715 hS, g716 hS, g720 hS, g721 hS, g722 hS, g723 hS, g724 hS, g725 hS, g726 hS, g728 hS, g729 hS, g730 hS, g731 hS, g732 hS, g733 hS, g734 hS, g735 hS, g736 hS, g737 hS, g738 hS, g740 hS, g751 hS, g752 hS, inb (show K < 200 by omega) (by decide), nI_clamp (show K < 2 ^ 31 by omega), e1, e2]
        rw [show mkO (zA z 18) (zA z 19) (zA z 22) (nI K) nr = moz z nr K from rfl]
        simp only [br_y hc]
theorem priceOf_e {N nr K : Nat} {z : Hp} (hN : 6000 ≤ N) (hS : Sh z) (hmk : I_mk z nr) (hK : K ≤ 200) : fX7_priceOf N 6 (nI K + (-1)) z = some (prS (moz z nr) (mwz z nr) K) := by
  have h : ¬ (199 : Int32) < nI K + (-1) := by
    rcases Nat.eq_zero_or_pos K with rfl | hp
    · decide
    · obtain ⟨j, rfl⟩ : ∃ j, K = j + 1 := ⟨K - 1, by omega⟩
      rw [pk_m1, show (199 : Int32) = nI 199 from rfl, nI_ltI (by decide) (by omega)]; omega
  unfold fX7_priceOf
  rw [if_neg h, bd_e]
  exact priceOf_l hS hmk K hK N (by omega)
theorem pin_e {N nr : Nat} {v : Int32} {z : Hp} (hN : 6000 ≤ N) (hS : Sh z) (e : zF z 711 17 = nI nr) (hr : nr ≤ 200) :
    wh (fun (u : Int64 × Int64 × Int32) => fX12_priceIn_14 N 17 v u.1 u.2.1 u.2.2 z) N ((0 : Int64), (0 : Int64), (0 : Int32)) = some (if 0 < mkO (zA z 18) (zA z 19) (zA z 22) v nr then .inr (mkW (zA z 18) (zA z 19) (zA z 22) (zA z 23) v nr / mkO (zA z 18) (zA z 19) (zA z 22) v nr).toInt32 else .inl (v + (-1))) := by
  have key := wh_seq (f := fun (u : Int64 × Int64 × Int32) => fX12_priceIn_14 N 17 v u.1 u.2.1 u.2.2 z) (r := (if 0 < mkO (zA z 18) (zA z 19) (zA z 22) v nr then .inr (mkW (zA z 18) (zA z 19) (zA z 22) (zA z 23) v nr / mkO (zA z 18) (zA z 19) (zA z 22) v nr).toInt32 else .inl (v + (-1)) : Int32 ⊕ Int32)) (fun i => (mkW (zA z 18) (zA z 19) (zA z 22) (zA z 23) v i, mkO (zA z 18) (zA z 19) (zA z 22) v i, nI i)) nr 0 ?_ ?_ N (by omega)
  · exact key
  · intro j _ hj
    have hj' : j < nr := by omega
    have h1 : ¬ nI nr ≤ nI j := nI_ge hj' (by omega)
    simp only [fX12_priceIn_14, fX12_priceIn_78, gdT, brTr, brFa, br_00, br_10, bd_e, bo_s, bp_s, cs_s, cs_n, lf_s, o0 hS, o1 hS, o2 hS, o3 hS, o4 hS, o5 hS, o6 hS, o7 hS, o8 hS, o9 hS, o10 hS, o11 hS, o12 hS, o13 hS, o14 hS, o15 hS, o16 hS, o17 hS, o18 hS, o19 hS, o20 hS, o21 hS, o22 hS, o23 hS, o24 hS, o25 hS, o26 hS, o27 hS, o28 hS, o29 hS, o30 hS, o31 hS, o32 hS, o33 hS, o34 hS, o35 hS, o36 hS, o37 hS, o38 hS, o39 hS, o40 hS, o41 hS, o42 hS, o43 hS, o44 hS, o45 hS, o46 hS, o47 hS, l2 hS, l3 hS, l4 hS, l5 hS, l7 hS, l8 hS, l10 hS, l12 hS, l14 hS, l15 hS, l16 hS, l18 hS, l19 hS, l20 hS, l21 hS, l22 hS, l23 hS, l24 hS, l25 hS, l26 hS, l27 hS, l28 hS, l29 hS, l30 hS, l31 hS, l32 hS, l33 hS, l34 hS, l35 hS, l36 hS, l37 hS, l38 hS, l39 hS, l40 hS, l41 hS, l42 hS, l43 hS, l44 hS, l45 hS, l46 hS, l47 hS, g640 hS, g641 hS, g642 hS, g643 hS, g644 hS, g645 hS, g128 hS, g129 hS, g130 hS, g131 hS, g384 hS, g385 hS, g256 hS, g576 hS, g192 hS, g193 hS, g707 hS, g708 hS, g709 hS, g710 hS, g712 hS, g713 hS, g714 hS, g715 hS, g716 hS, g720 hS, g721 hS, g722 hS, g723 hS, g724 hS, g725 hS, g726 hS, g728 hS, g729 hS, g730 hS, g731 hS, g732 hS, g733 hS, g734 hS, g735 hS, g736 hS, g737 hS, g738 hS, g740 hS, g751 hS, g752 hS, e, br_n h1, inb (show j < 200 by omega) (by decide), nI_clamp (show j < 2 ^ 31 by omega), mkO, mkW]
    by_cases c1 : zA z 18 j = 1
    · by_cases c2 : zA z 19 j = v
      · simp only [br_y c1, br_y c2, if_pos (And.intro c1 c2), nI_1]
      · simp only [br_y c1, br_n c2, if_neg (fun q : zA z 18 j = 1 ∧ zA z 19 j = v => c2 q.2), nI_1]
    · simp only [br_n c1, if_neg (fun q : zA z 18 j = 1 ∧ zA z 19 j = v => c1 q.1), nI_1]
  · simp only [fX12_priceIn_14, gdT, brTr, brFa, br_00, br_10, bd_e, bo_s, bp_s, cs_s, cs_n, lf_s, o0 hS, o1 hS, o2 hS, o3 hS, o4 hS, o5 hS, o6 hS, o7 hS, o8 hS, o9 hS, o10 hS, o11 hS, o12 hS, o13 hS, o14 hS, o15 hS, o16 hS, o17 hS, o18 hS, o19 hS, o20 hS, o21 hS, o22 hS, o23 hS, o24 hS, o25 hS, o26 hS, o27 hS, o28 hS, o29 hS, o30 hS, o31 hS, o32 hS, o33 hS, o34 hS, o35 hS, o36 hS, o37 hS, o38 hS, o39 hS, o40 hS, o41 hS, o42 hS, o43 hS, o44 hS, o45 hS, o46 hS, o47 hS, l2 hS, l3 hS, l4 hS, l5 hS, l7 hS, l8 hS, l10 hS, l12 hS, l14 hS, l15 hS, l16 hS, l18 hS, l19 hS, l20 hS, l21 hS, l22 hS, l23 hS, l24 hS, l25 hS, l26 hS, l27 hS, l28 hS, l29 hS, l30 hS, l31 hS, l32 hS, l33 hS, l34 hS, l35 hS, l36 hS, l37 hS, l38 hS, l39 hS, l40 hS, l41 hS, l42 hS, l43 hS, l44 hS, l45 hS, l46 hS, l47 hS, g640 hS, g641 hS, g642 hS, g643 hS, g644 hS, g645 hS, g128 hS, g129 hS, g130 hS, g131 hS, g384 hS, g385 hS, g256 hS, g576 hS, g192 hS, g193 hS, g707 hS, g708 hS, g709 hS, g710 hS, g712 hS, g713 hS, g714 hS, g715 hS, g716 hS, g720 hS, g721 hS, g722 hS, g723 hS, g724 hS, g725 hS, g726 hS, g728 hS, g729 hS, g730 hS, g731 hS, g732 hS, g733 hS, g734 hS, g735 hS, g736 hS, g737 hS, g738 hS, g740 hS, g751 hS, g752 hS, e, Nat.zero_add, br_y (Int32.le_refl (nI nr))]
    by_cases c : 0 < mkO (zA z 18) (zA z 19) (zA z 22) v nr
    · have hc : ¬ lg_cmp (mkO (zA z 18) (zA z 19) (zA z 22) v nr) 0 ≤ 0 := by rw [lg_cmp_le]; exact Int64.not_le.mpr c
      have hd : (¬ mkO (zA z 18) (zA z 19) (zA z 22) v nr = 0) = True := eq_true (fun q => by rw [q] at c; exact absurd c (by decide))
      simp only [br_n hc, hd, gdT, brTr, brFa, br_00, br_10, bd_e, bo_s, bp_s, cs_s, cs_n, lf_s, if_pos c]
    · have hc : lg_cmp (mkO (zA z 18) (zA z 19) (zA z 22) v nr) 0 ≤ 0 := by rw [lg_cmp_le]; exact Int64.not_lt.mp c
      simp only [br_y hc, gdT, brTr, brFa, br_00, br_10, bd_e, bo_s, bp_s, cs_s, cs_n, lf_s, if_neg c]
theorem priceIn_l {N nr : Nat} {z : Hp} (hN : 6000 ≤ N) (hS : Sh z) (e : zF z 711 17 = nI nr) (hr : nr ≤ 200) : ∀ K, K ≤ 200 → ∀ M, K < M → wh (fun (u : Int32) => fX12_priceIn_2 N 17 u z) M (nI K + (-1)) = some (prS (moz z nr) (mwz z nr) K) := by
  intro K
  induction K with
  | zero =>
    intro _ M hM
    obtain ⟨M', rfl⟩ : ∃ M', M = M' + 1 := ⟨M - 1, by omega⟩
    have h0 : nI 0 + (-1) < 0 := by decide
    exact wh_out (by simp only [fX12_priceIn_2, br_y h0, lf_s, prS])
  | succ K ih =>
    intro hK M hM
    obtain ⟨M', rfl⟩ : ∃ M', M = M' + 1 := ⟨M - 1, by omega⟩
    rw [pk_m1]
    have h0 : ¬ nI K < 0 := nI_pos (by omega)
    by_cases c : 0 < moz z nr K
    · have c' : 0 < mkO (zA z 18) (zA z 19) (zA z 22) (nI K) nr := c
      exact wh_out (by simp only [fX12_priceIn_2, br_n h0, pin_e hN hS e hr]; rw [if_pos c']; simp only [prS, if_pos c]; rfl)
    · have c' : ¬ 0 < mkO (zA z 18) (zA z 19) (zA z 22) (nI K) nr := c
      rw [wh_in (s' := nI K + (-1)) (by simp only [fX12_priceIn_2, br_n h0, pin_e hN hS e hr]; rw [if_neg c']), ih (by omega) M' (by omega)]
      simp only [prS, if_neg c]
theorem priceIn_e {N nr K : Nat} {z : Hp} (hN : 6000 ≤ N) (hS : Sh z) (e : zF z 711 17 = nI nr) (hr : nr ≤ 200) (hK : K ≤ 200) : fX12_priceIn N 17 (nI K + (-1)) z = some (prS (moz z nr) (mwz z nr) K) := priceIn_l hN hS e hr K hK N (by omega)
theorem m1_rng {x : Int32} {w : Nat} (hw : w < 2 ^ 30) (h : ¬ (x < -1 ∨ nI w < x)) : ∃ K, K ≤ w + 1 ∧ x = nI K + (-1) := by
  have h1 : ¬ x < -1 := fun q => h (Or.inl q)
  have h2 : ¬ nI w < x := fun q => h (Or.inr q)
  by_cases h0 : x < 0
  · refine ⟨0, by omega, ?_⟩
    rw [Int32.lt_iff_toInt_lt] at h0 h1
    apply Int32.toInt_inj.mp
    rw [show (nI 0 + (-1)).toInt = -1 by decide]
    rw [show (-1 : Int32).toInt = -1 by decide] at h1
    rw [show (0 : Int32).toInt = 0 by decide] at h0
    omega
  · obtain ⟨j, hj, rfl⟩ := nI_of h0
    refine ⟨j + 1, ?_, (pk_m1 j).symm⟩
    rw [nI_ltI (by omega) hj] at h2
    omega
theorem op_price (N : Nat) (hN : 6000 ≤ N) : Op_price N Inv := by
  intro z a1 hI
  obtain ⟨hS, hsc, hst, w, h, nb, nr, ng, gv, nt, nh, hn, hhv, hrec, hbk, hgr, hgf, hmk, htx, htn⟩ := id hI
  have hw := weekNow_e (N := N) hS hn
  obtain ⟨⟨n1, n2, n3, n4, n5⟩, -, ⟨n9, n10, n11⟩, -⟩ := id hn
  by_cases ho : a1 < -1 ∨ nI w < a1
  · exact ⟨-1, by simp only [fX11_price, gdT, brTr, brFa, br_00, br_10, bd_e, bo_s, bp_s, cs_s, cs_n, lf_s, o0 hS, o1 hS, o2 hS, o3 hS, o4 hS, o5 hS, o6 hS, o7 hS, o8 hS, o9 hS, o10 hS, o11 hS, o12 hS, o13 hS, o14 hS, o15 hS, o16 hS, o17 hS, o18 hS, o19 hS, o20 hS, o21 hS, o22 hS, o23 hS, o24 hS, o25 hS, o26 hS, o27 hS, o28 hS, o29 hS, o30 hS, o31 hS, o32 hS, o33 hS, o34 hS, o35 hS, o36 hS, o37 hS, o38 hS, o39 hS, o40 hS, o41 hS, o42 hS, o43 hS, o44 hS, o45 hS, o46 hS, o47 hS, l2 hS, l3 hS, l4 hS, l5 hS, l7 hS, l8 hS, l10 hS, l12 hS, l14 hS, l15 hS, l16 hS, l18 hS, l19 hS, l20 hS, l21 hS, l22 hS, l23 hS, l24 hS, l25 hS, l26 hS, l27 hS, l28 hS, l29 hS, l30 hS, l31 hS, l32 hS, l33 hS, l34 hS, l35 hS, l36 hS, l37 hS, l38 hS, l39 hS, l40 hS, l41 hS, l42 hS, l43 hS, l44 hS, l45 hS, l46 hS, l47 hS, g640 hS, g641 hS, g642 hS, g643 hS, g644 hS, g645 hS, g128 hS, g129 hS, g130 hS, g131 hS, g384 hS, g385 hS, g256 hS, g576 hS, g192 hS, g193 hS, g707 hS, g708 hS, g709 hS, g710 hS, g712 hS, g713 hS, g714 hS, g715 hS, g716 hS, g720 hS, g721 hS, g722 hS, g723 hS, g724 hS, g725 hS, g726 hS, g728 hS, g729 hS, g730 hS, g731 hS, g732 hS, g733 hS, g734 hS, g735 hS, g736 hS, g737 hS, g738 hS, g740 hS, g751 hS, g752 hS, hw, out_1 ho], by simp only [fX12_price, gdT, brTr, brFa, br_00, br_10, bd_e, bo_s, bp_s, cs_s, cs_n, lf_s, o0 hS, o1 hS, o2 hS, o3 hS, o4 hS, o5 hS, o6 hS, o7 hS, o8 hS, o9 hS, o10 hS, o11 hS, o12 hS, o13 hS, o14 hS, o15 hS, o16 hS, o17 hS, o18 hS, o19 hS, o20 hS, o21 hS, o22 hS, o23 hS, o24 hS, o25 hS, o26 hS, o27 hS, o28 hS, o29 hS, o30 hS, o31 hS, o32 hS, o33 hS, o34 hS, o35 hS, o36 hS, o37 hS, o38 hS, o39 hS, o40 hS, o41 hS, o42 hS, o43 hS, o44 hS, o45 hS, o46 hS, o47 hS, l2 hS, l3 hS, l4 hS, l5 hS, l7 hS, l8 hS, l10 hS, l12 hS, l14 hS, l15 hS, l16 hS, l18 hS, l19 hS, l20 hS, l21 hS, l22 hS, l23 hS, l24 hS, l25 hS, l26 hS, l27 hS, l28 hS, l29 hS, l30 hS, l31 hS, l32 hS, l33 hS, l34 hS, l35 hS, l36 hS, l37 hS, l38 hS, l39 hS, l40 hS, l41 hS, l42 hS, l43 hS, l44 hS, l45 hS, l46 hS, l47 hS, g640 hS, g641 hS, g642 hS, g643 hS, g644 hS, g645 hS, g128 hS, g129 hS, g130 hS, g131 hS, g384 hS, g385 hS, g256 hS, g576 hS, g192 hS, g193 hS, g707 hS, g708 hS, g709 hS, g710 hS, g712 hS, g713 hS, g714 hS, g715 hS, g716 hS, g720 hS, g721 hS, g722 hS, g723 hS, g724 hS, g725 hS, g726 hS, g728 hS, g729 hS, g730 hS, g731 hS, g732 hS, g733 hS, g734 hS, g735 hS, g736 hS, g737 hS, g738 hS, g740 hS, g751 hS, g752 hS, n1, in_0 (A := -1) (a := -1) (b := nI w) rfl rfl ho]⟩
  · obtain ⟨K, hK, rfl⟩ := m1_rng (by omega) ho
    exact ⟨prS (moz z nr) (mwz z nr) K, by simp only [fX11_price, gdT, brTr, brFa, br_00, br_10, bd_e, bo_s, bp_s, cs_s, cs_n, lf_s, o0 hS, o1 hS, o2 hS, o3 hS, o4 hS, o5 hS, o6 hS, o7 hS, o8 hS, o9 hS, o10 hS, o11 hS, o12 hS, o13 hS, o14 hS, o15 hS, o16 hS, o17 hS, o18 hS, o19 hS, o20 hS, o21 hS, o22 hS, o23 hS, o24 hS, o25 hS, o26 hS, o27 hS, o28 hS, o29 hS, o30 hS, o31 hS, o32 hS, o33 hS, o34 hS, o35 hS, o36 hS, o37 hS, o38 hS, o39 hS, o40 hS, o41 hS, o42 hS, o43 hS, o44 hS, o45 hS, o46 hS, o47 hS, l2 hS, l3 hS, l4 hS, l5 hS, l7 hS, l8 hS, l10 hS, l12 hS, l14 hS, l15 hS, l16 hS, l18 hS, l19 hS, l20 hS, l21 hS, l22 hS, l23 hS, l24 hS, l25 hS, l26 hS, l27 hS, l28 hS, l29 hS, l30 hS, l31 hS, l32 hS, l33 hS, l34 hS, l35 hS, l36 hS, l37 hS, l38 hS, l39 hS, l40 hS, l41 hS, l42 hS, l43 hS, l44 hS, l45 hS, l46 hS, l47 hS, g640 hS, g641 hS, g642 hS, g643 hS, g644 hS, g645 hS, g128 hS, g129 hS, g130 hS, g131 hS, g384 hS, g385 hS, g256 hS, g576 hS, g192 hS, g193 hS, g707 hS, g708 hS, g709 hS, g710 hS, g712 hS, g713 hS, g714 hS, g715 hS, g716 hS, g720 hS, g721 hS, g722 hS, g723 hS, g724 hS, g725 hS, g726 hS, g728 hS, g729 hS, g730 hS, g731 hS, g732 hS, g733 hS, g734 hS, g735 hS, g736 hS, g737 hS, g738 hS, g740 hS, g751 hS, g752 hS, hw, out_0 ho, priceOf_e hN hS hmk (show K ≤ 200 by omega)], by simp only [fX12_price, gdT, brTr, brFa, br_00, br_10, bd_e, bo_s, bp_s, cs_s, cs_n, lf_s, o0 hS, o1 hS, o2 hS, o3 hS, o4 hS, o5 hS, o6 hS, o7 hS, o8 hS, o9 hS, o10 hS, o11 hS, o12 hS, o13 hS, o14 hS, o15 hS, o16 hS, o17 hS, o18 hS, o19 hS, o20 hS, o21 hS, o22 hS, o23 hS, o24 hS, o25 hS, o26 hS, o27 hS, o28 hS, o29 hS, o30 hS, o31 hS, o32 hS, o33 hS, o34 hS, o35 hS, o36 hS, o37 hS, o38 hS, o39 hS, o40 hS, o41 hS, o42 hS, o43 hS, o44 hS, o45 hS, o46 hS, o47 hS, l2 hS, l3 hS, l4 hS, l5 hS, l7 hS, l8 hS, l10 hS, l12 hS, l14 hS, l15 hS, l16 hS, l18 hS, l19 hS, l20 hS, l21 hS, l22 hS, l23 hS, l24 hS, l25 hS, l26 hS, l27 hS, l28 hS, l29 hS, l30 hS, l31 hS, l32 hS, l33 hS, l34 hS, l35 hS, l36 hS, l37 hS, l38 hS, l39 hS, l40 hS, l41 hS, l42 hS, l43 hS, l44 hS, l45 hS, l46 hS, l47 hS, g640 hS, g641 hS, g642 hS, g643 hS, g644 hS, g645 hS, g128 hS, g129 hS, g130 hS, g131 hS, g384 hS, g385 hS, g256 hS, g576 hS, g192 hS, g193 hS, g707 hS, g708 hS, g709 hS, g710 hS, g712 hS, g713 hS, g714 hS, g715 hS, g716 hS, g720 hS, g721 hS, g722 hS, g723 hS, g724 hS, g725 hS, g726 hS, g728 hS, g729 hS, g730 hS, g731 hS, g732 hS, g733 hS, g734 hS, g735 hS, g736 hS, g737 hS, g738 hS, g740 hS, g751 hS, g752 hS, n1, in_1 (A := -1) (a := -1) (b := nI w) rfl rfl ho, priceIn_e hN hS n9 n11 (show K ≤ 200 by omega)]⟩
-- TEXTS
def txB (A : Nat → Int32) (w : Int32) : Nat → Option Nat
  | 0 => none
  | t + 1 => if w < A t then txB A w t else match txB A w t with
    | none => some t
    | some b => if A t < A b then some b else some t
theorem txB_lt {A : Nat → Int32} {w : Int32} : ∀ {t b : Nat}, txB A w t = some b → b < t
  | 0, b, h => by cases h
  | t + 1, b, h => by
    unfold txB at h
    split at h
    · exact Nat.lt_succ_of_lt (txB_lt h)
    · split at h
      · cases h; omega
      · rename_i b' hb'
        split at h
        · cases h; exact Nat.lt_succ_of_lt (txB_lt hb')
        · cases h; omega
def encT (d : Int32) (f : Nat → Int32) : Option Nat → Int32
  | none => d
  | some b => f b
theorem textIn_e {N nt : Nat} {w : Int32} {z : Hp} (hN : 6000 ≤ N) (hS : Sh z) (e : zF z 739 17 = nI nt) (ht : nt ≤ 6) : fX12_textIn N 17 w z = some (encT (-6) nI (txB (zA z 39) w nt)) := by
  have key := wh_seq (f := fun (u : Int32 × Int32) => fX12_textIn_5 N 17 w u.1 u.2 z) (r := encT (-6) nI (txB (zA z 39) w nt)) (fun i => (encT (-6) nI (txB (zA z 39) w i), nI i)) nt 0 ?_ ?_ N (by omega)
  · exact key
  · intro j _ hj
    have hj' : j < nt := by omega
    have h1 : ¬ nI nt ≤ nI j := nI_ge hj' (by omega)
    simp only [fX12_textIn_5, fX12_textIn_42, fX12_textIn_44, gdT, brTr, brFa, br_00, br_10, bd_e, bo_s, bp_s, cs_s, cs_n, lf_s, o0 hS, o1 hS, o2 hS, o3 hS, o4 hS, o5 hS, o6 hS, o7 hS, o8 hS, o9 hS, o10 hS, o11 hS, o12 hS, o13 hS, o14 hS, o15 hS, o16 hS, o17 hS, o18 hS, o19 hS, o20 hS, o21 hS, o22 hS, o23 hS, o24 hS, o25 hS, o26 hS, o27 hS, o28 hS, o29 hS, o30 hS, o31 hS, o32 hS, o33 hS, o34 hS, o35 hS, o36 hS, o37 hS, o38 hS, o39 hS, o40 hS, o41 hS, o42 hS, o43 hS, o44 hS, o45 hS, o46 hS, o47 hS, l2 hS, l3 hS, l4 hS, l5 hS, l7 hS, l8 hS, l10 hS, l12 hS, l14 hS, l15 hS, l16 hS, l18 hS, l19 hS, l20 hS, l21 hS, l22 hS, l23 hS, l24 hS, l25 hS, l26 hS, l27 hS, l28 hS, l29 hS, l30 hS, l31 hS, l32 hS, l33 hS, l34 hS, l35 hS, l36 hS, l37 hS, l38 hS, l39 hS, l40 hS, l41 hS, l42 hS, l43 hS, l44 hS, l45 hS, l46 hS, l47 hS, g640 hS, g641 hS, g642 hS, g643 hS, g644 hS, g645 hS, g128 hS, g129 hS, g130 hS, g131 hS, g384 hS, g385 hS, g256 hS, g576 hS, g192 hS, g193 hS, g707 hS, g708 hS, g709 hS, g710 hS, g712 hS, g713 hS, g714 hS, g715 hS, g716 hS, g720 hS, g721 hS, g722 hS, g723 hS, g724 hS, g725 hS, g726 hS, g728 hS, g729 hS, g730 hS, g731 hS, g732 hS, g733 hS, g734 hS, g735 hS, g736 hS, g737 hS, g738 hS, g740 hS, g751 hS, g752 hS, e, br_n h1, inb (show j < 6 by omega) (by decide), nI_clamp (show j < 2 ^ 31 by omega), txB]
    by_cases c1 : w < zA z 39 j
    · simp only [br_y c1, if_pos c1, nI_1]
    · simp only [br_n c1, if_neg c1]
      cases hb : txB (zA z 39) w j with
      | none => simp only [encT, br_y (show (-6 : Int32) < 0 by decide), nI_1]
      | some b =>
        have hbl := txB_lt hb
        simp only [encT, br_n (show ¬ nI b < 0 from nI_pos (by omega)), inb (show b < 6 by omega) (by decide), nI_clamp (show b < 2 ^ 31 by omega), gdT, brTr, brFa, br_00, br_10, bd_e, bo_s, bp_s, cs_s, cs_n, lf_s]
        by_cases c2 : zA z 39 j < zA z 39 b
        · simp only [br_y c2, if_pos c2, nI_1]
        · simp only [br_n c2, if_neg c2, nI_1]
  · simp only [fX12_textIn_5, gdT, brTr, brFa, br_00, br_10, bd_e, bo_s, bp_s, cs_s, cs_n, lf_s, o0 hS, o1 hS, o2 hS, o3 hS, o4 hS, o5 hS, o6 hS, o7 hS, o8 hS, o9 hS, o10 hS, o11 hS, o12 hS, o13 hS, o14 hS, o15 hS, o16 hS, o17 hS, o18 hS, o19 hS, o20 hS, o21 hS, o22 hS, o23 hS, o24 hS, o25 hS, o26 hS, o27 hS, o28 hS, o29 hS, o30 hS, o31 hS, o32 hS, o33 hS, o34 hS, o35 hS, o36 hS, o37 hS, o38 hS, o39 hS, o40 hS, o41 hS, o42 hS, o43 hS, o44 hS, o45 hS, o46 hS, o47 hS, l2 hS, l3 hS, l4 hS, l5 hS, l7 hS, l8 hS, l10 hS, l12 hS, l14 hS, l15 hS, l16 hS, l18 hS, l19 hS, l20 hS, l21 hS, l22 hS, l23 hS, l24 hS, l25 hS, l26 hS, l27 hS, l28 hS, l29 hS, l30 hS, l31 hS, l32 hS, l33 hS, l34 hS, l35 hS, l36 hS, l37 hS, l38 hS, l39 hS, l40 hS, l41 hS, l42 hS, l43 hS, l44 hS, l45 hS, l46 hS, l47 hS, g640 hS, g641 hS, g642 hS, g643 hS, g644 hS, g645 hS, g128 hS, g129 hS, g130 hS, g131 hS, g384 hS, g385 hS, g256 hS, g576 hS, g192 hS, g193 hS, g707 hS, g708 hS, g709 hS, g710 hS, g712 hS, g713 hS, g714 hS, g715 hS, g716 hS, g720 hS, g721 hS, g722 hS, g723 hS, g724 hS, g725 hS, g726 hS, g728 hS, g729 hS, g730 hS, g731 hS, g732 hS, g733 hS, g734 hS, g735 hS, g736 hS, g737 hS, g738 hS, g740 hS, g751 hS, g752 hS, e, Nat.zero_add, br_y (Int32.le_refl (nI nt))]
def tAd (z : Hp) : Option Nat → Option Nat
  | none => none
  | some b => zR z 10 b
theorem ruling_e {N nt : Nat} {w : Int32} {z : Hp} (hN : 6000 ≤ N) (hS : Sh z) (e : zF z 257 9 = nI nt) (ht : nt ≤ 6) (htx : I_tx z nt) : fX5_ruling N 9 w z = some (tAd z (txB (zA z 39) w nt)) := by
  have key := wh_seq (f := fun (u : (Option Nat) × Int32) => fX5_ruling_4 N 9 w u.1 u.2 z) (r := tAd z (txB (zA z 39) w nt)) (fun i => (tAd z (txB (zA z 39) w i), nI i)) nt 0 ?_ ?_ N (by omega)
  · exact key
  · intro j _ hj
    have hj' : j < nt := by omega
    have h1 : ¬ nI nt ≤ nI j := nI_ge hj' (by omega)
    obtain ⟨a, ea, ha⟩ := htx.1 j hj'
    have g1 : (a < zn z ∧ zK z a = 8) = True := okE (by have := ha.2.1; omega) ha.2.2.1.1
    have ew : zF z 513 a = zA z 39 j := ha.2.2.2.2.2.2.1
    simp only [fX5_ruling_4, fX5_ruling_50, fX5_ruling_53, gdT, brTr, brFa, br_00, br_10, bd_e, bo_s, bp_s, cs_s, cs_n, lf_s, o0 hS, o1 hS, o2 hS, o3 hS, o4 hS, o5 hS, o6 hS, o7 hS, o8 hS, o9 hS, o10 hS, o11 hS, o12 hS, o13 hS, o14 hS, o15 hS, o16 hS, o17 hS, o18 hS, o19 hS, o20 hS, o21 hS, o22 hS, o23 hS, o24 hS, o25 hS, o26 hS, o27 hS, o28 hS, o29 hS, o30 hS, o31 hS, o32 hS, o33 hS, o34 hS, o35 hS, o36 hS, o37 hS, o38 hS, o39 hS, o40 hS, o41 hS, o42 hS, o43 hS, o44 hS, o45 hS, o46 hS, o47 hS, l2 hS, l3 hS, l4 hS, l5 hS, l7 hS, l8 hS, l10 hS, l12 hS, l14 hS, l15 hS, l16 hS, l18 hS, l19 hS, l20 hS, l21 hS, l22 hS, l23 hS, l24 hS, l25 hS, l26 hS, l27 hS, l28 hS, l29 hS, l30 hS, l31 hS, l32 hS, l33 hS, l34 hS, l35 hS, l36 hS, l37 hS, l38 hS, l39 hS, l40 hS, l41 hS, l42 hS, l43 hS, l44 hS, l45 hS, l46 hS, l47 hS, g640 hS, g641 hS, g642 hS, g643 hS, g644 hS, g645 hS, g128 hS, g129 hS, g130 hS, g131 hS, g384 hS, g385 hS, g256 hS, g576 hS, g192 hS, g193 hS, g707 hS, g708 hS, g709 hS, g710 hS, g712 hS, g713 hS, g714 hS, g715 hS, g716 hS, g720 hS, g721 hS, g722 hS, g723 hS, g724 hS, g725 hS, g726 hS, g728 hS, g729 hS, g730 hS, g731 hS, g732 hS, g733 hS, g734 hS, g735 hS, g736 hS, g737 hS, g738 hS, g740 hS, g751 hS, g752 hS, e, br_n h1, inb (show j < 6 by omega) (by decide), nI_clamp (show j < 2 ^ 31 by omega), ea, g1, ew, txB]
    by_cases c1 : w < zA z 39 j
    · simp only [br_y c1, if_pos c1, nI_1]
    · simp only [br_n c1, if_neg c1]
      cases hb : txB (zA z 39) w j with
      | none => simp only [tAd, gdT, brTr, brFa, br_00, br_10, bd_e, bo_s, bp_s, cs_s, cs_n, lf_s, nI_1, ea]
      | some b =>
        have hbl := txB_lt hb
        obtain ⟨a', ea', ha'⟩ := htx.1 b (by omega)
        have g2 : (a' < zn z ∧ zK z a' = 8) = True := okE (by have := ha'.2.1; omega) ha'.2.2.1.1
        have ew' : zF z 513 a' = zA z 39 b := ha'.2.2.2.2.2.2.1
        simp only [tAd, ea', gdT, brTr, brFa, br_00, br_10, bd_e, bo_s, bp_s, cs_s, cs_n, lf_s, g2, ew']
        by_cases c2 : zA z 39 j < zA z 39 b
        · simp only [br_y c2, if_pos c2, nI_1, ea']
        · simp only [br_n c2, if_neg c2, nI_1, ea]
  · simp only [fX5_ruling_4, gdT, brTr, brFa, br_00, br_10, bd_e, bo_s, bp_s, cs_s, cs_n, lf_s, o0 hS, o1 hS, o2 hS, o3 hS, o4 hS, o5 hS, o6 hS, o7 hS, o8 hS, o9 hS, o10 hS, o11 hS, o12 hS, o13 hS, o14 hS, o15 hS, o16 hS, o17 hS, o18 hS, o19 hS, o20 hS, o21 hS, o22 hS, o23 hS, o24 hS, o25 hS, o26 hS, o27 hS, o28 hS, o29 hS, o30 hS, o31 hS, o32 hS, o33 hS, o34 hS, o35 hS, o36 hS, o37 hS, o38 hS, o39 hS, o40 hS, o41 hS, o42 hS, o43 hS, o44 hS, o45 hS, o46 hS, o47 hS, l2 hS, l3 hS, l4 hS, l5 hS, l7 hS, l8 hS, l10 hS, l12 hS, l14 hS, l15 hS, l16 hS, l18 hS, l19 hS, l20 hS, l21 hS, l22 hS, l23 hS, l24 hS, l25 hS, l26 hS, l27 hS, l28 hS, l29 hS, l30 hS, l31 hS, l32 hS, l33 hS, l34 hS, l35 hS, l36 hS, l37 hS, l38 hS, l39 hS, l40 hS, l41 hS, l42 hS, l43 hS, l44 hS, l45 hS, l46 hS, l47 hS, g640 hS, g641 hS, g642 hS, g643 hS, g644 hS, g645 hS, g128 hS, g129 hS, g130 hS, g131 hS, g384 hS, g385 hS, g256 hS, g576 hS, g192 hS, g193 hS, g707 hS, g708 hS, g709 hS, g710 hS, g712 hS, g713 hS, g714 hS, g715 hS, g716 hS, g720 hS, g721 hS, g722 hS, g723 hS, g724 hS, g725 hS, g726 hS, g728 hS, g729 hS, g730 hS, g731 hS, g732 hS, g733 hS, g734 hS, g735 hS, g736 hS, g737 hS, g738 hS, g740 hS, g751 hS, g752 hS, e, Nat.zero_add, br_y (Int32.le_refl (nI nt))]
theorem op_inForce (N : Nat) (hN : 6000 ≤ N) : Op_inForce N Inv := by
  intro z a1 hI
  obtain ⟨hS, hsc, hst, w, h, nb, nr, ng, gv, nt, nh, hn, hhv, hrec, hbk, hgr, hgf, hmk, htx, htn⟩ := id hI
  obtain ⟨-, -, -, -, -, ⟨n14, n15, n16⟩, -⟩ := id hn
  by_cases ho : a1 < 0 ∨ 199 < a1
  · exact ⟨-1, by simp only [fX11_inForce, gdT, brTr, brFa, br_00, br_10, bd_e, bo_s, bp_s, cs_s, cs_n, lf_s, out_1 ho], by simp only [fX12_inForce, gdT, brTr, brFa, br_00, br_10, bd_e, bo_s, bp_s, cs_s, cs_n, lf_s, in_0 (A := 0) (B := 199) (a := 0) (b := 199) rfl rfl ho]⟩
  · simp only [fX11_inForce, fX12_inForce, gdT, brTr, brFa, br_00, br_10, bd_e, bo_s, bp_s, cs_s, cs_n, lf_s, o0 hS, o1 hS, o2 hS, o3 hS, o4 hS, o5 hS, o6 hS, o7 hS, o8 hS, o9 hS, o10 hS, o11 hS, o12 hS, o13 hS, o14 hS, o15 hS, o16 hS, o17 hS, o18 hS, o19 hS, o20 hS, o21 hS, o22 hS, o23 hS, o24 hS, o25 hS, o26 hS, o27 hS, o28 hS, o29 hS, o30 hS, o31 hS, o32 hS, o33 hS, o34 hS, o35 hS, o36 hS, o37 hS, o38 hS, o39 hS, o40 hS, o41 hS, o42 hS, o43 hS, o44 hS, o45 hS, o46 hS, o47 hS, l2 hS, l3 hS, l4 hS, l5 hS, l7 hS, l8 hS, l10 hS, l12 hS, l14 hS, l15 hS, l16 hS, l18 hS, l19 hS, l20 hS, l21 hS, l22 hS, l23 hS, l24 hS, l25 hS, l26 hS, l27 hS, l28 hS, l29 hS, l30 hS, l31 hS, l32 hS, l33 hS, l34 hS, l35 hS, l36 hS, l37 hS, l38 hS, l39 hS, l40 hS, l41 hS, l42 hS, l43 hS, l44 hS, l45 hS, l46 hS, l47 hS, g640 hS, g641 hS, g642 hS, g643 hS, g644 hS, g645 hS, g128 hS, g129 hS, g130 hS, g131 hS, g384 hS, g385 hS, g256 hS, g576 hS, g192 hS, g193 hS, g707 hS, g708 hS, g709 hS, g710 hS, g712 hS, g713 hS, g714 hS, g715 hS, g716 hS, g720 hS, g721 hS, g722 hS, g723 hS, g724 hS, g725 hS, g726 hS, g728 hS, g729 hS, g730 hS, g731 hS, g732 hS, g733 hS, g734 hS, g735 hS, g736 hS, g737 hS, g738 hS, g740 hS, g751 hS, g752 hS, out_0 ho, in_1 (A := 0) (B := 199) (a := 0) (b := 199) rfl rfl ho, textIn_e hN hS n14 n16, ruling_e hN hS n15 n16 htx]
    cases hb : txB (zA z 39) a1 nt with
    | none => simp only [tAd, encT, gdT, brTr, brFa, br_00, br_10, bd_e, bo_s, bp_s, cs_s, cs_n, lf_s]; exact ⟨_, rfl, rfl⟩
    | some b =>
      obtain ⟨a, ea, ha⟩ := htx.1 b (txB_lt hb)
      have g1 : (a < zn z ∧ zK z a = 8) = True := okE (by have := ha.2.1; omega) ha.2.2.1.1
      simp only [tAd, encT, gdT, brTr, brFa, br_00, br_10, bd_e, bo_s, bp_s, cs_s, cs_n, lf_s, ea, g1, ha.2.2.2.2.2.1]; exact ⟨_, rfl, rfl⟩
