theorem ouncesAt_e {N t a : Nat} {q : Int32} {z : Hp} (hN : 6000 ≤ N) (ha : txtOf z t a) : ∀ ns, ns ≤ 8 → zA z 44 t = nI ns → (∀ j, j < ns → zA z (a + 2) j = zA z 42 (8 * t + j) ∧ zA z (a + 3) j = zA z 43 (8 * t + j) ∧ (∃ q, zA z 42 (8 * t + j) = nI q ∧ q ≤ 1000) ∧ (∃ o, zA z 43 (8 * t + j) = nI o ∧ 1 ≤ o ∧ o ≤ 1000)) → fX9_ouncesAt N a q z = some (encT 0 (fun b => zA z 43 (8 * t + b)) (txB (fun j => zA z 42 (8 * t + j)) q ns)) := by
  intro ns hns e44 hst
  obtain ⟨a1, a2, ⟨k0, k1, k2, k3⟩, ⟨l1, l2, l3⟩, ⟨g1, g2, g3⟩, f1, f2, f3, f4, -⟩ := ha
  have o0' : (a < zn z ∧ zK z a = 8) = True := okE (by omega) k0
  have o2' : (a + 2 < zn z ∧ zK z (a + 2) = 12) = True := okE (by omega) k2
  have o3' : (a + 3 < zn z ∧ zK z (a + 3) = 12) = True := okE (by omega) k3
  have key := wh_seq (f := fun (u : Int32 × Int32 × Int32) => fX9_ouncesAt_7 N a q u.1 u.2.1 u.2.2 z) (r := encT 0 (fun b => zA z 43 (8 * t + b)) (txB (fun j => zA z 42 (8 * t + j)) q ns)) (fun i => (encT 0 (fun b => zA z 43 (8 * t + b)) (txB (fun j => zA z 42 (8 * t + j)) q i), encT (-1) (fun b => zA z 42 (8 * t + b)) (txB (fun j => zA z 42 (8 * t + j)) q i), nI i)) ns 0 ?_ ?_ N (by omega)
  · exact key
  · intro j _ hj
    have hj' : j < ns := by omega
    have h1 : ¬ nI ns ≤ nI j := nI_ge hj' (by omega)
    obtain ⟨s1, s2, ⟨p, s3, s4⟩, -⟩ := hst j hj'
    simp only [fX9_ouncesAt_7, fX9_ouncesAt_54, gdT, brTr, brFa, br_00, br_10, bd_e, bo_s, bp_s, cs_s, cs_n, lf_s, o0', o2', o3', g2, g3, l2, l3, f4, e44, br_n h1, inb (show j < 8 by omega) (by decide), nI_clamp (show j < 2 ^ 31 by omega), s1, s2, txB]
    by_cases c1 : q < zA z 42 (8 * t + j)
    · simp only [br_y c1, if_pos c1, nI_1]
    · simp only [br_n c1, if_neg c1]
      cases hb : txB (fun j => zA z 42 (8 * t + j)) q j with
      | none =>
        have hc : ¬ zA z 42 (8 * t + j) < (-1 : Int32) := by
          rw [s3, Int32.lt_iff_toInt_lt, nI_toInt (by omega)]
          rw [show (-1 : Int32).toInt = -1 by decide]; omega
        simp only [encT, br_n hc, nI_1]
      | some b =>
        simp only [encT]
        by_cases c2 : zA z 42 (8 * t + j) < zA z 42 (8 * t + b)
        · simp only [br_y c2, if_pos c2, nI_1]
        · simp only [br_n c2, if_neg c2, nI_1]
  · simp only [fX9_ouncesAt_7, gdT, brTr, brFa, br_00, br_10, bd_e, bo_s, bp_s, cs_s, cs_n, lf_s, o0', f4, e44, Nat.zero_add, br_y (Int32.le_refl (nI ns))]
/-- what is due by text t at a price, of kind k -/
def dueV (z : Hp) (t k ns : Nat) (q : Int32) : Int32 := encT 0 (fun b => zA z 43 (8 * t + b) * zA z 40 (3 * t + k) / 100) (txB (fun j => zA z 42 (8 * t + j)) q ns)
theorem loaf_e {N t a k : Nat} {q : Int32} {z : Hp} (hN : 6000 ≤ N) (ha : txtOf z t a) (hk : k < 3) {ns : Nat} (hns : ns ≤ 8) (e44 : zA z 44 t = nI ns) (hst : ∀ j, j < ns → zA z (a + 2) j = zA z 42 (8 * t + j) ∧ zA z (a + 3) j = zA z 43 (8 * t + j) ∧ (∃ q, zA z 42 (8 * t + j) = nI q ∧ q ≤ 1000) ∧ (∃ o, zA z 43 (8 * t + j) = nI o ∧ 1 ≤ o ∧ o ≤ 1000)) : fX9_loaf N a (nI k) q z = some (dueV z t k ns q) := by
  have hoz := ouncesAt_e (q := q) hN ha ns hns e44 hst
  obtain ⟨a1, a2, ⟨k0, k1, k2, k3⟩, ⟨l1, l2, l3⟩, ⟨g1, g2, g3⟩, f1, f2, f3, f4, -, -, -, hsh⟩ := ha
  have o0' : (a < zn z ∧ zK z a = 8) = True := okE (by omega) k0
  have o1' : (a + 1 < zn z ∧ zK z (a + 1) = 12) = True := okE (by omega) k1
  have h0 : ¬ nI k < 0 := nI_pos (by omega)
  have h1 : nI k < 3 := by rw [show (3 : Int32) = nI 3 from rfl]; exact nI_lt hk (by decide)
  simp only [fX9_loaf_9, fX9_loaf, br_n h0, br_y h1, gdT, brTr, brFa, br_00, br_10, bd_e, bo_s, bp_s, cs_s, cs_n, lf_s, o0', o1', hoz, g1, l1, inb (show k < 3 by omega) (by decide), nI_clamp (show k < 2 ^ 31 by omega), (hsh k hk).1, dueV]
  cases txB (fun j => zA z 42 (8 * t + j)) q ns with
  | none =>
    simp only [encT]
    rw [Int32.zero_mul]
    rfl
  | some b => simp only [encT]
theorem sub_m1 (x : Int32) : x - 1 = x + (-1) := by rw [Int32.sub_eq_add_neg]
/-- DUE of a kind in week ahead of which stand K weeks, by the text in force t -/
def dueT (z : Hp) (nr nt k K : Nat) (w : Int32) : Int32 := encT 0 (fun t => dueV z t k (zA z 44 t).toNatClampNeg (prS (moz z nr) (mwz z nr) K)) (txB (zA z 39) w nt)
theorem dueBy_e {N nr nt k K : Nat} {w x : Int32} {z : Hp} (hN : 6000 ≤ N) (hS : Sh z) (ht : nt ≤ 6) (htx : I_tx z nt) (hmk : I_mk z nr) (hk : k < 3) (hK : K ≤ 200) (hx : x = nI K) : fX11_dueBy N 0 (tAd z (txB (zA z 39) w nt)) (nI k) x z = some (dueT z nr nt k K w) := by
  subst hx
  unfold dueT
  cases hb : txB (zA z 39) w nt with
  | none => simp only [fX11_dueBy, tAd, encT, gdT, brTr, brFa, br_00, br_10, bd_e, bo_s, bp_s, cs_s, cs_n, lf_s]
  | some t =>
    obtain ⟨a, ea, ha⟩ := htx.1 t (txB_lt hb)
    have g1 : (a < zn z ∧ zK z a = 8) = True := okE (by have := ha.2.1; omega) ha.2.2.1.1
    obtain ⟨ns, hns, e44, hst⟩ := ha.2.2.2.2.2.2.2.2.2.2.2.1
    simp only [fX11_dueBy, tAd, encT, gdT, brTr, brFa, br_00, br_10, bd_e, bo_s, bp_s, cs_s, cs_n, lf_s, o0 hS, o1 hS, o2 hS, o3 hS, o4 hS, o5 hS, o6 hS, o7 hS, o8 hS, o9 hS, o10 hS, o11 hS, o12 hS, o13 hS, o14 hS, o15 hS, o16 hS, o17 hS, o18 hS, o19 hS, o20 hS, o21 hS, o22 hS, o23 hS, o24 hS, o25 hS, o26 hS, o27 hS, o28 hS, o29 hS, o30 hS, o31 hS, o32 hS, o33 hS, o34 hS, o35 hS, o36 hS, o37 hS, o38 hS, o39 hS, o40 hS, o41 hS, o42 hS, o43 hS, o44 hS, o45 hS, o46 hS, o47 hS, l2 hS, l3 hS, l4 hS, l5 hS, l7 hS, l8 hS, l10 hS, l12 hS, l14 hS, l15 hS, l16 hS, l18 hS, l19 hS, l20 hS, l21 hS, l22 hS, l23 hS, l24 hS, l25 hS, l26 hS, l27 hS, l28 hS, l29 hS, l30 hS, l31 hS, l32 hS, l33 hS, l34 hS, l35 hS, l36 hS, l37 hS, l38 hS, l39 hS, l40 hS, l41 hS, l42 hS, l43 hS, l44 hS, l45 hS, l46 hS, l47 hS, g640 hS, g641 hS, g642 hS, g643 hS, g644 hS, g645 hS, g128 hS, g129 hS, g130 hS, g131 hS, g384 hS, g385 hS, g256 hS, g576 hS, g192 hS, g193 hS, g707 hS, g708 hS, g709 hS, g710 hS, g712 hS, g713 hS, g714 hS, g715 hS, g716 hS, g720 hS, g721 hS, g722 hS, g723 hS, g724 hS, g725 hS, g726 hS, g728 hS, g729 hS, g730 hS, g731 hS, g732 hS, g733 hS, g734 hS, g735 hS, g736 hS, g737 hS, g738 hS, g740 hS, g751 hS, g752 hS, ea, g1, sub_m1, priceOf_e hN hS hmk hK, loaf_e hN ha hk hns e44 hst]
    rw [e44, nI_clamp (by omega)]
theorem dueIn_e {N nr nt k K : Nat} {w : Int32} {z : Hp} (hN : 6000 ≤ N) (hS : Sh z) (ht : nt ≤ 6) (htx : I_tx z nt) (e739 : zF z 739 17 = nI nt) (e711 : zF z 711 17 = nI nr) (hr : nr ≤ 200) (hk : k < 3) (hK : K ≤ 200) (hx : w = nI K) : fX12_dueIn N 17 (nI k) w z = some (dueT z nr nt k K w) := by
  unfold dueT fX12_dueIn
  simp only [gdT, brTr, brFa, br_00, br_10, bd_e, bo_s, bp_s, cs_s, cs_n, lf_s, o0 hS, o1 hS, o2 hS, o3 hS, o4 hS, o5 hS, o6 hS, o7 hS, o8 hS, o9 hS, o10 hS, o11 hS, o12 hS, o13 hS, o14 hS, o15 hS, o16 hS, o17 hS, o18 hS, o19 hS, o20 hS, o21 hS, o22 hS, o23 hS, o24 hS, o25 hS, o26 hS, o27 hS, o28 hS, o29 hS, o30 hS, o31 hS, o32 hS, o33 hS, o34 hS, o35 hS, o36 hS, o37 hS, o38 hS, o39 hS, o40 hS, o41 hS, o42 hS, o43 hS, o44 hS, o45 hS, o46 hS, o47 hS, l2 hS, l3 hS, l4 hS, l5 hS, l7 hS, l8 hS, l10 hS, l12 hS, l14 hS, l15 hS, l16 hS, l18 hS, l19 hS, l20 hS, l21 hS, l22 hS, l23 hS, l24 hS, l25 hS, l26 hS, l27 hS, l28 hS, l29 hS, l30 hS, l31 hS, l32 hS, l33 hS, l34 hS, l35 hS, l36 hS, l37 hS, l38 hS, l39 hS, l40 hS, l41 hS, l42 hS, l43 hS, l44 hS, l45 hS, l46 hS, l47 hS, g640 hS, g641 hS, g642 hS, g643 hS, g644 hS, g645 hS, g128 hS, g129 hS, g130 hS, g131 hS, g384 hS, g385 hS, g256 hS, g576 hS, g192 hS, g193 hS, g707 hS, g708 hS, g709 hS, g710 hS, g712 hS, g713 hS, g714 hS, g715 hS, g716 hS, g720 hS, g721 hS, g722 hS, g723 hS, g724 hS, g725 hS, g726 hS, g728 hS, g729 hS, g730 hS, g731 hS, g732 hS, g733 hS, g734 hS, g735 hS, g736 hS, g737 hS, g738 hS, g740 hS, g751 hS, g752 hS, textIn_e hN hS e739 ht]
  cases hb : txB (zA z 39) w nt with
  | none => simp only [encT, br_n (show ¬ (0 : Int32) ≤ -6 by decide)]
  | some t =>
    have htl := txB_lt hb
    obtain ⟨a, ea, ha⟩ := htx.1 t htl
    obtain ⟨ns, hns, e44, hst⟩ := ha.2.2.2.2.2.2.2.2.2.2.2.1
    have e8 : (8 : Int32) * nI t = nI (8 * t) := by rw [show (8 : Int32) = nI 8 from rfl, pk_mul]
    have e3 : (3 : Int32) * nI t + nI k = nI (3 * t + k) := by rw [show (3 : Int32) = nI 3 from rfl, pk_mul, nI_add]
    rw [hx, sub_m1]
    simp only [encT, br_y (nI_pos' (show t < 2 ^ 31 by omega)), priceIn_e hN hS e711 hr hK, gdT, brTr, brFa, br_00, br_10, bd_e, bo_s, bp_s, cs_s, cs_n, lf_s, e8]
    generalize prS (moz z nr) (mwz z nr) K = q
    have key := wh_seq (f := fun (u : Int32 × Int32) => fX12_dueIn_30 N 17 (nI k) (nI t) q u.1 u.2 z) (r := dueV z t k ns q) (fun i => (encT (-1) (fun b => nI (8 * t + b)) (txB (fun j => zA z 42 (8 * t + j)) q i), nI (8 * t + i))) ns 0 ?_ ?_ N (by omega)
    · rw [e44, nI_clamp (by omega)]; exact key
    · intro j _ hj
      have hj' : j < ns := by omega
      have h1 : ¬ nI (8 * t + ns) ≤ nI (8 * t + j) := nI_ge (by omega) (by omega)
      simp only [fX12_dueIn_30, fX12_dueIn_80, fX12_dueIn_84, gdT, brTr, brFa, br_00, br_10, bd_e, bo_s, bp_s, cs_s, cs_n, lf_s, o0 hS, o1 hS, o2 hS, o3 hS, o4 hS, o5 hS, o6 hS, o7 hS, o8 hS, o9 hS, o10 hS, o11 hS, o12 hS, o13 hS, o14 hS, o15 hS, o16 hS, o17 hS, o18 hS, o19 hS, o20 hS, o21 hS, o22 hS, o23 hS, o24 hS, o25 hS, o26 hS, o27 hS, o28 hS, o29 hS, o30 hS, o31 hS, o32 hS, o33 hS, o34 hS, o35 hS, o36 hS, o37 hS, o38 hS, o39 hS, o40 hS, o41 hS, o42 hS, o43 hS, o44 hS, o45 hS, o46 hS, o47 hS, l2 hS, l3 hS, l4 hS, l5 hS, l7 hS, l8 hS, l10 hS, l12 hS, l14 hS, l15 hS, l16 hS, l18 hS, l19 hS, l20 hS, l21 hS, l22 hS, l23 hS, l24 hS, l25 hS, l26 hS, l27 hS, l28 hS, l29 hS, l30 hS, l31 hS, l32 hS, l33 hS, l34 hS, l35 hS, l36 hS, l37 hS, l38 hS, l39 hS, l40 hS, l41 hS, l42 hS, l43 hS, l44 hS, l45 hS, l46 hS, l47 hS, g640 hS, g641 hS, g642 hS, g643 hS, g644 hS, g645 hS, g128 hS, g129 hS, g130 hS, g131 hS, g384 hS, g385 hS, g256 hS, g576 hS, g192 hS, g193 hS, g707 hS, g708 hS, g709 hS, g710 hS, g712 hS, g713 hS, g714 hS, g715 hS, g716 hS, g720 hS, g721 hS, g722 hS, g723 hS, g724 hS, g725 hS, g726 hS, g728 hS, g729 hS, g730 hS, g731 hS, g732 hS, g733 hS, g734 hS, g735 hS, g736 hS, g737 hS, g738 hS, g740 hS, g751 hS, g752 hS, inb (show t < 6 by omega) (by decide), nI_clamp (show t < 2 ^ 31 by omega), e44, e8, nI_add, br_n h1, inb (show 8 * t + j < 48 by omega) (by decide), nI_clamp (show 8 * t + j < 2 ^ 31 by omega), txB]
      by_cases c1 : q < zA z 42 (8 * t + j)
      · simp only [br_y c1, if_pos c1, nI_1]; rfl
      · simp only [br_n c1, if_neg c1]
        cases hb2 : txB (fun j => zA z 42 (8 * t + j)) q j with
        | none => simp only [encT, br_y (show (-1 : Int32) < 0 by decide), nI_1]; rfl
        | some b =>
          have hbl := txB_lt hb2
          simp only [encT, br_n (show ¬ nI (8 * t + b) < 0 from nI_pos (by omega)), inb (show 8 * t + b < 48 by omega) (by decide), nI_clamp (show 8 * t + b < 2 ^ 31 by omega), gdT, brTr, brFa, br_00, br_10, bd_e, bo_s, bp_s, cs_s, cs_n, lf_s]
          by_cases c2 : zA z 42 (8 * t + j) < zA z 42 (8 * t + b)
          · simp only [br_y c2, if_pos c2, nI_1]; rfl
          · simp only [br_n c2, if_neg c2, nI_1]; rfl
    · simp only [fX12_dueIn_30, gdT, brTr, brFa, br_00, br_10, bd_e, bo_s, bp_s, cs_s, cs_n, lf_s, o0 hS, o1 hS, o2 hS, o3 hS, o4 hS, o5 hS, o6 hS, o7 hS, o8 hS, o9 hS, o10 hS, o11 hS, o12 hS, o13 hS, o14 hS, o15 hS, o16 hS, o17 hS, o18 hS, o19 hS, o20 hS, o21 hS, o22 hS, o23 hS, o24 hS, o25 hS, o26 hS, o27 hS, o28 hS, o29 hS, o30 hS, o31 hS, o32 hS, o33 hS, o34 hS, o35 hS, o36 hS, o37 hS, o38 hS, o39 hS, o40 hS, o41 hS, o42 hS, o43 hS, o44 hS, o45 hS, o46 hS, o47 hS, l2 hS, l3 hS, l4 hS, l5 hS, l7 hS, l8 hS, l10 hS, l12 hS, l14 hS, l15 hS, l16 hS, l18 hS, l19 hS, l20 hS, l21 hS, l22 hS, l23 hS, l24 hS, l25 hS, l26 hS, l27 hS, l28 hS, l29 hS, l30 hS, l31 hS, l32 hS, l33 hS, l34 hS, l35 hS, l36 hS, l37 hS, l38 hS, l39 hS, l40 hS, l41 hS, l42 hS, l43 hS, l44 hS, l45 hS, l46 hS, l47 hS, g640 hS, g641 hS, g642 hS, g643 hS, g644 hS, g645 hS, g128 hS, g129 hS, g130 hS, g131 hS, g384 hS, g385 hS, g256 hS, g576 hS, g192 hS, g193 hS, g707 hS, g708 hS, g709 hS, g710 hS, g712 hS, g713 hS, g714 hS, g715 hS, g716 hS, g720 hS, g721 hS, g722 hS, g723 hS, g724 hS, g725 hS, g726 hS, g728 hS, g729 hS, g730 hS, g731 hS, g732 hS, g733 hS, g734 hS, g735 hS, g736 hS, g737 hS, g738 hS, g740 hS, g751 hS, g752 hS, inb (show t < 6 by omega) (by decide), nI_clamp (show t < 2 ^ 31 by omega), e44, e8, nI_add, Nat.zero_add, br_y (Int32.le_refl (nI (8 * t + ns)))]
      unfold dueV
      cases hb2 : txB (fun j => zA z 42 (8 * t + j)) q ns with
      | none => simp only [encT, br_n (show ¬ (0 : Int32) ≤ -1 by decide), lf_s]
      | some b =>
        have hbl := txB_lt hb2
        simp only [encT, br_y (nI_pos' (show 8 * t + b < 2 ^ 31 by omega)), inb (show 8 * t + b < 48 by omega) (by decide), nI_clamp (show 8 * t + b < 2 ^ 31 by omega), e3, inb (show 3 * t + k < 18 by omega) (by decide), nI_clamp (show 3 * t + k < 2 ^ 31 by omega), gdT, brTr, brFa, br_00, br_10, bd_e, bo_s, bp_s, cs_s, cs_n, lf_s]
theorem op_due (N : Nat) (hN : 6000 ≤ N) : Op_due N Inv := by
  intro z a1 a2 hI
  obtain ⟨hS, hsc, hst, w, h, nb, nr, ng, gv, nt, nh, hn, hhv, hrec, hbk, hgr, hgf, hmk, htx, htn⟩ := id hI
  have hw := weekNow_e (N := N) hS hn
  obtain ⟨⟨n1, n2, n3, n4, n5⟩, -, ⟨n9, n10, n11⟩, -, -, ⟨n14, n15, n16⟩, -⟩ := id hn
  by_cases ho : a2 < 0 ∨ nI w < a2
  · exact ⟨-1, by simp only [fX11_due, gdT, brTr, brFa, br_00, br_10, bd_e, bo_s, bp_s, cs_s, cs_n, lf_s, o0 hS, o1 hS, o2 hS, o3 hS, o4 hS, o5 hS, o6 hS, o7 hS, o8 hS, o9 hS, o10 hS, o11 hS, o12 hS, o13 hS, o14 hS, o15 hS, o16 hS, o17 hS, o18 hS, o19 hS, o20 hS, o21 hS, o22 hS, o23 hS, o24 hS, o25 hS, o26 hS, o27 hS, o28 hS, o29 hS, o30 hS, o31 hS, o32 hS, o33 hS, o34 hS, o35 hS, o36 hS, o37 hS, o38 hS, o39 hS, o40 hS, o41 hS, o42 hS, o43 hS, o44 hS, o45 hS, o46 hS, o47 hS, l2 hS, l3 hS, l4 hS, l5 hS, l7 hS, l8 hS, l10 hS, l12 hS, l14 hS, l15 hS, l16 hS, l18 hS, l19 hS, l20 hS, l21 hS, l22 hS, l23 hS, l24 hS, l25 hS, l26 hS, l27 hS, l28 hS, l29 hS, l30 hS, l31 hS, l32 hS, l33 hS, l34 hS, l35 hS, l36 hS, l37 hS, l38 hS, l39 hS, l40 hS, l41 hS, l42 hS, l43 hS, l44 hS, l45 hS, l46 hS, l47 hS, g640 hS, g641 hS, g642 hS, g643 hS, g644 hS, g645 hS, g128 hS, g129 hS, g130 hS, g131 hS, g384 hS, g385 hS, g256 hS, g576 hS, g192 hS, g193 hS, g707 hS, g708 hS, g709 hS, g710 hS, g712 hS, g713 hS, g714 hS, g715 hS, g716 hS, g720 hS, g721 hS, g722 hS, g723 hS, g724 hS, g725 hS, g726 hS, g728 hS, g729 hS, g730 hS, g731 hS, g732 hS, g733 hS, g734 hS, g735 hS, g736 hS, g737 hS, g738 hS, g740 hS, g751 hS, g752 hS, hw, out_1 ho], by simp only [fX12_due, gdT, brTr, brFa, br_00, br_10, bd_e, bo_s, bp_s, cs_s, cs_n, lf_s, o0 hS, o1 hS, o2 hS, o3 hS, o4 hS, o5 hS, o6 hS, o7 hS, o8 hS, o9 hS, o10 hS, o11 hS, o12 hS, o13 hS, o14 hS, o15 hS, o16 hS, o17 hS, o18 hS, o19 hS, o20 hS, o21 hS, o22 hS, o23 hS, o24 hS, o25 hS, o26 hS, o27 hS, o28 hS, o29 hS, o30 hS, o31 hS, o32 hS, o33 hS, o34 hS, o35 hS, o36 hS, o37 hS, o38 hS, o39 hS, o40 hS, o41 hS, o42 hS, o43 hS, o44 hS, o45 hS, o46 hS, o47 hS, l2 hS, l3 hS, l4 hS, l5 hS, l7 hS, l8 hS, l10 hS, l12 hS, l14 hS, l15 hS, l16 hS, l18 hS, l19 hS, l20 hS, l21 hS, l22 hS, l23 hS, l24 hS, l25 hS, l26 hS, l27 hS, l28 hS, l29 hS, l30 hS, l31 hS, l32 hS, l33 hS, l34 hS, l35 hS, l36 hS, l37 hS, l38 hS, l39 hS, l40 hS, l41 hS, l42 hS, l43 hS, l44 hS, l45 hS, l46 hS, l47 hS, g640 hS, g641 hS, g642 hS, g643 hS, g644 hS, g645 hS, g128 hS, g129 hS, g130 hS, g131 hS, g384 hS, g385 hS, g256 hS, g576 hS, g192 hS, g193 hS, g707 hS, g708 hS, g709 hS, g710 hS, g712 hS, g713 hS, g714 hS, g715 hS, g716 hS, g720 hS, g721 hS, g722 hS, g723 hS, g724 hS, g725 hS, g726 hS, g728 hS, g729 hS, g730 hS, g731 hS, g732 hS, g733 hS, g734 hS, g735 hS, g736 hS, g737 hS, g738 hS, g740 hS, g751 hS, g752 hS, n1, in_0 (A := 0) (a := 0) (b := nI w) rfl rfl ho]⟩
  · by_cases ho2 : a1 < 0 ∨ 2 < a1
    · exact ⟨-2, by simp only [fX11_due, gdT, brTr, brFa, br_00, br_10, bd_e, bo_s, bp_s, cs_s, cs_n, lf_s, o0 hS, o1 hS, o2 hS, o3 hS, o4 hS, o5 hS, o6 hS, o7 hS, o8 hS, o9 hS, o10 hS, o11 hS, o12 hS, o13 hS, o14 hS, o15 hS, o16 hS, o17 hS, o18 hS, o19 hS, o20 hS, o21 hS, o22 hS, o23 hS, o24 hS, o25 hS, o26 hS, o27 hS, o28 hS, o29 hS, o30 hS, o31 hS, o32 hS, o33 hS, o34 hS, o35 hS, o36 hS, o37 hS, o38 hS, o39 hS, o40 hS, o41 hS, o42 hS, o43 hS, o44 hS, o45 hS, o46 hS, o47 hS, l2 hS, l3 hS, l4 hS, l5 hS, l7 hS, l8 hS, l10 hS, l12 hS, l14 hS, l15 hS, l16 hS, l18 hS, l19 hS, l20 hS, l21 hS, l22 hS, l23 hS, l24 hS, l25 hS, l26 hS, l27 hS, l28 hS, l29 hS, l30 hS, l31 hS, l32 hS, l33 hS, l34 hS, l35 hS, l36 hS, l37 hS, l38 hS, l39 hS, l40 hS, l41 hS, l42 hS, l43 hS, l44 hS, l45 hS, l46 hS, l47 hS, g640 hS, g641 hS, g642 hS, g643 hS, g644 hS, g645 hS, g128 hS, g129 hS, g130 hS, g131 hS, g384 hS, g385 hS, g256 hS, g576 hS, g192 hS, g193 hS, g707 hS, g708 hS, g709 hS, g710 hS, g712 hS, g713 hS, g714 hS, g715 hS, g716 hS, g720 hS, g721 hS, g722 hS, g723 hS, g724 hS, g725 hS, g726 hS, g728 hS, g729 hS, g730 hS, g731 hS, g732 hS, g733 hS, g734 hS, g735 hS, g736 hS, g737 hS, g738 hS, g740 hS, g751 hS, g752 hS, hw, out_0 ho, out_1 ho2], by simp only [fX12_due, gdT, brTr, brFa, br_00, br_10, bd_e, bo_s, bp_s, cs_s, cs_n, lf_s, o0 hS, o1 hS, o2 hS, o3 hS, o4 hS, o5 hS, o6 hS, o7 hS, o8 hS, o9 hS, o10 hS, o11 hS, o12 hS, o13 hS, o14 hS, o15 hS, o16 hS, o17 hS, o18 hS, o19 hS, o20 hS, o21 hS, o22 hS, o23 hS, o24 hS, o25 hS, o26 hS, o27 hS, o28 hS, o29 hS, o30 hS, o31 hS, o32 hS, o33 hS, o34 hS, o35 hS, o36 hS, o37 hS, o38 hS, o39 hS, o40 hS, o41 hS, o42 hS, o43 hS, o44 hS, o45 hS, o46 hS, o47 hS, l2 hS, l3 hS, l4 hS, l5 hS, l7 hS, l8 hS, l10 hS, l12 hS, l14 hS, l15 hS, l16 hS, l18 hS, l19 hS, l20 hS, l21 hS, l22 hS, l23 hS, l24 hS, l25 hS, l26 hS, l27 hS, l28 hS, l29 hS, l30 hS, l31 hS, l32 hS, l33 hS, l34 hS, l35 hS, l36 hS, l37 hS, l38 hS, l39 hS, l40 hS, l41 hS, l42 hS, l43 hS, l44 hS, l45 hS, l46 hS, l47 hS, g640 hS, g641 hS, g642 hS, g643 hS, g644 hS, g645 hS, g128 hS, g129 hS, g130 hS, g131 hS, g384 hS, g385 hS, g256 hS, g576 hS, g192 hS, g193 hS, g707 hS, g708 hS, g709 hS, g710 hS, g712 hS, g713 hS, g714 hS, g715 hS, g716 hS, g720 hS, g721 hS, g722 hS, g723 hS, g724 hS, g725 hS, g726 hS, g728 hS, g729 hS, g730 hS, g731 hS, g732 hS, g733 hS, g734 hS, g735 hS, g736 hS, g737 hS, g738 hS, g740 hS, g751 hS, g752 hS, n1, in_1 (A := 0) (a := 0) (b := nI w) rfl rfl ho, in_0 (A := 0) (B := 2) (a := 0) (b := 2) rfl rfl ho2]⟩
    · obtain ⟨k, rfl, -, hk⟩ := nI_rng (a := 0) (b := 2) (by decide) (by decide) ho2
      obtain ⟨K, e, -, hK⟩ := nI_rng (a := 0) (b := w) (by decide) (nI_toInt (by omega)) ho
      exact ⟨dueT z nr nt k K a2, by simp only [fX11_due, gdT, brTr, brFa, br_00, br_10, bd_e, bo_s, bp_s, cs_s, cs_n, lf_s, o0 hS, o1 hS, o2 hS, o3 hS, o4 hS, o5 hS, o6 hS, o7 hS, o8 hS, o9 hS, o10 hS, o11 hS, o12 hS, o13 hS, o14 hS, o15 hS, o16 hS, o17 hS, o18 hS, o19 hS, o20 hS, o21 hS, o22 hS, o23 hS, o24 hS, o25 hS, o26 hS, o27 hS, o28 hS, o29 hS, o30 hS, o31 hS, o32 hS, o33 hS, o34 hS, o35 hS, o36 hS, o37 hS, o38 hS, o39 hS, o40 hS, o41 hS, o42 hS, o43 hS, o44 hS, o45 hS, o46 hS, o47 hS, l2 hS, l3 hS, l4 hS, l5 hS, l7 hS, l8 hS, l10 hS, l12 hS, l14 hS, l15 hS, l16 hS, l18 hS, l19 hS, l20 hS, l21 hS, l22 hS, l23 hS, l24 hS, l25 hS, l26 hS, l27 hS, l28 hS, l29 hS, l30 hS, l31 hS, l32 hS, l33 hS, l34 hS, l35 hS, l36 hS, l37 hS, l38 hS, l39 hS, l40 hS, l41 hS, l42 hS, l43 hS, l44 hS, l45 hS, l46 hS, l47 hS, g640 hS, g641 hS, g642 hS, g643 hS, g644 hS, g645 hS, g128 hS, g129 hS, g130 hS, g131 hS, g384 hS, g385 hS, g256 hS, g576 hS, g192 hS, g193 hS, g707 hS, g708 hS, g709 hS, g710 hS, g712 hS, g713 hS, g714 hS, g715 hS, g716 hS, g720 hS, g721 hS, g722 hS, g723 hS, g724 hS, g725 hS, g726 hS, g728 hS, g729 hS, g730 hS, g731 hS, g732 hS, g733 hS, g734 hS, g735 hS, g736 hS, g737 hS, g738 hS, g740 hS, g751 hS, g752 hS, hw, out_0 ho, out_0 ho2, ruling_e hN hS n15 n16 htx, dueBy_e (w := a2) hN hS n16 htx hmk (show k < 3 by omega) (show K ≤ 200 by omega) e], by simp only [fX12_due, gdT, brTr, brFa, br_00, br_10, bd_e, bo_s, bp_s, cs_s, cs_n, lf_s, o0 hS, o1 hS, o2 hS, o3 hS, o4 hS, o5 hS, o6 hS, o7 hS, o8 hS, o9 hS, o10 hS, o11 hS, o12 hS, o13 hS, o14 hS, o15 hS, o16 hS, o17 hS, o18 hS, o19 hS, o20 hS, o21 hS, o22 hS, o23 hS, o24 hS, o25 hS, o26 hS, o27 hS, o28 hS, o29 hS, o30 hS, o31 hS, o32 hS, o33 hS, o34 hS, o35 hS, o36 hS, o37 hS, o38 hS, o39 hS, o40 hS, o41 hS, o42 hS, o43 hS, o44 hS, o45 hS, o46 hS, o47 hS, l2 hS, l3 hS, l4 hS, l5 hS, l7 hS, l8 hS, l10 hS, l12 hS, l14 hS, l15 hS, l16 hS, l18 hS, l19 hS, l20 hS, l21 hS, l22 hS, l23 hS, l24 hS, l25 hS, l26 hS, l27 hS, l28 hS, l29 hS, l30 hS, l31 hS, l32 hS, l33 hS, l34 hS, l35 hS, l36 hS, l37 hS, l38 hS, l39 hS, l40 hS, l41 hS, l42 hS, l43 hS, l44 hS, l45 hS, l46 hS, l47 hS, g640 hS, g641 hS, g642 hS, g643 hS, g644 hS, g645 hS, g128 hS, g129 hS, g130 hS, g131 hS, g384 hS, g385 hS, g256 hS, g576 hS, g192 hS, g193 hS, g707 hS, g708 hS, g709 hS, g710 hS, g712 hS, g713 hS, g714 hS, g715 hS, g716 hS, g720 hS, g721 hS, g722 hS, g723 hS, g724 hS, g725 hS, g726 hS, g728 hS, g729 hS, g730 hS, g731 hS, g732 hS, g733 hS, g734 hS, g735 hS, g736 hS, g737 hS, g738 hS, g740 hS, g751 hS, g752 hS, n1, in_1 (A := 0) (a := 0) (b := nI w) rfl rfl ho, in_1 (A := 0) (B := 2) (a := 0) (b := 2) rfl rfl ho2, dueIn_e hN hS n16 htx n14 n9 n11 (show k < 3 by omega) (show K ≤ 200 by omega) e]⟩
