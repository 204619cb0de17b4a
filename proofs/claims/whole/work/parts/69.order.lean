-- ORDER: the greatest ration
theorem nI_n6 {x : Nat} (h : x < 2 ^ 31) : ¬ nI x = -6 := fun e => nI_pos h (by rw [e]; decide)
theorem hunF_none {A B : Nat → Int32} {nh st w d : Nat} : ∀ m i, (hunF A B nh st w d m i = none ↔ ∀ k, k < m → d ≤ caF A B nh st w d (i + k)) := by
  intro m
  induction m with
  | zero => intro i; exact ⟨fun _ k hk => by omega, fun _ => rfl⟩
  | succ m ih =>
    intro i
    simp only [hunF]
    by_cases h : caF A B nh st w d i < d
    · rw [if_pos h]
      constructor
      · intro q
        cases q
      · intro q
        have := q 0 (by omega)
        rw [Nat.add_zero] at this
        omega
    · rw [if_neg h, ih (i + 1)]
      constructor
      · intro q k hk
        rcases Nat.eq_zero_or_pos k with h0 | h0
        · subst h0; rw [Nat.add_zero]; omega
        · have := q (k - 1) (by omega)
          rw [show i + 1 + (k - 1) = i + k by omega] at this
          exact this
      · intro q k hk
        have := q (k + 1) (by omega)
        rw [show i + (k + 1) = i + 1 + k by omega] at this
        exact this
theorem hunF_lt {A B : Nat → Int32} {nh st w d x : Nat} : ∀ m i, hunF A B nh st w d m i = some x → x < w + i + m := by
  intro m
  induction m with
  | zero => intro i h; cases h
  | succ m ih =>
    intro i h
    simp only [hunF] at h
    split at h
    · cases h; omega
    · have := ih (i + 1) h; omega
theorem caF_mono {A B : Nat → Int32} {nh st w d d' : Nat} (h : d ≤ d') : ∀ i, caF A B nh st w d' i ≤ caF A B nh st w d i
  | 0 => Nat.le_refl _
  | i + 1 => by
    have ih := caF_mono (A := A) (B := B) (nh := nh) (st := st) (w := w) h i
    simp only [caF, adv]
    omega
theorem hunF_mono {A B : Nat → Int32} {nh st w d d' m : Nat} (h : d ≤ d') (hn : hunF A B nh st w d' m 0 = none) : hunF A B nh st w d m 0 = none := by
  rw [hunF_none] at hn ⊢
  intro k hk
  have h1 := hn k hk
  have h2 := caF_mono (A := A) (B := B) (nh := nh) (st := st) (w := w) h (0 + k)
  omega
theorem cut_ex {P : Nat → Prop} (hP : ∀ r s, r ≤ s → P s → P r) : ∀ n, ∃ B, B ≤ n ∧ ∀ r, 1 ≤ r → r ≤ n → (P r ↔ r ≤ B)
  | 0 => ⟨0, Nat.le_refl _, fun r h1 h2 => by omega⟩
  | n + 1 => by
    by_cases h : P (n + 1)
    · exact ⟨n + 1, Nat.le_refl _, fun r h1 h2 => ⟨fun _ => h2, fun _ => hP r _ h2 h⟩⟩
    · obtain ⟨B, hB, q⟩ := cut_ex hP n
      refine ⟨B, by omega, fun r h1 h2 => ?_⟩
      rcases Nat.lt_or_ge r (n + 1) with h3 | h3
      · exact q r h1 (by omega)
      · have e : r = n + 1 := by omega
        subst e
        exact ⟨fun p => absurd p h, fun p => by omega⟩
def gB (B : Nat) : Nat → Nat
  | 0 => 0
  | i + 1 => if 100 < gB B i + 64 / 2 ^ i then gB B i else if gB B i + 64 / 2 ^ i ≤ B then gB B i + 64 / 2 ^ i else gB B i
theorem gB_7 : ∀ B : Fin 101, gB B.1 7 = B.1 := by decide
theorem gB_le {B : Nat} : ∀ i, gB B i ≤ 100
  | 0 => by simp only [gB]; omega
  | i + 1 => by
    have ih := gB_le (B := B) i
    simp only [gB]
    split
    · exact ih
    · split <;> omega
theorem p2_e : ∀ j : Fin 7, 1 ≤ 64 / 2 ^ j.1 ∧ 64 / 2 ^ j.1 ≤ 64 ∧ 64 / 2 ^ j.1 / 2 = 64 / 2 ^ (j.1 + 1) := by decide
theorem greatest_e {N B : Nat} {z : Hp} {w last : Nat} (g : Nat → Option Nat) (hN : 6000 ≤ N) (hS : Sh z) (hf : ∀ r, r ≤ 100 → fX4_firstHunger N 13 (nI w) (nI last) (nI r) z = some (encT (-6) nI (g r))) (hg : ∀ r x, g r = some x → x < 2 ^ 31) (hB : B ≤ 100) (hc : ∀ r, 1 ≤ r → r ≤ 100 → (g r = none ↔ r ≤ B)) : fX4_greatestRation N 13 (nI w) (nI last) z = some (if B = 0 then -6 else nI B) := by
  unfold fX4_greatestRation
  have key := wh_seq (f := fun (u : Int32 × Int32) => fX4_greatestRation_6 N 13 (nI w) (nI last) u.1 u.2 z) (r := (if B = 0 then -6 else nI B : Int32)) (fun i => (nI (gB B i), nI (64 / 2 ^ i))) 7 0 ?_ ?_ N (by omega)
  · exact key
  · intro j _ hj
    obtain ⟨p1, p2, p3⟩ := p2_e ⟨j, by omega⟩
    simp only at p1 p2 p3
    have hle := gB_le (B := B) j
    have c1 : ¬ nI (64 / 2 ^ j) ≤ 0 := by rw [show (0 : Int32) = nI 0 from rfl]; exact nI_ge (by omega) (by omega)
    have hd : nI (64 / 2 ^ j) / 2 = nI (64 / 2 ^ (j + 1)) := by rw [show (2 : Int32) = nI 2 from rfl, pk_div (by omega) (by decide) (by decide), p3]
    simp only [fX4_greatestRation_6, fX4_greatestRation_40, br_n c1, gdT, brTr, brFa, br_00, br_10, bd_e, bo_s, bp_s, cs_s, cs_n, lf_s, o0 hS, o1 hS, o2 hS, o3 hS, o4 hS, o5 hS, o6 hS, o7 hS, o8 hS, o9 hS, o10 hS, o11 hS, o12 hS, o13 hS, o14 hS, o15 hS, o16 hS, o17 hS, o18 hS, o19 hS, o20 hS, o21 hS, o22 hS, o23 hS, o24 hS, o25 hS, o26 hS, o27 hS, o28 hS, o29 hS, o30 hS, o31 hS, o32 hS, o33 hS, o34 hS, o35 hS, o36 hS, o37 hS, o38 hS, o39 hS, o40 hS, o41 hS, o42 hS, o43 hS, o44 hS, o45 hS, o46 hS, o47 hS, l2 hS, l3 hS, l4 hS, l5 hS, l7 hS, l8 hS, l10 hS, l12 hS, l14 hS, l15 hS, l16 hS, l18 hS, l19 hS, l20 hS, l21 hS, l22 hS, l23 hS, l24 hS, l25 hS, l26 hS, l27 hS, l28 hS, l29 hS, l30 hS, l31 hS, l32 hS, l33 hS, l34 hS, l35 hS, l36 hS, l37 hS, l38 hS, l39 hS, l40 hS, l41 hS, l42 hS, l43 hS, l44 hS, l45 hS, l46 hS, l47 hS, g640 hS, g641 hS, g642 hS, g643 hS, g644 hS, g645 hS, g128 hS, g129 hS, g130 hS, g131 hS, g384 hS, g385 hS, g256 hS, g576 hS, g192 hS, g193 hS, g707 hS, g708 hS, g709 hS, g710 hS, g712 hS, g713 hS, g714 hS, g715 hS, g716 hS, g720 hS, g721 hS, g722 hS, g723 hS, g724 hS, g725 hS, g726 hS, g728 hS, g729 hS, g730 hS, g731 hS, g732 hS, g733 hS, g734 hS, g735 hS, g736 hS, g737 hS, g738 hS, g740 hS, g751 hS, g752 hS, nI_add, hd]
    by_cases h1 : 100 < gB B j + 64 / 2 ^ j
    · have c2 : (100 : Int32) < nI (gB B j + 64 / 2 ^ j) := by rw [show (100 : Int32) = nI 100 from rfl]; exact nI_lt h1 (by omega)
      simp only [br_y c2, gB, if_pos h1]
    · have c2 : ¬ (100 : Int32) < nI (gB B j + 64 / 2 ^ j) := by rw [show (100 : Int32) = nI 100 from rfl]; exact nI_nlt (by omega) (by omega)
      have hr := hf (gB B j + 64 / 2 ^ j) (by omega)
      have hq := hc (gB B j + 64 / 2 ^ j) (by omega) (by omega)
      simp only [br_n c2, gB, if_neg h1, hr, bo_s]
      by_cases h2 : gB B j + 64 / 2 ^ j ≤ B
      · rw [hq.2 h2, if_pos h2]
        simp only [encT, br_y trivial]
      · rw [if_neg h2]
        cases e : g (gB B j + 64 / 2 ^ j) with
        | none => exact absurd (hq.1 e) h2
        | some x =>
          have c3 : ¬ nI x = -6 := nI_n6 (hg _ _ e)
          simp only [encT, br_n c3]
  · have e7 : gB B (0 + 7) = B := gB_7 ⟨B, by omega⟩
    have c1 : nI (64 / 2 ^ (0 + 7)) ≤ 0 := by decide
    simp only [fX4_greatestRation_6, br_y c1, e7]
    by_cases h0 : B = 0
    · subst h0
      simp only [br_y (show nI 0 = 0 from rfl), lf_s, if_pos]
    · have c2 : ¬ nI B = 0 := by rw [show (0 : Int32) = nI 0 from rfl, nI_eq (by omega) (by omega)]; exact h0
      simp only [br_n c2, lf_s, if_neg h0]
theorem orderLoop_e {N B : Nat} {z : Hp} {last : Nat} (g : Nat → Option Nat) (hN : 6000 ≤ N) (hS : Sh z) (hf : ∀ r, r ≤ 100 → fX12_hungerBy N 17 (nI r) (nI last) z = some (encT (-6) nI (g r))) (hg : ∀ r x, g r = some x → x < 2 ^ 31) (hB : B ≤ 100) (hc : ∀ r, 1 ≤ r → r ≤ 100 → (g r = none ↔ r ≤ B)) : wh (fun (u : Int32) => fX12_order_22 N 17 (nI last) u z) N (100 : Int32) = some (if B = 0 then -6 else nI B) := by
  have key := wh_seq (f := fun (u : Int32) => fX12_order_22 N 17 (nI last) u z) (r := (if B = 0 then -6 else nI B : Int32)) (fun i => nI (100 - i)) (100 - B) 0 ?_ ?_ N (by omega)
  · exact key
  · intro j _ hj
    have c1 : ¬ nI (100 - j) ≤ 0 := by rw [show (0 : Int32) = nI 0 from rfl]; exact nI_ge (by omega) (by omega)
    have hr := hf (100 - j) (by omega)
    have hq := hc (100 - j) (by omega) (by omega)
    simp only [fX12_order_22, br_n c1, gdT, brTr, brFa, br_00, br_10, bd_e, bo_s, bp_s, cs_s, cs_n, lf_s, o0 hS, o1 hS, o2 hS, o3 hS, o4 hS, o5 hS, o6 hS, o7 hS, o8 hS, o9 hS, o10 hS, o11 hS, o12 hS, o13 hS, o14 hS, o15 hS, o16 hS, o17 hS, o18 hS, o19 hS, o20 hS, o21 hS, o22 hS, o23 hS, o24 hS, o25 hS, o26 hS, o27 hS, o28 hS, o29 hS, o30 hS, o31 hS, o32 hS, o33 hS, o34 hS, o35 hS, o36 hS, o37 hS, o38 hS, o39 hS, o40 hS, o41 hS, o42 hS, o43 hS, o44 hS, o45 hS, o46 hS, o47 hS, l2 hS, l3 hS, l4 hS, l5 hS, l7 hS, l8 hS, l10 hS, l12 hS, l14 hS, l15 hS, l16 hS, l18 hS, l19 hS, l20 hS, l21 hS, l22 hS, l23 hS, l24 hS, l25 hS, l26 hS, l27 hS, l28 hS, l29 hS, l30 hS, l31 hS, l32 hS, l33 hS, l34 hS, l35 hS, l36 hS, l37 hS, l38 hS, l39 hS, l40 hS, l41 hS, l42 hS, l43 hS, l44 hS, l45 hS, l46 hS, l47 hS, g640 hS, g641 hS, g642 hS, g643 hS, g644 hS, g645 hS, g128 hS, g129 hS, g130 hS, g131 hS, g384 hS, g385 hS, g256 hS, g576 hS, g192 hS, g193 hS, g707 hS, g708 hS, g709 hS, g710 hS, g712 hS, g713 hS, g714 hS, g715 hS, g716 hS, g720 hS, g721 hS, g722 hS, g723 hS, g724 hS, g725 hS, g726 hS, g728 hS, g729 hS, g730 hS, g731 hS, g732 hS, g733 hS, g734 hS, g735 hS, g736 hS, g737 hS, g738 hS, g740 hS, g751 hS, g752 hS, hr]
    cases e : g (100 - j) with
    | none => have := hq.1 e; omega
    | some x =>
      have c3 : ¬ nI x = -6 := nI_n6 (hg _ _ e)
      simp only [encT, br_n c3]
      rw [← sub_m1, show (1 : Int32) = nI 1 from rfl, pk_sub (by omega), show 100 - j - 1 = 100 - (j + 1) by omega]
  · have e0 : 100 - (0 + (100 - B)) = B := by omega
    simp only [e0]
    by_cases h0 : B = 0
    · subst h0
      simp only [fX12_order_22, br_y (show nI 0 ≤ 0 by decide), lf_s, if_pos]
    · have c1 : ¬ nI B ≤ 0 := by rw [show (0 : Int32) = nI 0 from rfl]; exact nI_ge (by omega) (by omega)
      have hr := hf B hB
      rw [(hc B (by omega) hB).2 (Nat.le_refl _)] at hr
      simp only [fX12_order_22, br_n c1, gdT, brTr, brFa, br_00, br_10, bd_e, bo_s, bp_s, cs_s, cs_n, lf_s, o0 hS, o1 hS, o2 hS, o3 hS, o4 hS, o5 hS, o6 hS, o7 hS, o8 hS, o9 hS, o10 hS, o11 hS, o12 hS, o13 hS, o14 hS, o15 hS, o16 hS, o17 hS, o18 hS, o19 hS, o20 hS, o21 hS, o22 hS, o23 hS, o24 hS, o25 hS, o26 hS, o27 hS, o28 hS, o29 hS, o30 hS, o31 hS, o32 hS, o33 hS, o34 hS, o35 hS, o36 hS, o37 hS, o38 hS, o39 hS, o40 hS, o41 hS, o42 hS, o43 hS, o44 hS, o45 hS, o46 hS, o47 hS, l2 hS, l3 hS, l4 hS, l5 hS, l7 hS, l8 hS, l10 hS, l12 hS, l14 hS, l15 hS, l16 hS, l18 hS, l19 hS, l20 hS, l21 hS, l22 hS, l23 hS, l24 hS, l25 hS, l26 hS, l27 hS, l28 hS, l29 hS, l30 hS, l31 hS, l32 hS, l33 hS, l34 hS, l35 hS, l36 hS, l37 hS, l38 hS, l39 hS, l40 hS, l41 hS, l42 hS, l43 hS, l44 hS, l45 hS, l46 hS, l47 hS, g640 hS, g641 hS, g642 hS, g643 hS, g644 hS, g645 hS, g128 hS, g129 hS, g130 hS, g131 hS, g384 hS, g385 hS, g256 hS, g576 hS, g192 hS, g193 hS, g707 hS, g708 hS, g709 hS, g710 hS, g712 hS, g713 hS, g714 hS, g715 hS, g716 hS, g720 hS, g721 hS, g722 hS, g723 hS, g724 hS, g725 hS, g726 hS, g728 hS, g729 hS, g730 hS, g731 hS, g732 hS, g733 hS, g734 hS, g735 hS, g736 hS, g737 hS, g738 hS, g740 hS, g751 hS, g752 hS, hr, encT, br_y trivial, if_neg h0]
theorem op_order (N : Nat) (hN : 6000 ≤ N) : Op_order N Inv := by
  intro z a1 hI
  obtain ⟨hS, hsc, hst, w, h, nb, nr, ng, gv, nt, nh, hn, hhv, hrec, hbk, hgr, hgf, hmk, htx, htn⟩ := id hI
  have hw := weekNow_e (N := N) hS hn
  obtain ⟨⟨n1, n2, n3, n4, n5⟩, m2, m3, m4, m5, m6, ⟨n17, n18, n19⟩⟩ := id hn
  obtain ⟨⟨st, s1, s2⟩, ⟨mo, s3, s4⟩, ⟨ea, s5, s6⟩, -, s7, s8, s9, -⟩ := id hst
  by_cases ho : a1 < nI w ∨ 199 < a1
  · exact ⟨-2, by simp only [fX11_order, gdT, brTr, brFa, br_00, br_10, bd_e, bo_s, bp_s, cs_s, cs_n, lf_s, o0 hS, o1 hS, o2 hS, o3 hS, o4 hS, o5 hS, o6 hS, o7 hS, o8 hS, o9 hS, o10 hS, o11 hS, o12 hS, o13 hS, o14 hS, o15 hS, o16 hS, o17 hS, o18 hS, o19 hS, o20 hS, o21 hS, o22 hS, o23 hS, o24 hS, o25 hS, o26 hS, o27 hS, o28 hS, o29 hS, o30 hS, o31 hS, o32 hS, o33 hS, o34 hS, o35 hS, o36 hS, o37 hS, o38 hS, o39 hS, o40 hS, o41 hS, o42 hS, o43 hS, o44 hS, o45 hS, o46 hS, o47 hS, l2 hS, l3 hS, l4 hS, l5 hS, l7 hS, l8 hS, l10 hS, l12 hS, l14 hS, l15 hS, l16 hS, l18 hS, l19 hS, l20 hS, l21 hS, l22 hS, l23 hS, l24 hS, l25 hS, l26 hS, l27 hS, l28 hS, l29 hS, l30 hS, l31 hS, l32 hS, l33 hS, l34 hS, l35 hS, l36 hS, l37 hS, l38 hS, l39 hS, l40 hS, l41 hS, l42 hS, l43 hS, l44 hS, l45 hS, l46 hS, l47 hS, g640 hS, g641 hS, g642 hS, g643 hS, g644 hS, g645 hS, g128 hS, g129 hS, g130 hS, g131 hS, g384 hS, g385 hS, g256 hS, g576 hS, g192 hS, g193 hS, g707 hS, g708 hS, g709 hS, g710 hS, g712 hS, g713 hS, g714 hS, g715 hS, g716 hS, g720 hS, g721 hS, g722 hS, g723 hS, g724 hS, g725 hS, g726 hS, g728 hS, g729 hS, g730 hS, g731 hS, g732 hS, g733 hS, g734 hS, g735 hS, g736 hS, g737 hS, g738 hS, g740 hS, g751 hS, g752 hS, hw, out_1 ho], by simp only [fX12_order_22, fX12_order, gdT, brTr, brFa, br_00, br_10, bd_e, bo_s, bp_s, cs_s, cs_n, lf_s, o0 hS, o1 hS, o2 hS, o3 hS, o4 hS, o5 hS, o6 hS, o7 hS, o8 hS, o9 hS, o10 hS, o11 hS, o12 hS, o13 hS, o14 hS, o15 hS, o16 hS, o17 hS, o18 hS, o19 hS, o20 hS, o21 hS, o22 hS, o23 hS, o24 hS, o25 hS, o26 hS, o27 hS, o28 hS, o29 hS, o30 hS, o31 hS, o32 hS, o33 hS, o34 hS, o35 hS, o36 hS, o37 hS, o38 hS, o39 hS, o40 hS, o41 hS, o42 hS, o43 hS, o44 hS, o45 hS, o46 hS, o47 hS, l2 hS, l3 hS, l4 hS, l5 hS, l7 hS, l8 hS, l10 hS, l12 hS, l14 hS, l15 hS, l16 hS, l18 hS, l19 hS, l20 hS, l21 hS, l22 hS, l23 hS, l24 hS, l25 hS, l26 hS, l27 hS, l28 hS, l29 hS, l30 hS, l31 hS, l32 hS, l33 hS, l34 hS, l35 hS, l36 hS, l37 hS, l38 hS, l39 hS, l40 hS, l41 hS, l42 hS, l43 hS, l44 hS, l45 hS, l46 hS, l47 hS, g640 hS, g641 hS, g642 hS, g643 hS, g644 hS, g645 hS, g128 hS, g129 hS, g130 hS, g131 hS, g384 hS, g385 hS, g256 hS, g576 hS, g192 hS, g193 hS, g707 hS, g708 hS, g709 hS, g710 hS, g712 hS, g713 hS, g714 hS, g715 hS, g716 hS, g720 hS, g721 hS, g722 hS, g723 hS, g724 hS, g725 hS, g726 hS, g728 hS, g729 hS, g730 hS, g731 hS, g732 hS, g733 hS, g734 hS, g735 hS, g736 hS, g737 hS, g738 hS, g740 hS, g751 hS, g752 hS, n1, in_0 (A := (nI w).toInt64) (B := 199) (a := nI w) (b := 199) rfl rfl ho]⟩
  · obtain ⟨last, rfl, hl1, hl2⟩ := nI_rng (a := w) (b := 199) (nI_toInt (by omega)) (by decide) ho
    have f1 := fun r (hr : r ≤ 100) => firstHunger_e (last := last) hN hS hhv n19 (s7.trans s1) s2 (s8.trans s3) (s9.trans s5) s4 s6 hr (by omega) (by omega)
    have f2 := fun r (hr : r ≤ 100) => hungerBy_e (last := last) hN hS n17 hhv n19 s1 s2 n1 s3 s5 s4 s6 hr (by omega) (by omega)
    obtain ⟨B, hB, hc⟩ := cut_ex (P := fun r => hunF (zA z 46) (zA z 47) nh st w (mo * ea * r / 100) (last + 1 - w) 0 = none) (fun r s hrs q => hunF_mono (Nat.div_le_div_right (Nat.mul_le_mul_left _ hrs)) q) 100
    have hg : ∀ r x, hunF (zA z 46) (zA z 47) nh st w (mo * ea * r / 100) (last + 1 - w) 0 = some x → x < 2 ^ 31 := fun r x q => by have := hunF_lt _ _ q; omega
    have g1 := greatest_e (fun r => hunF (zA z 46) (zA z 47) nh st w (mo * ea * r / 100) (last + 1 - w) 0) hN hS f1 hg hB hc
    have g2 := orderLoop_e (fun r => hunF (zA z 46) (zA z 47) nh st w (mo * ea * r / 100) (last + 1 - w) 0) hN hS f2 hg hB hc
    exact ⟨_, by simp only [fX11_order, gdT, brTr, brFa, br_00, br_10, bd_e, bo_s, bp_s, cs_s, cs_n, lf_s, o0 hS, o1 hS, o2 hS, o3 hS, o4 hS, o5 hS, o6 hS, o7 hS, o8 hS, o9 hS, o10 hS, o11 hS, o12 hS, o13 hS, o14 hS, o15 hS, o16 hS, o17 hS, o18 hS, o19 hS, o20 hS, o21 hS, o22 hS, o23 hS, o24 hS, o25 hS, o26 hS, o27 hS, o28 hS, o29 hS, o30 hS, o31 hS, o32 hS, o33 hS, o34 hS, o35 hS, o36 hS, o37 hS, o38 hS, o39 hS, o40 hS, o41 hS, o42 hS, o43 hS, o44 hS, o45 hS, o46 hS, o47 hS, l2 hS, l3 hS, l4 hS, l5 hS, l7 hS, l8 hS, l10 hS, l12 hS, l14 hS, l15 hS, l16 hS, l18 hS, l19 hS, l20 hS, l21 hS, l22 hS, l23 hS, l24 hS, l25 hS, l26 hS, l27 hS, l28 hS, l29 hS, l30 hS, l31 hS, l32 hS, l33 hS, l34 hS, l35 hS, l36 hS, l37 hS, l38 hS, l39 hS, l40 hS, l41 hS, l42 hS, l43 hS, l44 hS, l45 hS, l46 hS, l47 hS, g640 hS, g641 hS, g642 hS, g643 hS, g644 hS, g645 hS, g128 hS, g129 hS, g130 hS, g131 hS, g384 hS, g385 hS, g256 hS, g576 hS, g192 hS, g193 hS, g707 hS, g708 hS, g709 hS, g710 hS, g712 hS, g713 hS, g714 hS, g715 hS, g716 hS, g720 hS, g721 hS, g722 hS, g723 hS, g724 hS, g725 hS, g726 hS, g728 hS, g729 hS, g730 hS, g731 hS, g732 hS, g733 hS, g734 hS, g735 hS, g736 hS, g737 hS, g738 hS, g740 hS, g751 hS, g752 hS, hw, out_0 ho, g1]; rfl, by simp only [fX12_order, gdT, brTr, brFa, br_00, br_10, bd_e, bo_s, bp_s, cs_s, cs_n, lf_s, o0 hS, o1 hS, o2 hS, o3 hS, o4 hS, o5 hS, o6 hS, o7 hS, o8 hS, o9 hS, o10 hS, o11 hS, o12 hS, o13 hS, o14 hS, o15 hS, o16 hS, o17 hS, o18 hS, o19 hS, o20 hS, o21 hS, o22 hS, o23 hS, o24 hS, o25 hS, o26 hS, o27 hS, o28 hS, o29 hS, o30 hS, o31 hS, o32 hS, o33 hS, o34 hS, o35 hS, o36 hS, o37 hS, o38 hS, o39 hS, o40 hS, o41 hS, o42 hS, o43 hS, o44 hS, o45 hS, o46 hS, o47 hS, l2 hS, l3 hS, l4 hS, l5 hS, l7 hS, l8 hS, l10 hS, l12 hS, l14 hS, l15 hS, l16 hS, l18 hS, l19 hS, l20 hS, l21 hS, l22 hS, l23 hS, l24 hS, l25 hS, l26 hS, l27 hS, l28 hS, l29 hS, l30 hS, l31 hS, l32 hS, l33 hS, l34 hS, l35 hS, l36 hS, l37 hS, l38 hS, l39 hS, l40 hS, l41 hS, l42 hS, l43 hS, l44 hS, l45 hS, l46 hS, l47 hS, g640 hS, g641 hS, g642 hS, g643 hS, g644 hS, g645 hS, g128 hS, g129 hS, g130 hS, g131 hS, g384 hS, g385 hS, g256 hS, g576 hS, g192 hS, g193 hS, g707 hS, g708 hS, g709 hS, g710 hS, g712 hS, g713 hS, g714 hS, g715 hS, g716 hS, g720 hS, g721 hS, g722 hS, g723 hS, g724 hS, g725 hS, g726 hS, g728 hS, g729 hS, g730 hS, g731 hS, g732 hS, g733 hS, g734 hS, g735 hS, g736 hS, g737 hS, g738 hS, g740 hS, g751 hS, g752 hS, n1, in_1 (A := (nI w).toInt64) (B := 199) (a := nI w) (b := 199) rfl rfl ho, g2]⟩
