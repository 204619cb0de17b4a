-- SEARCH, what stands behind it
theorem search_fin {y x1 : Hp} {n0 w h nb nr ng gv nt nh b b4 nx : Nat} {v0 v1 v2 v3 v4 v5 s f m : Int32} (hRt : Rt y w h nb nr ng gv nt nh) (hr : nr < 200) (hnw : Nw y n0 7) (hb : b < nb) (hb4 : zR y 16 b = some b4) (hlt : ∀ i a, i < nr → zR y 2 i = some a → a < n0) (hltb : ∀ j a, j < nb → zR y 16 j = some a → a < n0) (hR : Rch (seZ1 y n0 nr (168 * w + h) b b4 v0 v1 v2 v3 v4 v5 s f m) x1 [741, 742, 743] [45]) (k4 : zF x1 742 17 = nI nb) (k5 : zF x1 743 17 = zF y 579 11) (k6 : ∀ k, k < nb → zA y 12 k = zA x1 45 k ∧ ∃ j, j < nb ∧ zA x1 45 k = nI j) (e577 : zF y 577 11 = nI nb) (e578 : zF y 578 11 = nI (nx + 1)) (hv4 : v4 = 0 ∨ v4 = 1) (hx : nx < nb) : Inv (seM x1 nr nb nx w h b v0 v1 v2 v3 v4 v5 s f m) := by
  obtain ⟨hS, hsc, hst, hn, hhv, hrec, hbk, hgr, hgf, hmk, htx⟩ := hRt
  obtain ⟨⟨n1, n2, n3, n4, n5⟩, ⟨n6, n7, n8⟩, ⟨n9, n10, n11⟩, m4, ⟨m5, m5'⟩, m6, m7⟩ := id hn
  obtain ⟨w1, w2, w3, w4, w5⟩ := hnw
  have k4b : 48 ≤ b4 ∧ zK y b4 = 0 ∧ b4 < n0 := by
    obtain ⟨a, e, p⟩ := hbk.1 b hb
    rw [hb4] at e
    cases e
    exact ⟨p.1, p.2.2.1, hltb b b4 hb hb4⟩
  have cF : ∀ g, g ∉ [768, 769, 770, 771, 452, 453, 454, 455, 456, 457, 132, 3, 4, 5, 6] → zF (seZ1 y n0 nr (168 * w + h) b b4 v0 v1 v2 v3 v4 v5 s f m) g = zF y g := seZ1_F
  have csm : ∀ a, 48 ≤ a → a ≠ n0 → a ≠ b4 → Sm y (seZ1 y n0 nr (168 * w + h) b b4 v0 v1 v2 v3 v4 v5 s f m) a := fun a h1 h2 h3 => seZ1_sm h1 h2 h3
  have c768 : zF (seZ1 y n0 nr (168 * w + h) b b4 v0 v1 v2 v3 v4 v5 s f m) 768 n0 = 3 := by simp only [seZ1, seZ0, enterC, entZ, eF_zn, eF_zK, eF_zL, eF_s, eF_n, eF_zG, eF_zA, eF_zJ, eF_zR, eG_zn, eG_zK, eG_zL, eG_zF, eG_s, eG_n, eG_zA, eG_zJ, eG_zR, eA_zn, eA_zK, eA_zL, eA_zF, eA_zG, eA_s, eA_n, eA_zJ, eA_zR, eJ_zn, eJ_zK, eJ_zL, eJ_zF, eJ_zG, eJ_zA, eJ_s, eJ_n, eJ_zR, eR_zn, eR_zK, eR_zL, eR_zF, eR_zG, eR_zA, eR_zJ, eR_s, eR_n, ne_eq, not_false_eq_true, not_true_eq_false, reduceCtorEq, Nat.reduceEqDiff, va_up_self]
  have c769 : zF (seZ1 y n0 nr (168 * w + h) b b4 v0 v1 v2 v3 v4 v5 s f m) 769 n0 = nI nr := by simp only [seZ1, seZ0, enterC, entZ, eF_zn, eF_zK, eF_zL, eF_s, eF_n, eF_zG, eF_zA, eF_zJ, eF_zR, eG_zn, eG_zK, eG_zL, eG_zF, eG_s, eG_n, eG_zA, eG_zJ, eG_zR, eA_zn, eA_zK, eA_zL, eA_zF, eA_zG, eA_s, eA_n, eA_zJ, eA_zR, eJ_zn, eJ_zK, eJ_zL, eJ_zF, eJ_zG, eJ_zA, eJ_s, eJ_n, eJ_zR, eR_zn, eR_zK, eR_zL, eR_zF, eR_zG, eR_zA, eR_zJ, eR_s, eR_n, ne_eq, not_false_eq_true, not_true_eq_false, reduceCtorEq, Nat.reduceEqDiff, va_up_self]
  have c770 : zF (seZ1 y n0 nr (168 * w + h) b b4 v0 v1 v2 v3 v4 v5 s f m) 770 n0 = nI (168 * w + h) := by simp only [seZ1, seZ0, enterC, entZ, eF_zn, eF_zK, eF_zL, eF_s, eF_n, eF_zG, eF_zA, eF_zJ, eF_zR, eG_zn, eG_zK, eG_zL, eG_zF, eG_s, eG_n, eG_zA, eG_zJ, eG_zR, eA_zn, eA_zK, eA_zL, eA_zF, eA_zG, eA_s, eA_n, eA_zJ, eA_zR, eJ_zn, eJ_zK, eJ_zL, eJ_zF, eJ_zG, eJ_zA, eJ_s, eJ_n, eJ_zR, eR_zn, eR_zK, eR_zL, eR_zF, eR_zG, eR_zA, eR_zJ, eR_s, eR_n, ne_eq, not_false_eq_true, not_true_eq_false, reduceCtorEq, Nat.reduceEqDiff, va_up_self]
  have c771 : zF (seZ1 y n0 nr (168 * w + h) b b4 v0 v1 v2 v3 v4 v5 s f m) 771 n0 = nI b := by simp only [seZ1, seZ0, enterC, entZ, eF_zn, eF_zK, eF_zL, eF_s, eF_n, eF_zG, eF_zA, eF_zJ, eF_zR, eG_zn, eG_zK, eG_zL, eG_zF, eG_s, eG_n, eG_zA, eG_zJ, eG_zR, eA_zn, eA_zK, eA_zL, eA_zF, eA_zG, eA_s, eA_n, eA_zJ, eA_zR, eJ_zn, eJ_zK, eJ_zL, eJ_zF, eJ_zG, eJ_zA, eJ_s, eJ_n, eJ_zR, eR_zn, eR_zK, eR_zL, eR_zF, eR_zG, eR_zA, eR_zJ, eR_s, eR_n, ne_eq, not_false_eq_true, not_true_eq_false, reduceCtorEq, Nat.reduceEqDiff, va_up_self]
  have c452 : zF (seZ1 y n0 nr (168 * w + h) b b4 v0 v1 v2 v3 v4 v5 s f m) 452 n0 = v0 := by simp only [seZ1, seZ0, enterC, entZ, eF_zn, eF_zK, eF_zL, eF_s, eF_n, eF_zG, eF_zA, eF_zJ, eF_zR, eG_zn, eG_zK, eG_zL, eG_zF, eG_s, eG_n, eG_zA, eG_zJ, eG_zR, eA_zn, eA_zK, eA_zL, eA_zF, eA_zG, eA_s, eA_n, eA_zJ, eA_zR, eJ_zn, eJ_zK, eJ_zL, eJ_zF, eJ_zG, eJ_zA, eJ_s, eJ_n, eJ_zR, eR_zn, eR_zK, eR_zL, eR_zF, eR_zG, eR_zA, eR_zJ, eR_s, eR_n, ne_eq, not_false_eq_true, not_true_eq_false, reduceCtorEq, Nat.reduceEqDiff, va_up_self]
  have c453 : zF (seZ1 y n0 nr (168 * w + h) b b4 v0 v1 v2 v3 v4 v5 s f m) 453 n0 = v1 := by simp only [seZ1, seZ0, enterC, entZ, eF_zn, eF_zK, eF_zL, eF_s, eF_n, eF_zG, eF_zA, eF_zJ, eF_zR, eG_zn, eG_zK, eG_zL, eG_zF, eG_s, eG_n, eG_zA, eG_zJ, eG_zR, eA_zn, eA_zK, eA_zL, eA_zF, eA_zG, eA_s, eA_n, eA_zJ, eA_zR, eJ_zn, eJ_zK, eJ_zL, eJ_zF, eJ_zG, eJ_zA, eJ_s, eJ_n, eJ_zR, eR_zn, eR_zK, eR_zL, eR_zF, eR_zG, eR_zA, eR_zJ, eR_s, eR_n, ne_eq, not_false_eq_true, not_true_eq_false, reduceCtorEq, Nat.reduceEqDiff, va_up_self]
  have c454 : zF (seZ1 y n0 nr (168 * w + h) b b4 v0 v1 v2 v3 v4 v5 s f m) 454 n0 = v2 := by simp only [seZ1, seZ0, enterC, entZ, eF_zn, eF_zK, eF_zL, eF_s, eF_n, eF_zG, eF_zA, eF_zJ, eF_zR, eG_zn, eG_zK, eG_zL, eG_zF, eG_s, eG_n, eG_zA, eG_zJ, eG_zR, eA_zn, eA_zK, eA_zL, eA_zF, eA_zG, eA_s, eA_n, eA_zJ, eA_zR, eJ_zn, eJ_zK, eJ_zL, eJ_zF, eJ_zG, eJ_zA, eJ_s, eJ_n, eJ_zR, eR_zn, eR_zK, eR_zL, eR_zF, eR_zG, eR_zA, eR_zJ, eR_s, eR_n, ne_eq, not_false_eq_true, not_true_eq_false, reduceCtorEq, Nat.reduceEqDiff, va_up_self]
  have c455 : zF (seZ1 y n0 nr (168 * w + h) b b4 v0 v1 v2 v3 v4 v5 s f m) 455 n0 = v3 := by simp only [seZ1, seZ0, enterC, entZ, eF_zn, eF_zK, eF_zL, eF_s, eF_n, eF_zG, eF_zA, eF_zJ, eF_zR, eG_zn, eG_zK, eG_zL, eG_zF, eG_s, eG_n, eG_zA, eG_zJ, eG_zR, eA_zn, eA_zK, eA_zL, eA_zF, eA_zG, eA_s, eA_n, eA_zJ, eA_zR, eJ_zn, eJ_zK, eJ_zL, eJ_zF, eJ_zG, eJ_zA, eJ_s, eJ_n, eJ_zR, eR_zn, eR_zK, eR_zL, eR_zF, eR_zG, eR_zA, eR_zJ, eR_s, eR_n, ne_eq, not_false_eq_true, not_true_eq_false, reduceCtorEq, Nat.reduceEqDiff, va_up_self]
  have c456 : zF (seZ1 y n0 nr (168 * w + h) b b4 v0 v1 v2 v3 v4 v5 s f m) 456 n0 = v4 := by simp only [seZ1, seZ0, enterC, entZ, eF_zn, eF_zK, eF_zL, eF_s, eF_n, eF_zG, eF_zA, eF_zJ, eF_zR, eG_zn, eG_zK, eG_zL, eG_zF, eG_s, eG_n, eG_zA, eG_zJ, eG_zR, eA_zn, eA_zK, eA_zL, eA_zF, eA_zG, eA_s, eA_n, eA_zJ, eA_zR, eJ_zn, eJ_zK, eJ_zL, eJ_zF, eJ_zG, eJ_zA, eJ_s, eJ_n, eJ_zR, eR_zn, eR_zK, eR_zL, eR_zF, eR_zG, eR_zA, eR_zJ, eR_s, eR_n, ne_eq, not_false_eq_true, not_true_eq_false, reduceCtorEq, Nat.reduceEqDiff, va_up_self]
  have c457 : zF (seZ1 y n0 nr (168 * w + h) b b4 v0 v1 v2 v3 v4 v5 s f m) 457 n0 = v5 := by simp only [seZ1, seZ0, enterC, entZ, eF_zn, eF_zK, eF_zL, eF_s, eF_n, eF_zG, eF_zA, eF_zJ, eF_zR, eG_zn, eG_zK, eG_zL, eG_zF, eG_s, eG_n, eG_zA, eG_zJ, eG_zR, eA_zn, eA_zK, eA_zL, eA_zF, eA_zG, eA_s, eA_n, eA_zJ, eA_zR, eJ_zn, eJ_zK, eJ_zL, eJ_zF, eJ_zG, eJ_zA, eJ_s, eJ_n, eJ_zR, eR_zn, eR_zK, eR_zL, eR_zF, eR_zG, eR_zA, eR_zJ, eR_s, eR_n, ne_eq, not_false_eq_true, not_true_eq_false, reduceCtorEq, Nat.reduceEqDiff, va_up_self]
  have c132 : zF (seZ1 y n0 nr (168 * w + h) b b4 v0 v1 v2 v3 v4 v5 s f m) 132 1 = nI (nr + 1) := by simp only [seZ1, seZ0, enterC, entZ, eF_zn, eF_zK, eF_zL, eF_s, eF_n, eF_zG, eF_zA, eF_zJ, eF_zR, eG_zn, eG_zK, eG_zL, eG_zF, eG_s, eG_n, eG_zA, eG_zJ, eG_zR, eA_zn, eA_zK, eA_zL, eA_zF, eA_zG, eA_s, eA_n, eA_zJ, eA_zR, eJ_zn, eJ_zK, eJ_zL, eJ_zF, eJ_zG, eJ_zA, eJ_s, eJ_n, eJ_zR, eR_zn, eR_zK, eR_zL, eR_zF, eR_zG, eR_zA, eR_zJ, eR_s, eR_n, ne_eq, not_false_eq_true, not_true_eq_false, reduceCtorEq, Nat.reduceEqDiff, va_up_self]
  have c3 : zF (seZ1 y n0 nr (168 * w + h) b b4 v0 v1 v2 v3 v4 v5 s f m) 3 = va_up (zF y 3) b4 (zF y 3 b4 + 1) := by simp only [seZ1, seZ0, enterC, entZ, eF_zn, eF_zK, eF_zL, eF_s, eF_n, eF_zG, eF_zA, eF_zJ, eF_zR, eG_zn, eG_zK, eG_zL, eG_zF, eG_s, eG_n, eG_zA, eG_zJ, eG_zR, eA_zn, eA_zK, eA_zL, eA_zF, eA_zG, eA_s, eA_n, eA_zJ, eA_zR, eJ_zn, eJ_zK, eJ_zL, eJ_zF, eJ_zG, eJ_zA, eJ_s, eJ_n, eJ_zR, eR_zn, eR_zK, eR_zL, eR_zF, eR_zG, eR_zA, eR_zJ, eR_s, eR_n, ne_eq, not_false_eq_true, not_true_eq_false, reduceCtorEq, Nat.reduceEqDiff]
  have c4 : zF (seZ1 y n0 nr (168 * w + h) b b4 v0 v1 v2 v3 v4 v5 s f m) 4 = va_up (zF y 4) b4 s := by simp only [seZ1, seZ0, enterC, entZ, eF_zn, eF_zK, eF_zL, eF_s, eF_n, eF_zG, eF_zA, eF_zJ, eF_zR, eG_zn, eG_zK, eG_zL, eG_zF, eG_s, eG_n, eG_zA, eG_zJ, eG_zR, eA_zn, eA_zK, eA_zL, eA_zF, eA_zG, eA_s, eA_n, eA_zJ, eA_zR, eJ_zn, eJ_zK, eJ_zL, eJ_zF, eJ_zG, eJ_zA, eJ_s, eJ_n, eJ_zR, eR_zn, eR_zK, eR_zL, eR_zF, eR_zG, eR_zA, eR_zJ, eR_s, eR_n, ne_eq, not_false_eq_true, not_true_eq_false, reduceCtorEq, Nat.reduceEqDiff]
  have c5 : zF (seZ1 y n0 nr (168 * w + h) b b4 v0 v1 v2 v3 v4 v5 s f m) 5 = va_up (zF y 5) b4 f := by simp only [seZ1, seZ0, enterC, entZ, eF_zn, eF_zK, eF_zL, eF_s, eF_n, eF_zG, eF_zA, eF_zJ, eF_zR, eG_zn, eG_zK, eG_zL, eG_zF, eG_s, eG_n, eG_zA, eG_zJ, eG_zR, eA_zn, eA_zK, eA_zL, eA_zF, eA_zG, eA_s, eA_n, eA_zJ, eA_zR, eJ_zn, eJ_zK, eJ_zL, eJ_zF, eJ_zG, eJ_zA, eJ_s, eJ_n, eJ_zR, eR_zn, eR_zK, eR_zL, eR_zF, eR_zG, eR_zA, eR_zJ, eR_s, eR_n, ne_eq, not_false_eq_true, not_true_eq_false, reduceCtorEq, Nat.reduceEqDiff]
  have c6 : zF (seZ1 y n0 nr (168 * w + h) b b4 v0 v1 v2 v3 v4 v5 s f m) 6 = va_up (zF y 6) b4 m := by simp only [seZ1, seZ0, enterC, entZ, eF_zn, eF_zK, eF_zL, eF_s, eF_n, eF_zG, eF_zA, eF_zJ, eF_zR, eG_zn, eG_zK, eG_zL, eG_zF, eG_s, eG_n, eG_zA, eG_zJ, eG_zR, eA_zn, eA_zK, eA_zL, eA_zF, eA_zG, eA_s, eA_n, eA_zJ, eA_zR, eJ_zn, eJ_zK, eJ_zL, eJ_zF, eJ_zG, eJ_zA, eJ_s, eJ_n, eJ_zR, eR_zn, eR_zK, eR_zL, eR_zF, eR_zG, eR_zA, eR_zJ, eR_s, eR_n, ne_eq, not_false_eq_true, not_true_eq_false, reduceCtorEq, Nat.reduceEqDiff]
  have cA : zA (seZ1 y n0 nr (168 * w + h) b b4 v0 v1 v2 v3 v4 v5 s f m) = zA y := by simp only [seZ1, seZ0, enterC, entZ, eF_zn, eF_zK, eF_zL, eF_s, eF_n, eF_zG, eF_zA, eF_zJ, eF_zR, eG_zn, eG_zK, eG_zL, eG_zF, eG_s, eG_n, eG_zA, eG_zJ, eG_zR, eA_zn, eA_zK, eA_zL, eA_zF, eA_zG, eA_s, eA_n, eA_zJ, eA_zR, eJ_zn, eJ_zK, eJ_zL, eJ_zF, eJ_zG, eJ_zA, eJ_s, eJ_n, eJ_zR, eR_zn, eR_zK, eR_zL, eR_zF, eR_zG, eR_zA, eR_zJ, eR_s, eR_n, ne_eq, not_false_eq_true, not_true_eq_false, reduceCtorEq, Nat.reduceEqDiff]
  have cn : zn (seZ1 y n0 nr (168 * w + h) b b4 v0 v1 v2 v3 v4 v5 s f m) = zn y := by simp only [seZ1, seZ0, enterC, entZ, eF_zn, eF_zK, eF_zL, eF_s, eF_n, eF_zG, eF_zA, eF_zJ, eF_zR, eG_zn, eG_zK, eG_zL, eG_zF, eG_s, eG_n, eG_zA, eG_zJ, eG_zR, eA_zn, eA_zK, eA_zL, eA_zF, eA_zG, eA_s, eA_n, eA_zJ, eA_zR, eJ_zn, eJ_zK, eJ_zL, eJ_zF, eJ_zG, eJ_zA, eJ_s, eJ_n, eJ_zR, eR_zn, eR_zK, eR_zL, eR_zF, eR_zG, eR_zA, eR_zJ, eR_s, eR_n, ne_eq, not_false_eq_true, not_true_eq_false, reduceCtorEq, Nat.reduceEqDiff]
  have cK : zK (seZ1 y n0 nr (168 * w + h) b b4 v0 v1 v2 v3 v4 v5 s f m) = zK y := by simp only [seZ1, seZ0, enterC, entZ, eF_zn, eF_zK, eF_zL, eF_s, eF_n, eF_zG, eF_zA, eF_zJ, eF_zR, eG_zn, eG_zK, eG_zL, eG_zF, eG_s, eG_n, eG_zA, eG_zJ, eG_zR, eA_zn, eA_zK, eA_zL, eA_zF, eA_zG, eA_s, eA_n, eA_zJ, eA_zR, eJ_zn, eJ_zK, eJ_zL, eJ_zF, eJ_zG, eJ_zA, eJ_s, eJ_n, eJ_zR, eR_zn, eR_zK, eR_zL, eR_zF, eR_zG, eR_zA, eR_zJ, eR_s, eR_n, ne_eq, not_false_eq_true, not_true_eq_false, reduceCtorEq, Nat.reduceEqDiff]
  have cL : zL (seZ1 y n0 nr (168 * w + h) b b4 v0 v1 v2 v3 v4 v5 s f m) = zL y := by simp only [seZ1, seZ0, enterC, entZ, eF_zn, eF_zK, eF_zL, eF_s, eF_n, eF_zG, eF_zA, eF_zJ, eF_zR, eG_zn, eG_zK, eG_zL, eG_zF, eG_s, eG_n, eG_zA, eG_zJ, eG_zR, eA_zn, eA_zK, eA_zL, eA_zF, eA_zG, eA_s, eA_n, eA_zJ, eA_zR, eJ_zn, eJ_zK, eJ_zL, eJ_zF, eJ_zG, eJ_zA, eJ_s, eJ_n, eJ_zR, eR_zn, eR_zK, eR_zL, eR_zF, eR_zG, eR_zA, eR_zJ, eR_s, eR_n, ne_eq, not_false_eq_true, not_true_eq_false, reduceCtorEq, Nat.reduceEqDiff]
  have cG : zG (seZ1 y n0 nr (168 * w + h) b b4 v0 v1 v2 v3 v4 v5 s f m) = zG y := by simp only [seZ1, seZ0, enterC, entZ, eF_zn, eF_zK, eF_zL, eF_s, eF_n, eF_zG, eF_zA, eF_zJ, eF_zR, eG_zn, eG_zK, eG_zL, eG_zF, eG_s, eG_n, eG_zA, eG_zJ, eG_zR, eA_zn, eA_zK, eA_zL, eA_zF, eA_zG, eA_s, eA_n, eA_zJ, eA_zR, eJ_zn, eJ_zK, eJ_zL, eJ_zF, eJ_zG, eJ_zA, eJ_s, eJ_n, eJ_zR, eR_zn, eR_zK, eR_zL, eR_zF, eR_zG, eR_zA, eR_zJ, eR_s, eR_n, ne_eq, not_false_eq_true, not_true_eq_false, reduceCtorEq, Nat.reduceEqDiff]
  have cJ : zJ (seZ1 y n0 nr (168 * w + h) b b4 v0 v1 v2 v3 v4 v5 s f m) = zJ y := by simp only [seZ1, seZ0, enterC, entZ, eF_zn, eF_zK, eF_zL, eF_s, eF_n, eF_zG, eF_zA, eF_zJ, eF_zR, eG_zn, eG_zK, eG_zL, eG_zF, eG_s, eG_n, eG_zA, eG_zJ, eG_zR, eA_zn, eA_zK, eA_zL, eA_zF, eA_zG, eA_s, eA_n, eA_zJ, eA_zR, eJ_zn, eJ_zK, eJ_zL, eJ_zF, eJ_zG, eJ_zA, eJ_s, eJ_n, eJ_zR, eR_zn, eR_zK, eR_zL, eR_zF, eR_zG, eR_zA, eR_zJ, eR_s, eR_n, ne_eq, not_false_eq_true, not_true_eq_false, reduceCtorEq, Nat.reduceEqDiff]
  have cR2 : zR (seZ1 y n0 nr (168 * w + h) b b4 v0 v1 v2 v3 v4 v5 s f m) 2 = va_up (zR y 2) nr (some n0) := by simp only [seZ1, seZ0, enterC, entZ, eF_zn, eF_zK, eF_zL, eF_s, eF_n, eF_zG, eF_zA, eF_zJ, eF_zR, eG_zn, eG_zK, eG_zL, eG_zF, eG_s, eG_n, eG_zA, eG_zJ, eG_zR, eA_zn, eA_zK, eA_zL, eA_zF, eA_zG, eA_s, eA_n, eA_zJ, eA_zR, eJ_zn, eJ_zK, eJ_zL, eJ_zF, eJ_zG, eJ_zA, eJ_s, eJ_n, eJ_zR, eR_zn, eR_zK, eR_zL, eR_zF, eR_zG, eR_zA, eR_zJ, eR_s, eR_n, ne_eq, not_false_eq_true, not_true_eq_false, reduceCtorEq, Nat.reduceEqDiff]
  have cRx : ∀ g, g ≠ 2 → zR (seZ1 y n0 nr (168 * w + h) b b4 v0 v1 v2 v3 v4 v5 s f m) g = zR y g := by
    intro g hg
    simp only [seZ1, seZ0, enterC, entZ, eF_zR, eR_n _ _ _ _ hg]
  generalize hzc : seZ1 y n0 nr (168 * w + h) b b4 v0 v1 v2 v3 v4 v5 s f m = zc at *
  have mF : ∀ g, g ∉ [741, 711] → zF (seM x1 nr nb nx w h b v0 v1 v2 v3 v4 v5 s f m) g = zF x1 g := seM_F
  have mA : ∀ g, g ∉ [34, 35, 36, 37, 18, 19, 20, 21] → zA (seM x1 nr nb nx w h b v0 v1 v2 v3 v4 v5 s f m) g = zA x1 g := seM_A
  have mn : zn (seM x1 nr nb nx w h b v0 v1 v2 v3 v4 v5 s f m) = zn x1 := by simp only [seM, seM0, seX, enterM, eF_zn, eF_zK, eF_zL, eF_s, eF_n, eF_zG, eF_zA, eF_zJ, eF_zR, eG_zn, eG_zK, eG_zL, eG_zF, eG_s, eG_n, eG_zA, eG_zJ, eG_zR, eA_zn, eA_zK, eA_zL, eA_zF, eA_zG, eA_s, eA_n, eA_zJ, eA_zR, eJ_zn, eJ_zK, eJ_zL, eJ_zF, eJ_zG, eJ_zA, eJ_s, eJ_n, eJ_zR, eR_zn, eR_zK, eR_zL, eR_zF, eR_zG, eR_zA, eR_zJ, eR_s, eR_n, ne_eq, not_false_eq_true, not_true_eq_false, reduceCtorEq, Nat.reduceEqDiff]
  have mK : zK (seM x1 nr nb nx w h b v0 v1 v2 v3 v4 v5 s f m) = zK x1 := by simp only [seM, seM0, seX, enterM, eF_zn, eF_zK, eF_zL, eF_s, eF_n, eF_zG, eF_zA, eF_zJ, eF_zR, eG_zn, eG_zK, eG_zL, eG_zF, eG_s, eG_n, eG_zA, eG_zJ, eG_zR, eA_zn, eA_zK, eA_zL, eA_zF, eA_zG, eA_s, eA_n, eA_zJ, eA_zR, eJ_zn, eJ_zK, eJ_zL, eJ_zF, eJ_zG, eJ_zA, eJ_s, eJ_n, eJ_zR, eR_zn, eR_zK, eR_zL, eR_zF, eR_zG, eR_zA, eR_zJ, eR_s, eR_n, ne_eq, not_false_eq_true, not_true_eq_false, reduceCtorEq, Nat.reduceEqDiff]
  have mL : zL (seM x1 nr nb nx w h b v0 v1 v2 v3 v4 v5 s f m) = zL x1 := by simp only [seM, seM0, seX, enterM, eF_zn, eF_zK, eF_zL, eF_s, eF_n, eF_zG, eF_zA, eF_zJ, eF_zR, eG_zn, eG_zK, eG_zL, eG_zF, eG_s, eG_n, eG_zA, eG_zJ, eG_zR, eA_zn, eA_zK, eA_zL, eA_zF, eA_zG, eA_s, eA_n, eA_zJ, eA_zR, eJ_zn, eJ_zK, eJ_zL, eJ_zF, eJ_zG, eJ_zA, eJ_s, eJ_n, eJ_zR, eR_zn, eR_zK, eR_zL, eR_zF, eR_zG, eR_zA, eR_zJ, eR_s, eR_n, ne_eq, not_false_eq_true, not_true_eq_false, reduceCtorEq, Nat.reduceEqDiff]
  have mG : zG (seM x1 nr nb nx w h b v0 v1 v2 v3 v4 v5 s f m) = zG x1 := by simp only [seM, seM0, seX, enterM, eF_zn, eF_zK, eF_zL, eF_s, eF_n, eF_zG, eF_zA, eF_zJ, eF_zR, eG_zn, eG_zK, eG_zL, eG_zF, eG_s, eG_n, eG_zA, eG_zJ, eG_zR, eA_zn, eA_zK, eA_zL, eA_zF, eA_zG, eA_s, eA_n, eA_zJ, eA_zR, eJ_zn, eJ_zK, eJ_zL, eJ_zF, eJ_zG, eJ_zA, eJ_s, eJ_n, eJ_zR, eR_zn, eR_zK, eR_zL, eR_zF, eR_zG, eR_zA, eR_zJ, eR_s, eR_n, ne_eq, not_false_eq_true, not_true_eq_false, reduceCtorEq, Nat.reduceEqDiff]
  have mJ : zJ (seM x1 nr nb nx w h b v0 v1 v2 v3 v4 v5 s f m) = zJ x1 := by simp only [seM, seM0, seX, enterM, eF_zn, eF_zK, eF_zL, eF_s, eF_n, eF_zG, eF_zA, eF_zJ, eF_zR, eG_zn, eG_zK, eG_zL, eG_zF, eG_s, eG_n, eG_zA, eG_zJ, eG_zR, eA_zn, eA_zK, eA_zL, eA_zF, eA_zG, eA_s, eA_n, eA_zJ, eA_zR, eJ_zn, eJ_zK, eJ_zL, eJ_zF, eJ_zG, eJ_zA, eJ_s, eJ_n, eJ_zR, eR_zn, eR_zK, eR_zL, eR_zF, eR_zG, eR_zA, eR_zJ, eR_s, eR_n, ne_eq, not_false_eq_true, not_true_eq_false, reduceCtorEq, Nat.reduceEqDiff]
  have mR : zR (seM x1 nr nb nx w h b v0 v1 v2 v3 v4 v5 s f m) = zR x1 := by simp only [seM, seM0, seX, enterM, eF_zn, eF_zK, eF_zL, eF_s, eF_n, eF_zG, eF_zA, eF_zJ, eF_zR, eG_zn, eG_zK, eG_zL, eG_zF, eG_s, eG_n, eG_zA, eG_zJ, eG_zR, eA_zn, eA_zK, eA_zL, eA_zF, eA_zG, eA_s, eA_n, eA_zJ, eA_zR, eJ_zn, eJ_zK, eJ_zL, eJ_zF, eJ_zG, eJ_zA, eJ_s, eJ_n, eJ_zR, eR_zn, eR_zK, eR_zL, eR_zF, eR_zG, eR_zA, eR_zJ, eR_s, eR_n, ne_eq, not_false_eq_true, not_true_eq_false, reduceCtorEq, Nat.reduceEqDiff]
  have m711 : zF (seM x1 nr nb nx w h b v0 v1 v2 v3 v4 v5 s f m) 711 17 = nI (nr + 1) := by simp only [seM, seM0, seX, enterM, eF_zn, eF_zK, eF_zL, eF_s, eF_n, eF_zG, eF_zA, eF_zJ, eF_zR, eG_zn, eG_zK, eG_zL, eG_zF, eG_s, eG_n, eG_zA, eG_zJ, eG_zR, eA_zn, eA_zK, eA_zL, eA_zF, eA_zG, eA_s, eA_n, eA_zJ, eA_zR, eJ_zn, eJ_zK, eJ_zL, eJ_zF, eJ_zG, eJ_zA, eJ_s, eJ_n, eJ_zR, eR_zn, eR_zK, eR_zL, eR_zF, eR_zG, eR_zA, eR_zJ, eR_s, eR_n, ne_eq, not_false_eq_true, not_true_eq_false, reduceCtorEq, Nat.reduceEqDiff, va_up_self]
  have m741 : zF (seM x1 nr nb nx w h b v0 v1 v2 v3 v4 v5 s f m) 741 17 = nI (nb - nx - 1) := by simp only [seM, seM0, seX, enterM, eF_zn, eF_zK, eF_zL, eF_s, eF_n, eF_zG, eF_zA, eF_zJ, eF_zR, eG_zn, eG_zK, eG_zL, eG_zF, eG_s, eG_n, eG_zA, eG_zJ, eG_zR, eA_zn, eA_zK, eA_zL, eA_zF, eA_zG, eA_s, eA_n, eA_zJ, eA_zR, eJ_zn, eJ_zK, eJ_zL, eJ_zF, eJ_zG, eJ_zA, eJ_s, eJ_n, eJ_zR, eR_zn, eR_zK, eR_zL, eR_zF, eR_zG, eR_zA, eR_zJ, eR_s, eR_n, ne_eq, not_false_eq_true, not_true_eq_false, reduceCtorEq, Nat.reduceEqDiff, va_up_self]
  have m18 : zA (seM x1 nr nb nx w h b v0 v1 v2 v3 v4 v5 s f m) 18 = va_up (zA x1 18) nr 3 := by simp only [seM, seM0, seX, enterM, eF_zn, eF_zK, eF_zL, eF_s, eF_n, eF_zG, eF_zA, eF_zJ, eF_zR, eG_zn, eG_zK, eG_zL, eG_zF, eG_s, eG_n, eG_zA, eG_zJ, eG_zR, eA_zn, eA_zK, eA_zL, eA_zF, eA_zG, eA_s, eA_n, eA_zJ, eA_zR, eJ_zn, eJ_zK, eJ_zL, eJ_zF, eJ_zG, eJ_zA, eJ_s, eJ_n, eJ_zR, eR_zn, eR_zK, eR_zL, eR_zF, eR_zG, eR_zA, eR_zJ, eR_s, eR_n, ne_eq, not_false_eq_true, not_true_eq_false, reduceCtorEq, Nat.reduceEqDiff]
  have m19 : zA (seM x1 nr nb nx w h b v0 v1 v2 v3 v4 v5 s f m) 19 = va_up (zA x1 19) nr (nI w) := by simp only [seM, seM0, seX, enterM, eF_zn, eF_zK, eF_zL, eF_s, eF_n, eF_zG, eF_zA, eF_zJ, eF_zR, eG_zn, eG_zK, eG_zL, eG_zF, eG_s, eG_n, eG_zA, eG_zJ, eG_zR, eA_zn, eA_zK, eA_zL, eA_zF, eA_zG, eA_s, eA_n, eA_zJ, eA_zR, eJ_zn, eJ_zK, eJ_zL, eJ_zF, eJ_zG, eJ_zA, eJ_s, eJ_n, eJ_zR, eR_zn, eR_zK, eR_zL, eR_zF, eR_zG, eR_zA, eR_zJ, eR_s, eR_n, ne_eq, not_false_eq_true, not_true_eq_false, reduceCtorEq, Nat.reduceEqDiff]
  have m20 : zA (seM x1 nr nb nx w h b v0 v1 v2 v3 v4 v5 s f m) 20 = va_up (zA x1 20) nr (nI h) := by simp only [seM, seM0, seX, enterM, eF_zn, eF_zK, eF_zL, eF_s, eF_n, eF_zG, eF_zA, eF_zJ, eF_zR, eG_zn, eG_zK, eG_zL, eG_zF, eG_s, eG_n, eG_zA, eG_zJ, eG_zR, eA_zn, eA_zK, eA_zL, eA_zF, eA_zG, eA_s, eA_n, eA_zJ, eA_zR, eJ_zn, eJ_zK, eJ_zL, eJ_zF, eJ_zG, eJ_zA, eJ_s, eJ_n, eJ_zR, eR_zn, eR_zK, eR_zL, eR_zF, eR_zG, eR_zA, eR_zJ, eR_s, eR_n, ne_eq, not_false_eq_true, not_true_eq_false, reduceCtorEq, Nat.reduceEqDiff]
  have m21 : zA (seM x1 nr nb nx w h b v0 v1 v2 v3 v4 v5 s f m) 21 = va_up (zA x1 21) nr (nI b) := by simp only [seM, seM0, seX, enterM, eF_zn, eF_zK, eF_zL, eF_s, eF_n, eF_zG, eF_zA, eF_zJ, eF_zR, eG_zn, eG_zK, eG_zL, eG_zF, eG_s, eG_n, eG_zA, eG_zJ, eG_zR, eA_zn, eA_zK, eA_zL, eA_zF, eA_zG, eA_s, eA_n, eA_zJ, eA_zR, eJ_zn, eJ_zK, eJ_zL, eJ_zF, eJ_zG, eJ_zA, eJ_s, eJ_n, eJ_zR, eR_zn, eR_zK, eR_zL, eR_zF, eR_zG, eR_zA, eR_zJ, eR_s, eR_n, ne_eq, not_false_eq_true, not_true_eq_false, reduceCtorEq, Nat.reduceEqDiff]
  have m35 : zA (seM x1 nr nb nx w h b v0 v1 v2 v3 v4 v5 s f m) 35 = va_up (zA x1 35) b s := by simp only [seM, seM0, seX, enterM, eF_zn, eF_zK, eF_zL, eF_s, eF_n, eF_zG, eF_zA, eF_zJ, eF_zR, eG_zn, eG_zK, eG_zL, eG_zF, eG_s, eG_n, eG_zA, eG_zJ, eG_zR, eA_zn, eA_zK, eA_zL, eA_zF, eA_zG, eA_s, eA_n, eA_zJ, eA_zR, eJ_zn, eJ_zK, eJ_zL, eJ_zF, eJ_zG, eJ_zA, eJ_s, eJ_n, eJ_zR, eR_zn, eR_zK, eR_zL, eR_zF, eR_zG, eR_zA, eR_zJ, eR_s, eR_n, ne_eq, not_false_eq_true, not_true_eq_false, reduceCtorEq, Nat.reduceEqDiff]
  have m36 : zA (seM x1 nr nb nx w h b v0 v1 v2 v3 v4 v5 s f m) 36 = va_up (zA x1 36) b f := by simp only [seM, seM0, seX, enterM, eF_zn, eF_zK, eF_zL, eF_s, eF_n, eF_zG, eF_zA, eF_zJ, eF_zR, eG_zn, eG_zK, eG_zL, eG_zF, eG_s, eG_n, eG_zA, eG_zJ, eG_zR, eA_zn, eA_zK, eA_zL, eA_zF, eA_zG, eA_s, eA_n, eA_zJ, eA_zR, eJ_zn, eJ_zK, eJ_zL, eJ_zF, eJ_zG, eJ_zA, eJ_s, eJ_n, eJ_zR, eR_zn, eR_zK, eR_zL, eR_zF, eR_zG, eR_zA, eR_zJ, eR_s, eR_n, ne_eq, not_false_eq_true, not_true_eq_false, reduceCtorEq, Nat.reduceEqDiff]
  have m37 : zA (seM x1 nr nb nx w h b v0 v1 v2 v3 v4 v5 s f m) 37 = va_up (zA x1 37) b m := by simp only [seM, seM0, seX, enterM, eF_zn, eF_zK, eF_zL, eF_s, eF_n, eF_zG, eF_zA, eF_zJ, eF_zR, eG_zn, eG_zK, eG_zL, eG_zF, eG_s, eG_n, eG_zA, eG_zJ, eG_zR, eA_zn, eA_zK, eA_zL, eA_zF, eA_zG, eA_s, eA_n, eA_zJ, eA_zR, eJ_zn, eJ_zK, eJ_zL, eJ_zF, eJ_zG, eJ_zA, eJ_s, eJ_n, eJ_zR, eR_zn, eR_zK, eR_zL, eR_zF, eR_zG, eR_zA, eR_zJ, eR_s, eR_n, ne_eq, not_false_eq_true, not_true_eq_false, reduceCtorEq, Nat.reduceEqDiff]
  have m34 := six_up (A := zA x1 34) (B := zA (seM x1 nr nb nx w h b v0 v1 v2 v3 v4 v5 s f m) 34) (p := 6 * nr) (v0 := v0) (v1 := v1) (v2 := v2) (v3 := v3) (v4 := v4) (v5 := v5) (by simp only [seM, seM0, seX, enterM, eF_zn, eF_zK, eF_zL, eF_s, eF_n, eF_zG, eF_zA, eF_zJ, eF_zR, eG_zn, eG_zK, eG_zL, eG_zF, eG_s, eG_n, eG_zA, eG_zJ, eG_zR, eA_zn, eA_zK, eA_zL, eA_zF, eA_zG, eA_s, eA_n, eA_zJ, eA_zR, eJ_zn, eJ_zK, eJ_zL, eJ_zF, eJ_zG, eJ_zA, eJ_s, eJ_n, eJ_zR, eR_zn, eR_zK, eR_zL, eR_zF, eR_zG, eR_zA, eR_zJ, eR_s, eR_n, ne_eq, not_false_eq_true, not_true_eq_false, reduceCtorEq, Nat.reduceEqDiff])
  have msm : ∀ a, 48 ≤ a → Sm x1 (seM x1 nr nb nx w h b v0 v1 v2 v3 v4 v5 s f m) a := by
    intro a h1
    unfold seM seM0 seX enterM
    exact Sm.refl x1 a |>.sF (by omega) |>.sA |>.sA |>.sA |>.sA |>.sA |>.sA |>.sA |>.sA |>.sA |>.sA |>.sA |>.sA |>.sA |>.sA |>.sA |>.sA |>.sA |>.sA |>.sF (by omega)
  generalize hzf : seM x1 nr nb nx w h b v0 v1 v2 v3 v4 v5 s f m = zf at *
  clear hzf hzc
  have en : zn zf = zn y := by rw [mn, hR.en, cn]
  have eK : zK zf = zK y := by rw [mK, hR.eK, cK]
  have eL : zL zf = zL y := by rw [mL, hR.eL, cL]
  have eG : zG zf = zG y := by rw [mG, hR.eG, cG]
  have eJ : zJ zf = zJ y := by rw [mJ, hR.eJ, cJ]
  have r2 : zR zf 2 = va_up (zR y 2) nr (some n0) := by rw [mR, hR.eR, cR2]
  have rx : ∀ g, g ≠ 2 → zR zf g = zR y g := fun g hg => by rw [mR, hR.eR, cRx g hg]
  have fc : ∀ g, g ∉ [741, 742, 743, 711] → zF zf g = zF zc g := by
    intro g hg
    have q1 : g ∉ [741, 711] := fun e => hg (by simp only [List.mem_cons, List.not_mem_nil, or_false] at e ⊢; omega)
    have q2 : g ∉ [741, 742, 743] := fun e => hg (by simp only [List.mem_cons, List.not_mem_nil, or_false] at e ⊢; omega)
    rw [mF g q1, hR.eF q2]
  have fx : ∀ g, g ∉ [741, 742, 743, 711, 768, 769, 770, 771, 452, 453, 454, 455, 456, 457, 132, 3, 4, 5, 6] → zF zf g = zF y g := by
    intro g hg
    have q1 : g ∉ [741, 742, 743, 711] := fun e => hg (by simp only [List.mem_cons, List.not_mem_nil, or_false] at e ⊢; omega)
    have q2 : g ∉ [768, 769, 770, 771, 452, 453, 454, 455, 456, 457, 132, 3, 4, 5, 6] := fun e => hg (by simp only [List.mem_cons, List.not_mem_nil, or_false] at e ⊢; omega)
    rw [fc g q1, cF g q2]
  have ac : ∀ g, g ≠ 45 → zA x1 g = zA y g := by
    intro g hg
    rw [hR.eA (fun e => hg (by simpa using e)), cA]
  have ax : ∀ g, g ∉ [45, 34, 35, 36, 37, 18, 19, 20, 21] → zA zf g = zA y g := by
    intro g hg
    have q1 : g ∉ [34, 35, 36, 37, 18, 19, 20, 21] := fun e => hg (by simp only [List.mem_cons, List.not_mem_nil, or_false] at e ⊢; omega)
    have q2 : g ≠ 45 := fun e => hg (by rw [e]; decide)
    rw [mA g q1, ac g q2]
  have a18 : zA zf 18 = va_up (zA y 18) nr 3 := by rw [m18, ac 18 (by decide)]
  have a19 : zA zf 19 = va_up (zA y 19) nr (nI w) := by rw [m19, ac 19 (by decide)]
  have a20 : zA zf 20 = va_up (zA y 20) nr (nI h) := by rw [m20, ac 20 (by decide)]
  have a21 : zA zf 21 = va_up (zA y 21) nr (nI b) := by rw [m21, ac 21 (by decide)]
  have a35 : zA zf 35 = va_up (zA y 35) b s := by rw [m35, ac 35 (by decide)]
  have a36 : zA zf 36 = va_up (zA y 36) b f := by rw [m36, ac 36 (by decide)]
  have a37 : zA zf 37 = va_up (zA y 37) b m := by rw [m37, ac 37 (by decide)]
  obtain ⟨s0, s1, s2, s3, s4, s5, s6⟩ := m34
  have sm : ∀ a, 48 ≤ a → a ≠ n0 → a ≠ b4 → Sm y zf a := fun a h1 h2 h3 => ((csm a h1 h2 h3).trans (hR.sm h1)).trans (msm a h1)
  have hS' : Sh zf := hS.fx en eK eL (fun _ _ _ => by rw [eG])
  have hnum : I_num zf w h nb (nr + 1) ng gv nt nh := num_app hn hr (fun g hg => fx g ((by decide : ∀ f : Nat, f ∈ [704, 705, 647, 706, 646, 717, 133, 739, 257, 753, 194] → f ∉ [741, 742, 743, 711, 768, 769, 770, 771, 452, 453, 454, 455, 456, 457, 132, 3, 4, 5, 6]) g hg)) m711 (by rw [fc 132 (by decide), c132]) (by rw [fx 727 (by decide)]; exact m5) (by rw [fx 134 (by decide)]; exact m5')
  have hnew : recOf zf (168 * w + h) nb gv nr n0 := by
    refine ⟨w1, by rw [en]; exact w2, by rw [fc 768 (by decide), c768, a18, va_up_self], by rw [fc 769 (by decide), c769], by rw [fc 771 (by decide), c771, a21, va_up_self], ⟨w, h, by rw [a19, va_up_self], by rw [a20, va_up_self], n3, n4, by rw [fc 770 (by decide), c770], Nat.le_refl _⟩, ⟨b, hb, by rw [a21, va_up_self]⟩, Or.inr (Or.inr ⟨by rw [a18, va_up_self], by rw [eK]; exact w3, by rw [fc 452 (by decide), c452, s0], by rw [fc 453 (by decide), c453, s1], by rw [fc 454 (by decide), c454, s2], by rw [fc 455 (by decide), c455, s3], by rw [fc 456 (by decide), c456, s4], by rw [fc 457 (by decide), c457, s5], by rw [s4]; exact hv4⟩)⟩
  have hrec' : I_rec zf (168 * w + h) nb (nr + 1) gv := by
    refine hrec.app (by rw [en]; exact Nat.le_refl _) (fun i a hi e => ?_) r2 (fun i hi g hg => ?_) (fun i hi k hk => ?_) (Nat.le_refl _) hnew hlt (fun i _ => by rw [ax 24 (by decide), ax 25 (by decide)]; exact ⟨rfl, rfl⟩)
    · obtain ⟨u1, u2, u3⟩ := hrec.kd hi e
      refine sm a u1 (by have := hlt i a hi e; omega) (fun e2 => ?_)
      rw [e2, k4b.2.1] at u3
      rcases u3 with u | u | u <;> exact absurd u (by decide)
    · simp only [List.mem_cons, List.not_mem_nil, or_false] at hg
      rcases hg with rfl | rfl | rfl | rfl | rfl | rfl | rfl | rfl | rfl | rfl | rfl | rfl | rfl
      · rw [a18, up_old hi]
      · rw [a19, up_old hi]
      · rw [a20, up_old hi]
      · rw [a21, up_old hi]
      · rw [ax 22 (by decide)]
      · rw [ax 23 (by decide)]
      · rw [ax 24 (by decide)]
      · rw [ax 25 (by decide)]
      · rw [ax 27 (by decide)]
      · rw [ax 28 (by decide)]
      · rw [ax 29 (by decide)]
      · rw [ax 30 (by decide)]
      · rw [ax 31 (by decide)]
    · rw [s6 _ (by omega), ac 34 (by decide)]
  have hbk' : I_bk zf nb (nr + 1) := by
    refine ⟨fun j hj => ?_, by rw [rx 16 (by decide)]; exact hbk.2.1, fun j hj => ?_⟩
    · obtain ⟨a, e, p⟩ := hbk.1 j hj
      have p' := p
      obtain ⟨q1, q2, q3, q4, q5, q6, q7, q8, q9, q10, q11⟩ := p'
      have ha : a ≠ n0 := by have := hltb j a hj e; omega
      refine ⟨a, by rw [rx 16 (by decide)]; exact e, p.app (s := 3) (b := nI b) (n0 := n0) (by rw [en]; exact Nat.le_refl _) (by rw [eK]) a18 a21 ?_ ?_ ?_ ?_ ?_ ?_ ?_ r2 (Or.inl ⟨by rw [eG], by rw [ax 38 (by decide)]⟩)⟩
      · rw [fl_app a18 a21 (C := zA y 25) (fun k _ => by rw [ax 25 (by decide)]) (fun e => absurd e (by decide)), fx 0 (by decide), q4]
      · rw [fx 1 (by decide), if_neg (fun t => absurd t.1 (by decide)), Int32.add_zero]
      · rw [fx 2 (by decide), if_neg (fun t => absurd t.1 (by decide)), Int32.add_zero]
      · rw [fc 3 (by decide), c3]
        by_cases ej : j = b
        · subst ej
          rw [hb4] at e
          cases e
          rw [va_up_self, if_pos ⟨rfl, rfl⟩]
        · have hne := hbk.ne hj hb e hb4 ej
          have hne2 : ¬ nI b = nI j := by rw [nI_eq (by omega) (by omega)]; omega
          rw [va_up_ne _ _ hne, if_neg (fun t => hne2 t.2), Int32.add_zero]
      · rw [fc 4 (by decide), c4, a35]
        by_cases ej : j = b
        · subst ej
          rw [hb4] at e
          cases e
          rw [va_up_self, va_up_self]
        · rw [va_up_ne _ _ (hbk.ne hj hb e hb4 ej), va_up_ne _ _ ej, q8]
      · rw [fc 5 (by decide), c5, a36]
        by_cases ej : j = b
        · subst ej
          rw [hb4] at e
          cases e
          rw [va_up_self, va_up_self]
        · rw [va_up_ne _ _ (hbk.ne hj hb e hb4 ej), va_up_ne _ _ ej, q9]
      · rw [fc 6 (by decide), c6, a37]
        by_cases ej : j = b
        · subst ej
          rw [hb4] at e
          cases e
          rw [va_up_self, va_up_self]
        · rw [va_up_ne _ _ (hbk.ne hj hb e hb4 ej), va_up_ne _ _ ej, q10]
    · rw [a35, a36, a37, va_up_ne _ _ (by omega), va_up_ne _ _ (by omega), va_up_ne _ _ (by omega)]
      exact hbk.2.2 j hj
  have hgr' : I_gr zf (nr + 1) ng := hgr.app (ax 26 (by decide)) (rx 3 (by decide)) r2 a18 (ax 24 (by decide)) (hrec.2.2 nr (Nat.le_refl _)).1
  have hgf' : I_gf zf (nr + 1) gv := hgf.app a18 (ax 24 (by decide)) (ax 25 (by decide)) (ax 4 (by decide)) (ax 5 (by decide)) (ax 32 (by decide)) (ax 33 (by decide))
  have hmk' : I_mk zf (nr + 1) := hmk.app (s := 3) (by decide) a18 a19 (ax 22 (by decide)) (ax 23 (by decide)) (by rw [eJ]) (by rw [eJ])
  have htx' : I_tx zf nt := htx.fx en eK eL (fun g hg => fx g ((by decide : ∀ f : Nat, f ∈ [512, 513, 514, 518] → f ∉ [741, 742, 743, 711, 768, 769, 770, 771, 452, 453, 454, 455, 456, 457, 132, 3, 4, 5, 6]) g hg)) (fun g _ => by rw [eG]) (fun c hc => ax c (fun e => by
    simp only [List.mem_cons, List.not_mem_nil, or_false] at e hc
    omega)) (rx 10 (by decide))
  have hst' : I_st zf := hst.fx (fun g hg => fx g ((by decide : ∀ f : Nat, f ∈ [746, 747, 748, 749, 195, 196, 197, 198, 199, 750] → f ∉ [741, 742, 743, 711, 768, 769, 770, 771, 452, 453, 454, 455, 456, 457, 132, 3, 4, 5, 6]) g hg))
  have hsc' : I_sc0 zf := hsc.fx (fun g hg => fx g ((by decide : ∀ f : Nat, f ∈ [718, 648, 651, 719, 649, 744, 650, 745] → f ∉ [741, 742, 743, 711, 768, 769, 770, 771, 452, 453, 454, 455, 456, 457, 132, 3, 4, 5, 6]) g hg))
  have hhv' : I_hv zf w nh := hhv.fx (fun g hg => ax g ((by decide : ∀ f : Nat, f ∈ [46, 47, 14, 15] → f ∉ [45, 34, 35, 36, 37, 18, 19, 20, 21]) g hg))
  have e579 : zF zf 579 11 = zF zf 743 17 := by rw [fx 579 (by decide), mF 743 (by decide), k5]
  have htn' : I_tn zf nb := by
    refine ⟨nb - nx - 1, nb, nb, nx + 1, m741, by rw [mF 742 (by decide)]; exact k4, by rw [fx 577 (by decide)]; exact e577, by rw [fx 578 (by decide)]; exact e578, n8, by omega, n8, by omega, ?_⟩
    rcases Nat.eq_zero_or_pos (nb - nx - 1) with q | q
    · exact Or.inl ⟨q, by omega⟩
    · refine Or.inr ⟨q, rfl, by omega, rfl, ?_⟩
      rw [ax 12 (by decide), mA 45 (by decide)]
      exact k6
  obtain ⟨t1, t2, t3, t4, t5, t6⟩ := hsc'
  exact ⟨hS', ⟨t1, t2, t3, t4, t5, t6, e579⟩, hst', w, h, nb, nr + 1, ng, gv, nt, nh, hnum, hhv', hrec', hbk', hgr', hgf', hmk', htx', htn'⟩
