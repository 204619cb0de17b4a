-- BAKE, together
theorem bakeC_e {N : Nat} {z y z1 : Hp} {n0 w h nr b b4 k n wt gv need : Nat} (hS : Sh z) (hSy : Sh y) (hy : zal z 1 0 = y) (hn0 : zn z = n0) (hb1 : fX11_bakerAt N 0 (nI b) z = some (some b4)) (hk : k ≤ 2) (hn1 : 1 ≤ n) (hn2 : n ≤ 500) (hw1 : 1 ≤ wt) (hw2 : wt ≤ 2000) (hwk : fX11_weekNow N 0 z = some (nI w)) (hbz : b4 < n0) (kbz : zK z b4 = 0) (hbar : zF z 6 b4 ≤ nI w) (n10 : zF z 132 1 = nI nr) (hr : nr < 200) (hneed : n * wt = need) (hfl : nI need ≤ zF z 0 b4) (e132 : zF y 132 1 = nI nr) (e647 : zF y 647 0 = nI (168 * w + h)) (e134 : zF y 134 1 = nI gv) (w2 : n0 < zn y) (w3 : zK y n0 = 1) (hby : b4 < zn y) (kby : zK y b4 = 0) (hT : wh (fun (u : Int32 × Int32 × Hp) => fX2_takeFlour_20 N 1 n0 u.1 u.2.1 u.2.2) N (nI need, (0 : Int32), bkS y n0 nr (168 * w + h) b k n wt gv) = some z1) (q1 : zn z1 = zn y) (q2 : zK z1 = zK y) (q3 : zF z1 0 b4 = zF y 0 b4) (q4 : zF z1 2 b4 = zF y 2 b4) (q5 : zF z1 769 n0 = nI nr) : fX11_bake N 0 (nI b) (nI k) (nI n) (nI wt) z = some (nI nr, bkC y z1 n0 b4 need) := by
  have ho : ¬ (nI k < 0 ∨ 2 < nI k) := nout (x := k) (a := 0) (b := 2) (Nat.zero_le _) hk (by decide)
  have ho2 : ¬ (nI n < 1 ∨ 500 < nI n) := nout (x := n) (a := 1) (b := 500) hn1 hn2 (by decide)
  have ho3 : ¬ (nI wt < 1 ∨ 2000 < nI wt) := nout (x := wt) (a := 1) (b := 2000) hw1 hw2 (by decide)
  have t0 : (0 < n0 ∧ zK z 0 = 10) = True := by rw [← hn0]; exact o0 hS
  have t1 : (1 < n0 ∧ zK z 1 = 2) = True := by rw [← hn0]; exact o1 hS
  have tb : (b4 < n0 ∧ zK z b4 = 0) = True := eq_true ⟨hbz, kbz⟩
  have i0 : fX1_init N n0 (nI nr) (nI (168 * w + h)) (nI b) (nI k) (nI n) (nI wt) y = some (bkI y n0 nr (168 * w + h) b k n wt) := by
    have g5 : (n0 < zn (entZ y n0 nr (168 * w + h) b 2) ∧ zK (entZ y n0 nr (168 * w + h) b 2) n0 = 1) = True := okE (by simp only [entZ, eF_zn, eF_zK, eF_zL, eF_s, eF_n, eF_zG, eF_zA, eF_zJ, eF_zR, eG_zn, eG_zK, eG_zL, eG_zF, eG_s, eG_n, eG_zA, eG_zJ, eG_zR, eA_zn, eA_zK, eA_zL, eA_zF, eA_zG, eA_s, eA_n, eA_zJ, eA_zR, eJ_zn, eJ_zK, eJ_zL, eJ_zF, eJ_zG, eJ_zA, eJ_s, eJ_n, eJ_zR, eR_zn, eR_zK, eR_zL, eR_zF, eR_zG, eR_zA, eR_zJ, eR_s, eR_n]; exact w2) (by simp only [entZ, eF_zn, eF_zK, eF_zL, eF_s, eF_n, eF_zG, eF_zA, eF_zJ, eF_zR, eG_zn, eG_zK, eG_zL, eG_zF, eG_s, eG_n, eG_zA, eG_zJ, eG_zR, eA_zn, eA_zK, eA_zL, eA_zF, eA_zG, eA_s, eA_n, eA_zJ, eA_zR, eJ_zn, eJ_zK, eJ_zL, eJ_zF, eJ_zG, eJ_zA, eJ_s, eJ_n, eJ_zR, eR_zn, eR_zK, eR_zL, eR_zF, eR_zG, eR_zA, eR_zJ, eR_s, eR_n]; exact w3)
    simp only [fX1_init, entZ_e (eq_true ⟨w2, Or.inl w3⟩), gdT, brTr, brFa, br_00, br_10, bd_e, bo_s, bp_s, cs_s, cs_n, lf_s, g5, bkI]
  have hSa : Sh (bkI y n0 nr (168 * w + h) b k n wt) := hSy.sF.sF.sF.sF.sF.sF.sF
  have ka : zK (bkI y n0 nr (168 * w + h) b k n wt) n0 = 1 := by simp only [bkI, entZ, eF_zn, eF_zK, eF_zL, eF_s, eF_n, eF_zG, eF_zA, eF_zJ, eF_zR, eG_zn, eG_zK, eG_zL, eG_zF, eG_s, eG_n, eG_zA, eG_zJ, eG_zR, eA_zn, eA_zK, eA_zL, eA_zF, eA_zG, eA_s, eA_n, eA_zJ, eA_zR, eJ_zn, eJ_zK, eJ_zL, eJ_zF, eJ_zG, eJ_zA, eJ_s, eJ_n, eJ_zR, eR_zn, eR_zK, eR_zL, eR_zF, eR_zG, eR_zA, eR_zJ, eR_s, eR_n]; exact w3
  have va : n0 < zn (bkI y n0 nr (168 * w + h) b k n wt) := by simp only [bkI, entZ, eF_zn, eF_zK, eF_zL, eF_s, eF_n, eF_zG, eF_zA, eF_zJ, eF_zR, eG_zn, eG_zK, eG_zL, eG_zF, eG_s, eG_n, eG_zA, eG_zJ, eG_zR, eA_zn, eA_zK, eA_zL, eA_zF, eA_zG, eA_s, eA_n, eA_zJ, eA_zR, eJ_zn, eJ_zK, eJ_zL, eJ_zF, eJ_zG, eJ_zA, eJ_s, eJ_n, eJ_zR, eR_zn, eR_zK, eR_zL, eR_zF, eR_zG, eR_zA, eR_zJ, eR_s, eR_n]; exact w2
  have f132 : zF (bkI y n0 nr (168 * w + h) b k n wt) 132 1 = nI nr := by simp only [bkI, entZ, eF_zn, eF_zK, eF_zL, eF_s, eF_n, eF_zG, eF_zA, eF_zJ, eF_zR, eG_zn, eG_zK, eG_zL, eG_zF, eG_s, eG_n, eG_zA, eG_zJ, eG_zR, eA_zn, eA_zK, eA_zL, eA_zF, eA_zG, eA_s, eA_n, eA_zJ, eA_zR, eJ_zn, eJ_zK, eJ_zL, eJ_zF, eJ_zG, eJ_zA, eJ_s, eJ_n, eJ_zR, eR_zn, eR_zK, eR_zL, eR_zF, eR_zG, eR_zA, eR_zJ, eR_s, eR_n, ne_eq, not_false_eq_true, not_true_eq_false, reduceCtorEq, Nat.reduceEqDiff]; exact e132
  have hE := enterC_e (N := N) (n0 := n0) hSa f132 hr (eq_true ⟨va, Or.inl ka⟩)
  have hSb : Sh (enterC (bkI y n0 nr (168 * w + h) b k n wt) n0 nr) := hSa.sR.sF
  have kb : (n0 < zn (enterC (bkI y n0 nr (168 * w + h) b k n wt) n0 nr) ∧ zK (enterC (bkI y n0 nr (168 * w + h) b k n wt) n0 nr) n0 = 1) = True := okE (by simp only [enterC, bkI, entZ, eF_zn, eF_zK, eF_zL, eF_s, eF_n, eF_zG, eF_zA, eF_zJ, eF_zR, eG_zn, eG_zK, eG_zL, eG_zF, eG_s, eG_n, eG_zA, eG_zJ, eG_zR, eA_zn, eA_zK, eA_zL, eA_zF, eA_zG, eA_s, eA_n, eA_zJ, eA_zR, eJ_zn, eJ_zK, eJ_zL, eJ_zF, eJ_zG, eJ_zA, eJ_s, eJ_n, eJ_zR, eR_zn, eR_zK, eR_zL, eR_zF, eR_zG, eR_zA, eR_zJ, eR_s, eR_n]; exact w2) (by simp only [enterC, bkI, entZ, eF_zn, eF_zK, eF_zL, eF_s, eF_n, eF_zG, eF_zA, eF_zJ, eF_zR, eG_zn, eG_zK, eG_zL, eG_zF, eG_s, eG_n, eG_zA, eG_zJ, eG_zR, eA_zn, eA_zK, eA_zL, eA_zF, eA_zG, eA_s, eA_n, eA_zJ, eA_zR, eJ_zn, eJ_zK, eJ_zL, eJ_zF, eJ_zG, eJ_zA, eJ_s, eJ_n, eJ_zR, eR_zn, eR_zK, eR_zL, eR_zF, eR_zG, eR_zA, eR_zJ, eR_s, eR_n]; exact w3)
  have f69 : zF (enterC (bkI y n0 nr (168 * w + h) b k n wt) n0 nr) 69 n0 = nI n := by simp only [enterC, bkI, entZ, eF_zn, eF_zK, eF_zL, eF_s, eF_n, eF_zG, eF_zA, eF_zJ, eF_zR, eG_zn, eG_zK, eG_zL, eG_zF, eG_s, eG_n, eG_zA, eG_zJ, eG_zR, eA_zn, eA_zK, eA_zL, eA_zF, eA_zG, eA_s, eA_n, eA_zJ, eA_zR, eJ_zn, eJ_zK, eJ_zL, eJ_zF, eJ_zG, eJ_zA, eJ_s, eJ_n, eJ_zR, eR_zn, eR_zK, eR_zL, eR_zF, eR_zG, eR_zA, eR_zJ, eR_s, eR_n, ne_eq, not_false_eq_true, not_true_eq_false, reduceCtorEq, Nat.reduceEqDiff, va_up_self]
  have f70 : zF (enterC (bkI y n0 nr (168 * w + h) b k n wt) n0 nr) 70 n0 = nI wt := by simp only [enterC, bkI, entZ, eF_zn, eF_zK, eF_zL, eF_s, eF_n, eF_zG, eF_zA, eF_zJ, eF_zR, eG_zn, eG_zK, eG_zL, eG_zF, eG_s, eG_n, eG_zA, eG_zJ, eG_zR, eA_zn, eA_zK, eA_zL, eA_zF, eA_zG, eA_s, eA_n, eA_zJ, eA_zR, eJ_zn, eJ_zK, eJ_zL, eJ_zF, eJ_zG, eJ_zA, eJ_s, eJ_n, eJ_zR, eR_zn, eR_zK, eR_zL, eR_zF, eR_zG, eR_zA, eR_zJ, eR_s, eR_n, ne_eq, not_false_eq_true, not_true_eq_false, reduceCtorEq, Nat.reduceEqDiff, va_up_self]
  have f134 : zF (enterC (bkI y n0 nr (168 * w + h) b k n wt) n0 nr) 134 1 = nI gv := by simp only [enterC, bkI, entZ, eF_zn, eF_zK, eF_zL, eF_s, eF_n, eF_zG, eF_zA, eF_zJ, eF_zR, eG_zn, eG_zK, eG_zL, eG_zF, eG_s, eG_n, eG_zA, eG_zJ, eG_zR, eA_zn, eA_zK, eA_zL, eA_zF, eA_zG, eA_s, eA_n, eA_zJ, eA_zR, eJ_zn, eJ_zK, eJ_zL, eJ_zF, eJ_zG, eJ_zA, eJ_s, eJ_n, eJ_zR, eR_zn, eR_zK, eR_zL, eR_zF, eR_zG, eR_zA, eR_zJ, eR_s, eR_n, ne_eq, not_false_eq_true, not_true_eq_false, reduceCtorEq, Nat.reduceEqDiff]; exact e134
  have eS : zsF (enterC (bkI y n0 nr (168 * w + h) b k n wt) n0 nr) 71 n0 (nI gv) = bkS y n0 nr (168 * w + h) b k n wt gv := rfl
  have hTk : fX2_takeFlour N 1 n0 (enterC (bkI y n0 nr (168 * w + h) b k n wt) n0 nr) = some z1 := by
    unfold fX2_takeFlour
    rw [gd_t (of_eq_true kb), f69, f70, pk_mul, hneed, bd_e, gd_t (of_eq_true (o1 hSb)), f134, eS, bd_e]
    exact hT
  have b5 : (b4 < zn z1 ∧ zK z1 b4 = 0) = True := okE (by rw [q1]; exact hby) (by rw [q2]; exact kby)
  have g2 : zF (zsF z1 0 b4 (zF y 0 b4 - nI need)) 2 b4 = zF y 2 b4 := by rw [eF_n _ _ _ _ (by decide)]; exact q4
  have eC : zsG (zsF (zsF z1 0 b4 (zF y 0 b4 - nI need)) 2 b4 (zF y 2 b4 + 1)) 7 b4 (some n0) = bkC y z1 n0 b4 need := rfl
  have k7 : (n0 < zn (bkC y z1 n0 b4 need) ∧ zK (bkC y z1 n0 b4 need) n0 = 1) = True := okE (by simp only [bkC, eF_zn, eF_zK, eF_zL, eF_s, eF_n, eF_zG, eF_zA, eF_zJ, eF_zR, eG_zn, eG_zK, eG_zL, eG_zF, eG_s, eG_n, eG_zA, eG_zJ, eG_zR, eA_zn, eA_zK, eA_zL, eA_zF, eA_zG, eA_s, eA_n, eA_zJ, eA_zR, eJ_zn, eJ_zK, eJ_zL, eJ_zF, eJ_zG, eJ_zA, eJ_s, eJ_n, eJ_zR, eR_zn, eR_zK, eR_zL, eR_zF, eR_zG, eR_zA, eR_zJ, eR_s, eR_n]; rw [q1]; exact w2) (by simp only [bkC, eF_zn, eF_zK, eF_zL, eF_s, eF_n, eF_zG, eF_zA, eF_zJ, eF_zR, eG_zn, eG_zK, eG_zL, eG_zF, eG_s, eG_n, eG_zA, eG_zJ, eG_zR, eA_zn, eA_zK, eA_zL, eA_zF, eA_zG, eA_s, eA_n, eA_zJ, eA_zR, eJ_zn, eJ_zK, eJ_zL, eJ_zF, eJ_zG, eJ_zA, eJ_s, eJ_n, eJ_zR, eR_zn, eR_zK, eR_zL, eR_zF, eR_zG, eR_zA, eR_zJ, eR_s, eR_n]; rw [q2]; exact w3)
  have f769 : zF (bkC y z1 n0 b4 need) 769 n0 = nI nr := by simp only [bkC, eF_zn, eF_zK, eF_zL, eF_s, eF_n, eF_zG, eF_zA, eF_zJ, eF_zR, eG_zn, eG_zK, eG_zL, eG_zF, eG_s, eG_n, eG_zA, eG_zJ, eG_zR, eA_zn, eA_zK, eA_zL, eA_zF, eA_zG, eA_s, eA_n, eA_zJ, eA_zR, eJ_zn, eJ_zK, eJ_zL, eJ_zF, eJ_zG, eJ_zA, eJ_s, eJ_n, eJ_zR, eR_zn, eR_zK, eR_zL, eR_zF, eR_zG, eR_zA, eR_zJ, eR_s, eR_n, ne_eq, not_false_eq_true, not_true_eq_false, reduceCtorEq, Nat.reduceEqDiff]; exact q5
  simp only [fX11_bake_46, fX11_bake, gdT, brTr, brFa, br_00, br_10, bd_e, bo_s, bp_s, cs_s, cs_n, lf_s, hn0, t0, t1, tb, hb1, out_0 ho, out_0 ho2, out_0 ho3, hwk, br_y hbar, g640 hS, isFull_0 hS n10 hr, pk_mul, hneed, br_y hfl, hy, g640 hSy, o1 hSy, e132, e647, i0, o0 hSa, o1 hSa, g640 hSa, hE, o0 hSb, o1 hSb, g640 hSb, hTk, b5, q3, g2, eC, k7, f769]
theorem bakeM_e {N : Nat} {x : Hp} {nb nr b k n wt gv need w : Nat} {fl : Int32} {R : Int32 × Hp} (hS : Sh x) (n6 : zF x 706 17 = nI nb) (n8 : nb ≤ 8) (hb : b < nb) (hk : k ≤ 2) (hn1 : 1 ≤ n) (hn2 : n ≤ 500) (hw1 : 1 ≤ wt) (hw2 : wt ≤ 2000) (e704 : zF x 704 17 = nI w) (hbar : zA x 37 b ≤ nI w) (n9 : zF x 711 17 = nI nr) (hr : nr < 200) (hneed : n * wt = need) (hfo : fX12_flourOf N 17 (nI b) x = some fl) (hfl : nI need ≤ fl) (e727 : zF x 727 17 = nI gv) (hW : wh (fun (u : Int32 × Int32 × Hp) => fX12_bake_143 N 17 (nI b) u.1 (nI nr) u.2.1 u.2.2) N (nI need, (0 : Int32), bkX x nr k n wt gv) = some R) : fX12_bake N 17 (nI b) (nI k) (nI n) (nI wt) x = some R := by
  have ho : ¬ (nI k < 0 ∨ 2 < nI k) := nout (x := k) (a := 0) (b := 2) (Nat.zero_le _) hk (by decide)
  have ho2 : ¬ (nI n < 1 ∨ 500 < nI n) := nout (x := n) (a := 1) (b := 500) hn1 hn2 (by decide)
  have ho3 : ¬ (nI wt < 1 ∨ 2000 < nI wt) := nout (x := wt) (a := 1) (b := 2000) hw1 hw2 (by decide)
  have c2 : ¬ nI nr = 200 := by rw [show (200 : Int32) = nI 200 from rfl, nI_eq (by omega) (by decide)]; omega
  have eX : zsA (zsA (zsA (zsA x 27 nr (nI k)) 28 nr (nI n)) 29 nr (nI wt)) 30 nr (nI gv) = bkX x nr k n wt gv := rfl
  simp only [fX12_bake, gdT, brTr, brFa, br_00, br_10, bd_e, bo_s, bp_s, cs_s, cs_n, lf_s, eF_zn, eF_zK, eF_zL, eF_s, eF_n, eF_zG, eF_zA, eF_zJ, eF_zR, eG_zn, eG_zK, eG_zL, eG_zF, eG_s, eG_n, eG_zA, eG_zJ, eG_zR, eA_zn, eA_zK, eA_zL, eA_zF, eA_zG, eA_s, eA_n, eA_zJ, eA_zR, eJ_zn, eJ_zK, eJ_zL, eJ_zF, eJ_zG, eJ_zA, eJ_s, eJ_n, eJ_zR, eR_zn, eR_zK, eR_zL, eR_zF, eR_zG, eR_zA, eR_zJ, eR_s, eR_n, ne_eq, not_false_eq_true, not_true_eq_false, reduceCtorEq, Nat.reduceEqDiff, o17 hS, isBak_1 hS n6 n8 hb, in_1 (A := 0) (B := 2) (a := 0) (b := 2) rfl rfl ho, in_1 (A := 1) (B := 500) (a := 1) (b := 500) rfl rfl ho2, in_1 (A := 1) (B := 2000) (a := 1) (b := 2000) rfl rfl ho3, g731 hS, o37 hS, l37 hS, inb (show b < 8 by omega) (by decide), nI_clamp (show b < 2 ^ 31 by omega), e704, br_y hbar, n9, br_n c2, pk_mul, hneed, hfo, br_y hfl, g720 hS, o27 hS, l27 hS, g721 hS, o28 hS, l28 hS, g722 hS, o29 hS, l29 hS, g723 hS, o30 hS, l30 hS, inb hr (by decide), nI_clamp (show nr < 2 ^ 31 by omega), e727, eX]
  exact hW
theorem op_bake (N : Nat) (hN : 6000 ≤ N) : Op_bake N Inv := by
  intro z a1 a2 a3 a4 hI
  obtain ⟨hS, hsc, hst, w, h, nb, nr, ng, gv, nt, nh, hn, hhv, hrec, hbk, hgr, hgf, hmk, htx, htn⟩ := id hI
  obtain ⟨⟨n1, n2, n3, n4, n5⟩, ⟨n6, n7, n8⟩, ⟨n9, n10, n11⟩, m4, m5, m6, m7⟩ := id hn
  have hwk := weekNow_e (N := N) hS hn
  by_cases hb0 : a1 < 0 ∨ nI nb ≤ a1
  · refine ⟨-1, z, z, ?_, of_eq_true (o17 hS), ?_, hI⟩
    · simp only [fX11_bake, gdT, brTr, brFa, br_00, br_10, bd_e, bo_s, bp_s, cs_s, cs_n, lf_s, o0 hS, baker_0 hS n7 hb0]
    · simp only [fX12_bake, gdT, brTr, brFa, br_00, br_10, bd_e, bo_s, bp_s, cs_s, cs_n, lf_s, o17 hS, isBak_0 hS n6 n8 hb0]
  obtain ⟨b, rfl, hb⟩ := nI_idx (by omega) hb0
  obtain ⟨b4, e4, pb⟩ := hbk.1 b hb
  have hb1 := baker_1 (N := N) hS n7 n8 hb
  rw [e4] at hb1
  by_cases ho : a2 < 0 ∨ 2 < a2
  · refine ⟨-2, z, z, ?_, of_eq_true (o17 hS), ?_, hI⟩
    · simp only [fX11_bake, fX11_bake_46, gdT, brTr, brFa, br_00, br_10, bd_e, bo_s, bp_s, cs_s, cs_n, lf_s, o0 hS, hb1, out_1 ho]
    · simp only [fX12_bake, fX12_bake_47, gdT, brTr, brFa, br_00, br_10, bd_e, bo_s, bp_s, cs_s, cs_n, lf_s, o17 hS, isBak_1 hS n6 n8 hb, in_0 (A := 0) (B := 2) (a := 0) (b := 2) rfl rfl ho]
  by_cases ho2 : a3 < 1 ∨ 500 < a3
  · refine ⟨-2, z, z, ?_, of_eq_true (o17 hS), ?_, hI⟩
    · simp only [fX11_bake, fX11_bake_46, gdT, brTr, brFa, br_00, br_10, bd_e, bo_s, bp_s, cs_s, cs_n, lf_s, o0 hS, hb1, out_0 ho, out_1 ho2]
    · simp only [fX12_bake, fX12_bake_47, gdT, brTr, brFa, br_00, br_10, bd_e, bo_s, bp_s, cs_s, cs_n, lf_s, o17 hS, isBak_1 hS n6 n8 hb, in_1 (A := 0) (B := 2) (a := 0) (b := 2) rfl rfl ho, in_0 (A := 1) (B := 500) (a := 1) (b := 500) rfl rfl ho2]
  by_cases ho3 : a4 < 1 ∨ 2000 < a4
  · refine ⟨-2, z, z, ?_, of_eq_true (o17 hS), ?_, hI⟩
    · simp only [fX11_bake, fX11_bake_46, gdT, brTr, brFa, br_00, br_10, bd_e, bo_s, bp_s, cs_s, cs_n, lf_s, o0 hS, hb1, out_0 ho, out_0 ho2, out_1 ho3]
    · simp only [fX12_bake, fX12_bake_47, gdT, brTr, brFa, br_00, br_10, bd_e, bo_s, bp_s, cs_s, cs_n, lf_s, o17 hS, isBak_1 hS n6 n8 hb, in_1 (A := 0) (B := 2) (a := 0) (b := 2) rfl rfl ho, in_1 (A := 1) (B := 500) (a := 1) (b := 500) rfl rfl ho2, in_0 (A := 1) (B := 2000) (a := 1) (b := 2000) rfl rfl ho3]
  have e6 : zF z 6 b4 = zA z 37 b := pb.2.2.2.2.2.2.2.2.2.1
  have kb : (b4 < zn z ∧ zK z b4 = 0) = True := okE pb.2.1 pb.2.2.1
  by_cases hbar : zA z 37 b ≤ nI w
  case neg =>
    refine ⟨-3, z, z, ?_, of_eq_true (o17 hS), ?_, hI⟩
    · simp only [fX11_bake, gdT, brTr, brFa, br_00, br_10, bd_e, bo_s, bp_s, cs_s, cs_n, lf_s, o0 hS, hb1, out_0 ho, out_0 ho2, out_0 ho3, hwk, kb, e6, br_n hbar]
    · simp only [fX12_bake, gdT, brTr, brFa, br_00, br_10, bd_e, bo_s, bp_s, cs_s, cs_n, lf_s, o17 hS, isBak_1 hS n6 n8 hb, in_1 (A := 0) (B := 2) (a := 0) (b := 2) rfl rfl ho, in_1 (A := 1) (B := 500) (a := 1) (b := 500) rfl rfl ho2, in_1 (A := 1) (B := 2000) (a := 1) (b := 2000) rfl rfl ho3, g731 hS, o37 hS, l37 hS, inb (show b < 8 by omega) (by decide), nI_clamp (show b < 2 ^ 31 by omega), n1, br_n hbar]
  by_cases hr : nr = 200
  · have c2 : nI nr = 200 := by rw [hr]; rfl
    refine ⟨-4, z, z, ?_, of_eq_true (o17 hS), ?_, hI⟩
    · simp only [fX11_bake, gdT, brTr, brFa, br_00, br_10, bd_e, bo_s, bp_s, cs_s, cs_n, lf_s, o0 hS, hb1, out_0 ho, out_0 ho2, out_0 ho3, hwk, kb, e6, br_y hbar, g640 hS, o1 hS, isFull_1 hS n10 hr]
    · simp only [fX12_bake, gdT, brTr, brFa, br_00, br_10, bd_e, bo_s, bp_s, cs_s, cs_n, lf_s, o17 hS, isBak_1 hS n6 n8 hb, in_1 (A := 0) (B := 2) (a := 0) (b := 2) rfl rfl ho, in_1 (A := 1) (B := 500) (a := 1) (b := 500) rfl rfl ho2, in_1 (A := 1) (B := 2000) (a := 1) (b := 2000) rfl rfl ho3, g731 hS, o37 hS, l37 hS, inb (show b < 8 by omega) (by decide), nI_clamp (show b < 2 ^ 31 by omega), n1, br_y hbar, n9, br_y c2]
  have hr2 : nr < 200 := by omega
  have c2 : ¬ nI nr = 200 := by rw [show (200 : Int32) = nI 200 from rfl, nI_eq (by omega) (by decide)]; exact hr
  have e0 : zF z 0 b4 = flS (zA z 18) (zA z 21) (zA z 25) (nI b) nr := pb.2.2.2.1
  have hfo := flourOf_e (N := N) (b := nI b) hN hS n9 n11
  by_cases hno : a3 * a4 ≤ flS (zA z 18) (zA z 21) (zA z 25) (nI b) nr
  case neg =>
    refine ⟨-5, z, z, ?_, of_eq_true (o17 hS), ?_, hI⟩
    · simp only [fX11_bake, gdT, brTr, brFa, br_00, br_10, bd_e, bo_s, bp_s, cs_s, cs_n, lf_s, o0 hS, hb1, out_0 ho, out_0 ho2, out_0 ho3, hwk, kb, e6, br_y hbar, g640 hS, o1 hS, isFull_0 hS n10 hr2, e0, br_n hno]
    · simp only [fX12_bake, gdT, brTr, brFa, br_00, br_10, bd_e, bo_s, bp_s, cs_s, cs_n, lf_s, o17 hS, isBak_1 hS n6 n8 hb, in_1 (A := 0) (B := 2) (a := 0) (b := 2) rfl rfl ho, in_1 (A := 1) (B := 500) (a := 1) (b := 500) rfl rfl ho2, in_1 (A := 1) (B := 2000) (a := 1) (b := 2000) rfl rfl ho3, g731 hS, o37 hS, l37 hS, inb (show b < 8 by omega) (by decide), nI_clamp (show b < 2 ^ 31 by omega), n1, br_y hbar, n9, br_n c2, hfo, br_n hno]
  obtain ⟨k, rfl, -, hk⟩ := nI_rng (a := 0) (b := 2) (by decide) (by decide) ho
  obtain ⟨n, rfl, hn1, hn2⟩ := nI_rng (a := 1) (b := 500) (by decide) (by decide) ho2
  obtain ⟨wt, rfl, hw1, hw2⟩ := nI_rng (a := 1) (b := 2000) (by decide) (by decide) ho3
  obtain ⟨need, hneed⟩ : ∃ need, n * wt = need := ⟨_, rfl⟩
  have hm : need ≤ 1000000 := by rw [← hneed]; exact mul_b hn2 hw2
  rw [pk_mul, hneed] at hno
  have hSy : Sh (zal z 1 0) := hS.al
  have hnw := Nw.of (k := 1) (len := 0) hS
  have yA : ∀ c, c < 48 → zA (zal z 1 0) c = zA z c := fun c hc => al_A _ _ _ (ne_n hS hc)
  have yR : ∀ c, c < 48 → zR (zal z 1 0) c = zR z c := fun c hc => al_R _ _ _ (ne_n hS hc)
  have hlt : ∀ i a, i < nr → zR (zal z 1 0) 2 i = some a → a < zn z := by
    intro i a hi e
    rw [yR 2 (by decide)] at e
    exact (hrec.kd hi e).2.1
  have hltb : ∀ j a, j < nb → zR (zal z 1 0) 16 j = some a → a < zn z := by
    intro j a hj e
    rw [yR 16 (by decide)] at e
    obtain ⟨a', e', p⟩ := hbk.1 j hj
    rw [e'] at e
    cases e
    exact p.2.1
  have hbz : b4 < zn z := pb.2.1
  have kbz : zK z b4 = 0 := pb.2.2.1
  have kby : zK (zal z 1 0) b4 = 0 := by rw [al_K, va_up_ne _ _ (by omega)]; exact kbz
  have y0 : zF (zal z 1 0) 0 b4 = zF z 0 b4 := by rw [al_F, va_up_ne _ _ (by omega)]
  have hscy := hsc.al (k := 1) (n := 0) hS
  have hsty := hst.al (k := 1) (n := 0) hS
  have hny := hn.al (k := 1) (n := 0) hS
  have hhvy := hhv.al (k := 1) (n := 0) hS
  have hrecy := hrec.al (k := 1) (n := 0) hS
  have hbky := hbk.al (k := 1) (n := 0) hS
  have hgry := hgr.al (k := 1) (n := 0) hS
  have hgfy := hgf.al (k := 1) (n := 0) hS
  have hmky := hmk.al (k := 1) (n := 0) hS
  have htxy := htx.al (k := 1) (n := 0) hS
  have htny := htn.al (k := 1) (n := 0) hS
  have e4y : zR (zal z 1 0) 16 b = some b4 := by rw [yR 16 (by decide)]; exact e4
  have hfly : nI need ≤ flS (zA (zal z 1 0) 18) (zA (zal z 1 0) 21) (zA (zal z 1 0) 25) (nI b) nr := by rw [yA 18 (by decide), yA 21 (by decide), yA 25 (by decide)]; exact hno
  have hbary : zA (zal z 1 0) 37 b ≤ nI w := by rw [yA 37 (by decide)]; exact hbar
  rw [← e0] at hno
  rw [← e6] at hbar
  have hby : b4 < zn (zal z 1 0) := by rw [al_n]; omega
  generalize hy : zal z 1 0 = y at *
  generalize hn0 : zn z = n0 at *
  obtain ⟨w1, w2, w3, w4, w5⟩ := id hnw
  obtain ⟨⟨p1, p2, -, -, p5⟩, ⟨p6, p7, -⟩, ⟨p9, p10, -⟩, ⟨p11, p12, p13⟩, ⟨p16, p17⟩, -, -⟩ := id hny
  -- the lots
  obtain ⟨I, hI2⟩ : ∃ I : Nat → Nat, ∀ g, I g = (zA y 26 g).toNatClampNeg := ⟨_, fun _ => rfl⟩
  have hIg : ∀ g, g < ng → I g < nr ∧ zA y 26 g = nI (I g) ∧ zR y 3 g = zR y 2 (I g) ∧ zA y 18 (I g) = 1 ∧ zA y 24 (I g) = 1 := by
    intro g hg
    obtain ⟨i, i1, i2, i3, i4, i5⟩ := hgry.1 g hg
    have e : I g = i := by rw [hI2, i2, nI_clamp (by omega)]
    rw [e]
    exact ⟨i1, i2, i3, i4, i5⟩
  have hL : LotsOk I (zA y 18) (zA y 24) nr ng := ⟨fun g hg => ⟨(hIg g hg).1, (hIg g hg).2.2.2⟩, fun g g' h1 h2 e => hgry.2.1 g g' h1 h2 (by rw [(hIg g (by omega)).2.1, (hIg g' h2).2.1, e])⟩
  have hlot : ∀ i a, i < nr → zR y 2 i = some a → zA y 18 i = 1 → lotOf y i a ∧ recOf y (168 * w + h) nb gv i a := by
    intro i a hi e1 e2
    obtain ⟨a', e, q⟩ := hrecy.1 i hi
    rw [e1] at e
    cases e
    refine ⟨?_, q⟩
    rcases q.2.2.2.2.2.2.2 with p | p | p
    · exact p
    · have p' := p.1
      rw [e2] at p'
      exact absurd p' (by decide)
    · have p' := p.1
      rw [e2] at p'
      exact absurd p' (by decide)
  have hfl : FlOk I (zA y 25) ng := by
    intro g hg
    obtain ⟨q1, q2, q3, q4, q5⟩ := hIg g hg
    obtain ⟨a, e, -⟩ := hrecy.1 (I g) q1
    obtain ⟨l, -⟩ := hlot (I g) a q1 e q4
    rcases l.2.2.2.2.2.2.2.2 with u | u
    · rw [q5] at u
      exact absurd u.1 (by decide)
    · exact u.2
  have hcb : ∀ m, m ≤ ng → 0 < (tkN I (zA y 21) b (need, zA y 25, gv) m).1 → (tkN I (zA y 21) b (need, zA y 25, gv) m).2.2 < 200 := by
    intro m hm2 h0
    have q1 := (tk_used (B := zA y 21) (b := b) (s0 := (need, zA y 25, gv)) hfl hL hgfy.1 m hm2).1 h0
    have q2 := usedR_le (zA y 18) (zA y 24) (tkN I (zA y 21) b (need, zA y 25, gv) m).2.1 nr
    omega
  -- the class
  have sF := bkS_F (y := y) (n0 := n0) (nr := nr) (t := 168 * w + h) (b := b) (k := k) (n := n) (wt := wt) (gv := gv)
  have sA : zA (bkS y n0 nr (168 * w + h) b k n wt gv) = zA y := by simp only [bkS, bkI, enterC, entZ, eF_zn, eF_zK, eF_zL, eF_s, eF_n, eF_zG, eF_zA, eF_zJ, eF_zR, eG_zn, eG_zK, eG_zL, eG_zF, eG_s, eG_n, eG_zA, eG_zJ, eG_zR, eA_zn, eA_zK, eA_zL, eA_zF, eA_zG, eA_s, eA_n, eA_zJ, eA_zR, eJ_zn, eJ_zK, eJ_zL, eJ_zF, eJ_zG, eJ_zA, eJ_s, eJ_n, eJ_zR, eR_zn, eR_zK, eR_zL, eR_zF, eR_zG, eR_zA, eR_zJ, eR_s, eR_n]
  have sn : zn (bkS y n0 nr (168 * w + h) b k n wt gv) = zn y := by simp only [bkS, bkI, enterC, entZ, eF_zn, eF_zK, eF_zL, eF_s, eF_n, eF_zG, eF_zA, eF_zJ, eF_zR, eG_zn, eG_zK, eG_zL, eG_zF, eG_s, eG_n, eG_zA, eG_zJ, eG_zR, eA_zn, eA_zK, eA_zL, eA_zF, eA_zG, eA_s, eA_n, eA_zJ, eA_zR, eJ_zn, eJ_zK, eJ_zL, eJ_zF, eJ_zG, eJ_zA, eJ_s, eJ_n, eJ_zR, eR_zn, eR_zK, eR_zL, eR_zF, eR_zG, eR_zA, eR_zJ, eR_s, eR_n]
  have sK : zK (bkS y n0 nr (168 * w + h) b k n wt gv) = zK y := by simp only [bkS, bkI, enterC, entZ, eF_zn, eF_zK, eF_zL, eF_s, eF_n, eF_zG, eF_zA, eF_zJ, eF_zR, eG_zn, eG_zK, eG_zL, eG_zF, eG_s, eG_n, eG_zA, eG_zJ, eG_zR, eA_zn, eA_zK, eA_zL, eA_zF, eA_zG, eA_s, eA_n, eA_zJ, eA_zR, eJ_zn, eJ_zK, eJ_zL, eJ_zF, eJ_zG, eJ_zA, eJ_s, eJ_n, eJ_zR, eR_zn, eR_zK, eR_zL, eR_zF, eR_zG, eR_zA, eR_zJ, eR_s, eR_n]
  have hS0 : Sh (bkS y n0 nr (168 * w + h) b k n wt gv) := hSy.sF.sF.sF.sF.sF.sF.sF.sR.sF.sF
  have sR2 : zR (bkS y n0 nr (168 * w + h) b k n wt gv) 2 = va_up (zR y 2) nr (some n0) := by simp only [bkS, bkI, enterC, entZ, eF_zn, eF_zK, eF_zL, eF_s, eF_n, eF_zG, eF_zA, eF_zJ, eF_zR, eG_zn, eG_zK, eG_zL, eG_zF, eG_s, eG_n, eG_zA, eG_zJ, eG_zR, eA_zn, eA_zK, eA_zL, eA_zF, eA_zG, eA_s, eA_n, eA_zJ, eA_zR, eJ_zn, eJ_zK, eJ_zL, eJ_zF, eJ_zG, eJ_zA, eJ_s, eJ_n, eJ_zR, eR_zn, eR_zK, eR_zL, eR_zF, eR_zG, eR_zA, eR_zJ, eR_s, eR_n]
  have sR3 : zR (bkS y n0 nr (168 * w + h) b k n wt gv) 3 = zR y 3 := by simp only [bkS, bkI, enterC, entZ, eF_zn, eF_zK, eF_zL, eF_s, eF_n, eF_zG, eF_zA, eF_zJ, eF_zR, eG_zn, eG_zK, eG_zL, eG_zF, eG_s, eG_n, eG_zA, eG_zJ, eG_zR, eA_zn, eA_zK, eA_zL, eA_zF, eA_zG, eA_s, eA_n, eA_zJ, eA_zR, eJ_zn, eJ_zK, eJ_zL, eJ_zF, eJ_zG, eJ_zA, eJ_s, eJ_n, eJ_zR, eR_zn, eR_zK, eR_zL, eR_zF, eR_zG, eR_zA, eR_zJ, eR_s, eR_n, ne_eq, not_false_eq_true, not_true_eq_false, reduceCtorEq, Nat.reduceEqDiff]
  have s771 : zF (bkS y n0 nr (168 * w + h) b k n wt gv) 771 n0 = nI b := by simp only [bkS, bkI, enterC, entZ, eF_zn, eF_zK, eF_zL, eF_s, eF_n, eF_zG, eF_zA, eF_zJ, eF_zR, eG_zn, eG_zK, eG_zL, eG_zF, eG_s, eG_n, eG_zA, eG_zJ, eG_zR, eA_zn, eA_zK, eA_zL, eA_zF, eA_zG, eA_s, eA_n, eA_zJ, eA_zR, eJ_zn, eJ_zK, eJ_zL, eJ_zF, eJ_zG, eJ_zA, eJ_s, eJ_n, eJ_zR, eR_zn, eR_zK, eR_zL, eR_zF, eR_zG, eR_zA, eR_zJ, eR_s, eR_n, ne_eq, not_false_eq_true, not_true_eq_false, reduceCtorEq, Nat.reduceEqDiff, va_up_self]
  have s769 : zF (bkS y n0 nr (168 * w + h) b k n wt gv) 769 n0 = nI nr := by simp only [bkS, bkI, enterC, entZ, eF_zn, eF_zK, eF_zL, eF_s, eF_n, eF_zG, eF_zA, eF_zJ, eF_zR, eG_zn, eG_zK, eG_zL, eG_zF, eG_s, eG_n, eG_zA, eG_zJ, eG_zR, eA_zn, eA_zK, eA_zL, eA_zF, eA_zG, eA_s, eA_n, eA_zJ, eA_zR, eJ_zn, eJ_zK, eJ_zL, eJ_zF, eJ_zG, eJ_zA, eJ_s, eJ_n, eJ_zR, eR_zn, eR_zK, eR_zL, eR_zF, eR_zG, eR_zA, eR_zJ, eR_s, eR_n, ne_eq, not_false_eq_true, not_true_eq_false, reduceCtorEq, Nat.reduceEqDiff, va_up_self]
  have ssm : ∀ a, 48 ≤ a → a ≠ n0 → Sm y (bkS y n0 nr (168 * w + h) b k n wt gv) a := fun a h1 h2 => bkS_sm h1 h2
  have HC : CkH (bkS y n0 nr (168 * w + h) b k n wt gv) n0 nr ng gv b I (zA y 21) (need, zA y 25, gv) := by
    refine ⟨hS0, ⟨by rw [sF 133 (by decide)]; exact p12, by omega⟩, ⟨w1, by rw [sn]; exact w2, by rw [sK]; exact w3, s771⟩, fun g hg => ?_, fun i a hi e1 e2 => ?_, fun i i' a hi hi' e1 e2 => ?_, ⟨hm, rfl⟩, hfl, hcb⟩
    · obtain ⟨q1, q2, q3, q4, q5⟩ := hIg g hg
      obtain ⟨a, e, -⟩ := hrecy.1 (I g) q1
      exact ⟨q1, by rw [sA]; exact q4, a, by rw [sR3, q3]; exact e, by rw [sR2, up_old q1]; exact e⟩
    · rw [sR2, up_old hi] at e1
      rw [sA] at e2
      obtain ⟨l, r⟩ := hlot i a hi e1 e2
      have hne : a ≠ n0 := by have := hlt i a hi e1; omega
      have f := (ssm a r.1 hne).2.1
      exact ⟨r.1, by rw [sn]; exact r.2.1, by rw [sK]; exact l.2.1, by rw [f 771]; exact r.2.2.2.2.1, by rw [f 769]; exact r.2.2.2.1⟩
    · rw [sR2, up_old hi] at e1
      rw [sR2, up_old hi'] at e2
      rcases Nat.lt_trichotomy i i' with q | q | q
      · have := hrecy.2.1 i i' a a q hi' e1 e2; omega
      · exact q
      · have := hrecy.2.1 i' i a a q hi e2 e1; omega
  have C0 : Ck (bkS y n0 nr (168 * w + h) b k n wt gv) (bkS y n0 nr (168 * w + h) b k n wt gv) n0 nr gv I (zA y 21) b (need, zA y 25, gv) 0 := by
    refine ⟨⟨rfl, rfl, rfl, rfl, rfl, rfl⟩, fun _ _ => rfl, fun _ _ => rfl, fun _ _ => rfl, fun i a hi e1 e2 => ?_, rfl, rfl, ?_, ?_⟩
    · rw [sR2, up_old hi] at e1
      rw [sA] at e2
      obtain ⟨l, r⟩ := hlot i a hi e1 e2
      rw [sF 327 (by decide)]
      exact l.2.2.2.2.2.1
    · rw [sF 134 (by decide)]
      exact p17
    · rw [sF 72 (by decide), w4]
      show (0 : Int32) = nI (gv - gv)
      rw [Nat.sub_self]
      rfl
  obtain ⟨z1, hT, C⟩ := takeL (N := N) HC ng 0 (bkS y n0 nr (168 * w + h) b k n wt gv) N (by omega) (by omega) C0
  have hT' : wh (fun (u : Int32 × Int32 × Hp) => fX2_takeFlour_20 N 1 n0 u.1 u.2.1 u.2.2) N (nI need, (0 : Int32), bkS y n0 nr (168 * w + h) b k n wt gv) = some z1 := hT
  have hSz1 := C.sh hS0
  obtain ⟨⟨c1, c2', c3, c4, c5, c6⟩, cF, cA, -⟩ := id C
  have hcl := bakeC_e (N := N) (z := z) (y := y) (z1 := z1) (n0 := n0) (w := w) (h := h) hS hSy hy hn0 hb1 hk hn1 hn2 hw1 hw2 hwk hbz kbz hbar n10 hr2 hneed hno p10 p5 p17 w2 w3 hby kby hT' (by rw [c1, sn]) (by rw [c2', sK]) (by rw [cF 0 (by decide), sF 0 (by decide)]) (by rw [cF 2 (by decide), sF 2 (by decide)]) (by rw [cF 769 (by decide)]; exact s769)
  -- the model
  have tF : ∀ g, g ∉ [0, 2] → zF (bkC y z1 n0 b4 need) g = zF z1 g := by
    intro g hg
    have q1 : g ≠ 0 := fun e => hg (by rw [e]; decide)
    have q2 : g ≠ 2 := fun e => hg (by rw [e]; decide)
    simp only [bkC, eG_zF, eF_n _ _ _ _ q1, eF_n _ _ _ _ q2]
  have tA : zA (bkC y z1 n0 b4 need) = zA z1 := by simp only [bkC, eF_zn, eF_zK, eF_zL, eF_s, eF_n, eF_zG, eF_zA, eF_zJ, eF_zR, eG_zn, eG_zK, eG_zL, eG_zF, eG_s, eG_n, eG_zA, eG_zJ, eG_zR, eA_zn, eA_zK, eA_zL, eA_zF, eA_zG, eA_s, eA_n, eA_zJ, eA_zR, eJ_zn, eJ_zK, eJ_zL, eJ_zF, eJ_zG, eJ_zA, eJ_s, eJ_n, eJ_zR, eR_zn, eR_zK, eR_zL, eR_zF, eR_zG, eR_zA, eR_zJ, eR_s, eR_n]
  have hSc : Sh (bkC y z1 n0 b4 need) := (hSz1.sF.sF).sG (by
    obtain ⟨a, e, p⟩ := hbky.1 b hb
    rw [e4y] at e
    cases e
    exact p.1)
  have zcF : ∀ g, g ∉ [0, 2, 327, 134, 72, 768, 769, 770, 771, 68, 69, 70, 71, 132] → zF (bkC y z1 n0 b4 need) g = zF y g := by
    intro g hg
    have q1 : g ∉ [0, 2] := fun e => hg (by simp only [List.mem_cons, List.not_mem_nil, or_false] at e ⊢; omega)
    have q2 : g ∉ [327, 134, 72] := fun e => hg (by simp only [List.mem_cons, List.not_mem_nil, or_false] at e ⊢; omega)
    have q3 : g ∉ [768, 769, 770, 771, 68, 69, 70, 71, 132] := fun e => hg (by simp only [List.mem_cons, List.not_mem_nil, or_false] at e ⊢; omega)
    rw [tF g q1, cF g q2, sF g q3]
  have zcA : ∀ g, g ∉ [4, 5] → zA (bkC y z1 n0 b4 need) g = zA y g := fun g hg => by rw [tA, cA g hg, sA]
  have hSX : Sh (bkX (bkC y z1 n0 b4 need) nr k n wt gv) := hSc.sA.sA.sA.sA
  have uF : zF (bkX (bkC y z1 n0 b4 need) nr k n wt gv) = zF (bkC y z1 n0 b4 need) := by simp only [bkX, eF_zn, eF_zK, eF_zL, eF_s, eF_n, eF_zG, eF_zA, eF_zJ, eF_zR, eG_zn, eG_zK, eG_zL, eG_zF, eG_s, eG_n, eG_zA, eG_zJ, eG_zR, eA_zn, eA_zK, eA_zL, eA_zF, eA_zG, eA_s, eA_n, eA_zJ, eA_zR, eJ_zn, eJ_zK, eJ_zL, eJ_zF, eJ_zG, eJ_zA, eJ_s, eJ_n, eJ_zR, eR_zn, eR_zK, eR_zL, eR_zF, eR_zG, eR_zA, eR_zJ, eR_s, eR_n]
  have uA : ∀ g, g ∉ [27, 28, 29, 30] → zA (bkX (bkC y z1 n0 b4 need) nr k n wt gv) g = zA (bkC y z1 n0 b4 need) g := by
    intro g hg
    have q1 : g ≠ 27 := fun e => hg (by rw [e]; decide)
    have q2 : g ≠ 28 := fun e => hg (by rw [e]; decide)
    have q3 : g ≠ 29 := fun e => hg (by rw [e]; decide)
    have q4 : g ≠ 30 := fun e => hg (by rw [e]; decide)
    simp only [bkX, eA_n _ _ _ _ q1, eA_n _ _ _ _ q2, eA_n _ _ _ _ q3, eA_n _ _ _ _ q4]
  have u30 : zA (bkX (bkC y z1 n0 b4 need) nr k n wt gv) 30 nr = nI gv := by simp only [bkX, eF_zn, eF_zK, eF_zL, eF_s, eF_n, eF_zG, eF_zA, eF_zJ, eF_zR, eG_zn, eG_zK, eG_zL, eG_zF, eG_s, eG_n, eG_zA, eG_zJ, eG_zR, eA_zn, eA_zK, eA_zL, eA_zF, eA_zG, eA_s, eA_n, eA_zJ, eA_zR, eJ_zn, eJ_zK, eJ_zL, eJ_zF, eJ_zG, eJ_zA, eJ_s, eJ_n, eJ_zR, eR_zn, eR_zK, eR_zL, eR_zF, eR_zG, eR_zA, eR_zJ, eR_s, eR_n, ne_eq, not_false_eq_true, not_true_eq_false, reduceCtorEq, Nat.reduceEqDiff, va_up_self]
  have HM : MmH (bkX (bkC y z1 n0 b4 need) nr k n wt gv) nr ng b I (zA y 21) (need, zA y 25, gv) := by
    refine ⟨hSX, ⟨by rw [uF, zcF 717 (by decide)]; exact p11, by omega⟩, by rw [uA 21 (by decide), zcA 21 (by decide)], by omega, fun g hg => ⟨(hIg g hg).1, by rw [uA 26 (by decide), zcA 26 (by decide)]; exact (hIg g hg).2.1⟩, hm, hfl, hcb⟩
  have M0 : Mm (bkX (bkC y z1 n0 b4 need) nr k n wt gv) (bkX (bkC y z1 n0 b4 need) nr k n wt gv) I (zA y 21) b (need, zA y 25, gv) 0 := by
    refine ⟨⟨rfl, rfl, rfl, rfl, rfl, rfl⟩, fun _ _ => rfl, fun _ _ => rfl, ?_, rfl, rfl, ?_⟩
    · rw [uA 25 (by decide), zcA 25 (by decide)]; rfl
    · rw [uF, zcF 727 (by decide)]; exact p16
  obtain ⟨x1, hW, M⟩ := bakeL (N := N) (R := fun x' => (nI nr, bkE x' nr w h b ((tkN I (zA y 21) b (need, zA y 25, gv) ng).2.2 - gv))) HM (fun x' hM => by
    have hSx := hM.sh hSX
    obtain ⟨-, dF, dA, -, -, -, d727⟩ := hM
    exact bk270 hSx hr2 hb n8 d727 (by rw [dA 30 (by decide)]; exact u30) (tk_le (I := I) (B := zA y 21) (b := b) (s0 := (need, zA y 25, gv)) ng).2 (by rw [dF 711 (by decide), uF, zcF 711 (by decide)]; exact p9) (by rw [dF 704 (by decide), uF, zcF 704 (by decide)]; exact p1) (by rw [dF 705 (by decide), uF, zcF 705 (by decide)]; exact p2)) ng 0 (bkX (bkC y z1 n0 b4 need) nr k n wt gv) N (by omega) (by omega) M0
  have hW' : wh (fun (u : Int32 × Int32 × Hp) => fX12_bake_143 N 17 (nI b) u.1 (nI nr) u.2.1 u.2.2) N (nI need, (0 : Int32), bkX (bkC y z1 n0 b4 need) nr k n wt gv) = some (nI nr, bkE x1 nr w h b ((tkN I (zA y 21) b (need, zA y 25, gv) ng).2.2 - gv)) := hW
  have hfo2 := flourOf_e (N := N) (b := nI b) (z := bkC y z1 n0 b4 need) hN hSc (by rw [zcF 711 (by decide)]; exact p9) n11
  rw [zcA 18 (by decide), zcA 21 (by decide), zcA 25 (by decide)] at hfo2
  refine ⟨nI nr, bkC y z1 n0 b4 need, bkE x1 nr w h b ((tkN I (zA y 21) b (need, zA y 25, gv) ng).2.2 - gv), hcl, of_eq_true (o17 hSc), ?_, ?_⟩
  · exact bakeM_e hSc (by rw [zcF 706 (by decide)]; exact p6) n8 hb hk hn1 hn2 hw1 hw2 (by rw [zcF 704 (by decide)]; exact p1) (by rw [zcA 37 (by decide)]; exact hbary) (by rw [zcF 711 (by decide)]; exact p9) hr2 hneed hfo2 hfly (by rw [zcF 727 (by decide)]; exact p16) hW'
  · exact bake_fin hSy hscy hsty hny hhvy hrecy hbky hgry hgfy hmky htxy htny hr2 hnw hb e4y hlt hltb (by omega) hw1 hw2 hL (fun g hg => (hIg g hg).2.1) hfl hm hfly rfl rfl C M
