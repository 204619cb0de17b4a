-- SEARCH, together
theorem seZ1_none {y : Hp} {n0 nr t b b4 : Nat} (w4 : ∀ f, zF y f n0 = 0) : seZ1 y n0 nr t b b4 (-6) 0 0 0 0 0 (zF y 4 b4) (zF y 5 b4) (zF y 6 b4) = seZ0 y n0 nr t b b4 := by
  have hF := seZ0_F (y := y) (n0 := n0) (nr := nr) (t := t) (b := b) (b4 := b4)
  have e0 : zF (seZ0 y n0 nr t b b4) 452 n0 = -6 := by simp only [seZ0, enterC, entZ, eF_zn, eF_zK, eF_zL, eF_s, eF_n, eF_zG, eF_zA, eF_zJ, eF_zR, eG_zn, eG_zK, eG_zL, eG_zF, eG_s, eG_n, eG_zA, eG_zJ, eG_zR, eA_zn, eA_zK, eA_zL, eA_zF, eA_zG, eA_s, eA_n, eA_zJ, eA_zR, eJ_zn, eJ_zK, eJ_zL, eJ_zF, eJ_zG, eJ_zA, eJ_s, eJ_n, eJ_zR, eR_zn, eR_zK, eR_zL, eR_zF, eR_zG, eR_zA, eR_zJ, eR_s, eR_n, ne_eq, not_false_eq_true, not_true_eq_false, reduceCtorEq, Nat.reduceEqDiff, va_up_self]
  unfold seZ1
  rw [zsF_id e0, zsF_id (z := seZ0 y n0 nr t b b4) (f := 453) (a := n0) (v := 0) (by rw [hF 453 (by decide)]; exact w4 _), zsF_id (z := seZ0 y n0 nr t b b4) (f := 454) (a := n0) (v := 0) (by rw [hF 454 (by decide)]; exact w4 _), zsF_id (z := seZ0 y n0 nr t b b4) (f := 455) (a := n0) (v := 0) (by rw [hF 455 (by decide)]; exact w4 _), zsF_id (z := seZ0 y n0 nr t b b4) (f := 456) (a := n0) (v := 0) (by rw [hF 456 (by decide)]; exact w4 _), zsF_id (z := seZ0 y n0 nr t b b4) (f := 4) (a := b4) (v := zF y 4 b4) (by rw [hF 4 (by decide)]), zsF_id (z := seZ0 y n0 nr t b b4) (f := 457) (a := n0) (v := 0) (by rw [hF 457 (by decide)]; exact w4 _), zsF_id (z := seZ0 y n0 nr t b b4) (f := 5) (a := b4) (v := zF y 5 b4) (by rw [hF 5 (by decide)]), zsF_id (z := seZ0 y n0 nr t b b4) (f := 6) (a := b4) (v := zF y 6 b4) (by rw [hF 6 (by decide)])]
theorem weZ_F {y : Hp} {n0 nr t b b4 r A W K : Nat} {ss : Int32} : ∀ g, g ∈ [4, 5, 6, 457, 647, 650] → zF (weZ (seZ0 y n0 nr t b b4) n0 r A W K ss) g = zF y g := by
  intro g hg
  have hF := seZ0_F (y := y) (n0 := n0) (nr := nr) (t := t) (b := b) (b4 := b4)
  have e : zF (weZ (seZ0 y n0 nr t b b4) n0 r A W K ss) g = zF (seZ0 y n0 nr t b b4) g := by
    simp only [List.mem_cons, List.not_mem_nil, or_false] at hg
    rcases hg with rfl | rfl | rfl | rfl | rfl | rfl <;> simp only [weZ, eF_zn, eF_zK, eF_zL, eF_s, eF_n, eF_zG, eF_zA, eF_zJ, eF_zR, eG_zn, eG_zK, eG_zL, eG_zF, eG_s, eG_n, eG_zA, eG_zJ, eG_zR, eA_zn, eA_zK, eA_zL, eA_zF, eA_zG, eA_s, eA_n, eA_zJ, eA_zR, eJ_zn, eJ_zK, eJ_zL, eJ_zF, eJ_zG, eJ_zA, eJ_s, eJ_n, eJ_zR, eR_zn, eR_zK, eR_zL, eR_zF, eR_zG, eR_zA, eR_zJ, eR_s, eR_n, ne_eq, not_false_eq_true, not_true_eq_false, reduceCtorEq, Nat.reduceEqDiff]
  rw [e]
  exact hF g ((by decide : ∀ f : Nat, f ∈ [4, 5, 6, 457, 647, 650] → f ∉ [768, 769, 770, 771, 452, 132, 3]) g hg)
theorem seZ1_ns {y : Hp} {n0 nr t b b4 r A W K : Nat} (w4 : ∀ f, zF y f n0 = 0) : seZ1 y n0 nr t b b4 (nI r) (nI A) (nI W) (nI K) 0 0 (zF y 4 b4) (zF y 5 b4) (zF y 6 b4) = weZ (seZ0 y n0 nr t b b4) n0 r A W K 0 := by
  have hF := weZ_F (y := y) (n0 := n0) (nr := nr) (t := t) (b := b) (b4 := b4) (r := r) (A := A) (W := W) (K := K) (ss := 0)
  show zsF (zsF (zsF (zsF (weZ (seZ0 y n0 nr t b b4) n0 r A W K 0) 4 b4 (zF y 4 b4)) 457 n0 0) 5 b4 (zF y 5 b4)) 6 b4 (zF y 6 b4) = weZ (seZ0 y n0 nr t b b4) n0 r A W K 0
  rw [zsF_id (z := weZ (seZ0 y n0 nr t b b4) n0 r A W K 0) (f := 4) (a := b4) (v := zF y 4 b4) (by rw [hF 4 (by decide)]), zsF_id (z := weZ (seZ0 y n0 nr t b b4) n0 r A W K 0) (f := 457) (a := n0) (v := 0) (by rw [hF 457 (by decide)]; exact w4 _), zsF_id (z := weZ (seZ0 y n0 nr t b b4) n0 r A W K 0) (f := 5) (a := b4) (v := zF y 5 b4) (by rw [hF 5 (by decide)]), zsF_id (z := weZ (seZ0 y n0 nr t b b4) n0 r A W K 0) (f := 6) (a := b4) (v := zF y 6 b4) (by rw [hF 6 (by decide)])]
theorem seM0_none {x : Hp} {nr nb nx b : Nat} {v0 : Int32} : seM0 x nr nb nx b v0 0 0 0 0 0 (zA x 35 b) (zA x 36 b) (zA x 37 b) = seX x nr nb nx v0 := by
  have hA := seX_A (x := x) (nr := nr) (nb := nb) (nx := nx) (v0 := v0)
  have z1 : zA (seX x nr nb nx v0) 34 (6 * nr + 1) = 0 := by simp only [seX, eF_zn, eF_zK, eF_zL, eF_s, eF_n, eF_zG, eF_zA, eF_zJ, eF_zR, eG_zn, eG_zK, eG_zL, eG_zF, eG_s, eG_n, eG_zA, eG_zJ, eG_zR, eA_zn, eA_zK, eA_zL, eA_zF, eA_zG, eA_s, eA_n, eA_zJ, eA_zR, eJ_zn, eJ_zK, eJ_zL, eJ_zF, eJ_zG, eJ_zA, eJ_s, eJ_n, eJ_zR, eR_zn, eR_zK, eR_zL, eR_zF, eR_zG, eR_zA, eR_zJ, eR_s, eR_n]; simp [va_up]
  have z2 : zA (seX x nr nb nx v0) 34 (6 * nr + 2) = 0 := by simp only [seX, eF_zn, eF_zK, eF_zL, eF_s, eF_n, eF_zG, eF_zA, eF_zJ, eF_zR, eG_zn, eG_zK, eG_zL, eG_zF, eG_s, eG_n, eG_zA, eG_zJ, eG_zR, eA_zn, eA_zK, eA_zL, eA_zF, eA_zG, eA_s, eA_n, eA_zJ, eA_zR, eJ_zn, eJ_zK, eJ_zL, eJ_zF, eJ_zG, eJ_zA, eJ_s, eJ_n, eJ_zR, eR_zn, eR_zK, eR_zL, eR_zF, eR_zG, eR_zA, eR_zJ, eR_s, eR_n]; simp [va_up]
  have z3 : zA (seX x nr nb nx v0) 34 (6 * nr + 3) = 0 := by simp only [seX, eF_zn, eF_zK, eF_zL, eF_s, eF_n, eF_zG, eF_zA, eF_zJ, eF_zR, eG_zn, eG_zK, eG_zL, eG_zF, eG_s, eG_n, eG_zA, eG_zJ, eG_zR, eA_zn, eA_zK, eA_zL, eA_zF, eA_zG, eA_s, eA_n, eA_zJ, eA_zR, eJ_zn, eJ_zK, eJ_zL, eJ_zF, eJ_zG, eJ_zA, eJ_s, eJ_n, eJ_zR, eR_zn, eR_zK, eR_zL, eR_zF, eR_zG, eR_zA, eR_zJ, eR_s, eR_n]; simp [va_up]
  have z4 : zA (seX x nr nb nx v0) 34 (6 * nr + 4) = 0 := by simp only [seX, eF_zn, eF_zK, eF_zL, eF_s, eF_n, eF_zG, eF_zA, eF_zJ, eF_zR, eG_zn, eG_zK, eG_zL, eG_zF, eG_s, eG_n, eG_zA, eG_zJ, eG_zR, eA_zn, eA_zK, eA_zL, eA_zF, eA_zG, eA_s, eA_n, eA_zJ, eA_zR, eJ_zn, eJ_zK, eJ_zL, eJ_zF, eJ_zG, eJ_zA, eJ_s, eJ_n, eJ_zR, eR_zn, eR_zK, eR_zL, eR_zF, eR_zG, eR_zA, eR_zJ, eR_s, eR_n]; simp [va_up]
  have z5 : zA (seX x nr nb nx v0) 34 (6 * nr + 5) = 0 := by simp only [seX, eF_zn, eF_zK, eF_zL, eF_s, eF_n, eF_zG, eF_zA, eF_zJ, eF_zR, eG_zn, eG_zK, eG_zL, eG_zF, eG_s, eG_n, eG_zA, eG_zJ, eG_zR, eA_zn, eA_zK, eA_zL, eA_zF, eA_zG, eA_s, eA_n, eA_zJ, eA_zR, eJ_zn, eJ_zK, eJ_zL, eJ_zF, eJ_zG, eJ_zA, eJ_s, eJ_n, eJ_zR, eR_zn, eR_zK, eR_zL, eR_zF, eR_zG, eR_zA, eR_zJ, eR_s, eR_n]; simp [va_up]
  have z35 : zA (seX x nr nb nx v0) 35 b = zA x 35 b := by rw [hA 35 (by decide)]
  have z36 : zA (seX x nr nb nx v0) 36 b = zA x 36 b := by rw [hA 36 (by decide)]
  have z37 : zA (seX x nr nb nx v0) 37 b = zA x 37 b := by rw [hA 37 (by decide)]
  unfold seM0
  rw [zsA_id z1, zsA_id z2, zsA_id z3, zsA_id z35, zsA_id z4, zsA_id z5, zsA_id z36, zsA_id z37]
theorem seM0_ns {x : Hp} {nr nb nx b : Nat} {v0 v1 v2 v3 : Int32} : seM0 x nr nb nx b v0 v1 v2 v3 0 0 (zA x 35 b) (zA x 36 b) (zA x 37 b) = zsA (zsA (zsA (seX x nr nb nx v0) 34 (6 * nr + 1) v1) 34 (6 * nr + 2) v2) 34 (6 * nr + 3) v3 := by
  have hA := seX_A (x := x) (nr := nr) (nb := nb) (nx := nx) (v0 := v0)
  unfold seM0
  have z4 : zA (zsA (zsA (zsA (seX x nr nb nx v0) 34 (6 * nr + 1) v1) 34 (6 * nr + 2) v2) 34 (6 * nr + 3) v3) 34 (6 * nr + 4) = 0 := by simp only [seX, eF_zn, eF_zK, eF_zL, eF_s, eF_n, eF_zG, eF_zA, eF_zJ, eF_zR, eG_zn, eG_zK, eG_zL, eG_zF, eG_s, eG_n, eG_zA, eG_zJ, eG_zR, eA_zn, eA_zK, eA_zL, eA_zF, eA_zG, eA_s, eA_n, eA_zJ, eA_zR, eJ_zn, eJ_zK, eJ_zL, eJ_zF, eJ_zG, eJ_zA, eJ_s, eJ_n, eJ_zR, eR_zn, eR_zK, eR_zL, eR_zF, eR_zG, eR_zA, eR_zJ, eR_s, eR_n]; simp [va_up]
  have z5 : zA (zsA (zsA (zsA (seX x nr nb nx v0) 34 (6 * nr + 1) v1) 34 (6 * nr + 2) v2) 34 (6 * nr + 3) v3) 34 (6 * nr + 5) = 0 := by simp only [seX, eF_zn, eF_zK, eF_zL, eF_s, eF_n, eF_zG, eF_zA, eF_zJ, eF_zR, eG_zn, eG_zK, eG_zL, eG_zF, eG_s, eG_n, eG_zA, eG_zJ, eG_zR, eA_zn, eA_zK, eA_zL, eA_zF, eA_zG, eA_s, eA_n, eA_zJ, eA_zR, eJ_zn, eJ_zK, eJ_zL, eJ_zF, eJ_zG, eJ_zA, eJ_s, eJ_n, eJ_zR, eR_zn, eR_zK, eR_zL, eR_zF, eR_zG, eR_zA, eR_zJ, eR_s, eR_n]; simp [va_up]
  have z35 : zA (zsA (zsA (zsA (seX x nr nb nx v0) 34 (6 * nr + 1) v1) 34 (6 * nr + 2) v2) 34 (6 * nr + 3) v3) 35 b = zA x 35 b := by simp only [eF_zn, eF_zK, eF_zL, eF_s, eF_n, eF_zG, eF_zA, eF_zJ, eF_zR, eG_zn, eG_zK, eG_zL, eG_zF, eG_s, eG_n, eG_zA, eG_zJ, eG_zR, eA_zn, eA_zK, eA_zL, eA_zF, eA_zG, eA_s, eA_n, eA_zJ, eA_zR, eJ_zn, eJ_zK, eJ_zL, eJ_zF, eJ_zG, eJ_zA, eJ_s, eJ_n, eJ_zR, eR_zn, eR_zK, eR_zL, eR_zF, eR_zG, eR_zA, eR_zJ, eR_s, eR_n, ne_eq, not_false_eq_true, not_true_eq_false, reduceCtorEq, Nat.reduceEqDiff]; rw [hA 35 (by decide)]
  have z36 : zA (zsA (zsA (zsA (seX x nr nb nx v0) 34 (6 * nr + 1) v1) 34 (6 * nr + 2) v2) 34 (6 * nr + 3) v3) 36 b = zA x 36 b := by simp only [eF_zn, eF_zK, eF_zL, eF_s, eF_n, eF_zG, eF_zA, eF_zJ, eF_zR, eG_zn, eG_zK, eG_zL, eG_zF, eG_s, eG_n, eG_zA, eG_zJ, eG_zR, eA_zn, eA_zK, eA_zL, eA_zF, eA_zG, eA_s, eA_n, eA_zJ, eA_zR, eJ_zn, eJ_zK, eJ_zL, eJ_zF, eJ_zG, eJ_zA, eJ_s, eJ_n, eJ_zR, eR_zn, eR_zK, eR_zL, eR_zF, eR_zG, eR_zA, eR_zJ, eR_s, eR_n, ne_eq, not_false_eq_true, not_true_eq_false, reduceCtorEq, Nat.reduceEqDiff]; rw [hA 36 (by decide)]
  have z37 : zA (zsA (zsA (zsA (seX x nr nb nx v0) 34 (6 * nr + 1) v1) 34 (6 * nr + 2) v2) 34 (6 * nr + 3) v3) 37 b = zA x 37 b := by simp only [eF_zn, eF_zK, eF_zL, eF_s, eF_n, eF_zG, eF_zA, eF_zJ, eF_zR, eG_zn, eG_zK, eG_zL, eG_zF, eG_s, eG_n, eG_zA, eG_zJ, eG_zR, eA_zn, eA_zK, eA_zL, eA_zF, eA_zG, eA_s, eA_n, eA_zJ, eA_zR, eJ_zn, eJ_zK, eJ_zL, eJ_zF, eJ_zG, eJ_zA, eJ_s, eJ_n, eJ_zR, eR_zn, eR_zK, eR_zL, eR_zF, eR_zG, eR_zA, eR_zJ, eR_s, eR_n, ne_eq, not_false_eq_true, not_true_eq_false, reduceCtorEq, Nat.reduceEqDiff]; rw [hA 37 (by decide)]
  rw [zsA_id z35, zsA_id z4, zsA_id z5, zsA_id z36, zsA_id z37]
theorem op_search (N : Nat) (hN : 6000 ≤ N) : Op_search N Inv := by
  intro z hI
  obtain ⟨hS, hsc, hst, w, h, nb, nr, ng, gv, nt, nh, hn, hhv, hrec, hbk, hgr, hgf, hmk, htx, htn⟩ := id hI
  obtain ⟨⟨n1, n2, n3, n4, n5⟩, ⟨n6, n7, n8⟩, ⟨n9, n10, n11⟩, m4, m5, ⟨m6, m6', m6''⟩, m7⟩ := id hn
  by_cases h0 : nb = 0
  · have c : nI nb = 0 := by rw [h0]; rfl
    refine ⟨-3, z, z, ?_, of_eq_true (o17 hS), ?_, hI⟩
    · simp only [fX11_search, gdT, brTr, brFa, br_00, br_10, bd_e, bo_s, bp_s, cs_s, cs_n, lf_s, o0 hS, n7, br_y c]
    · simp only [fX12_search, gdT, brTr, brFa, br_00, br_10, bd_e, bo_s, bp_s, cs_s, cs_n, lf_s, o17 hS, n6, br_y c]
  have c0 : ¬ nI nb = 0 := nI_ne0 (by omega) (by omega)
  by_cases hr : nr = 200
  · have c2 : nI nr = 200 := by rw [hr]; rfl
    refine ⟨-4, z, z, ?_, of_eq_true (o17 hS), ?_, hI⟩
    · simp only [fX11_search, gdT, brTr, brFa, br_00, br_10, bd_e, bo_s, bp_s, cs_s, cs_n, lf_s, o0 hS, n7, br_n c0, g640 hS, o1 hS, isFull_1 hS n10 hr]
    · simp only [fX12_search, gdT, brTr, brFa, br_00, br_10, bd_e, bo_s, bp_s, cs_s, cs_n, lf_s, o17 hS, n6, br_n c0, n9, br_y c2]
  have hr2 : nr < 200 := by omega
  obtain ⟨s1, s2, s3, s4, s5, s6, s7⟩ := id hsc
  obtain ⟨z1, nx, b, hb, hx, g1, g2, g3, g4, g5⟩ := turn2 (N := N) hN hS htn s7 n8 (by omega)
  have hS1 := g2.sh hS
  have hRt1 : Rt z1 w h nb nr ng gv nt nh := g2.rt (by decide) (by decide) ⟨hS, ⟨s1, s2, s3, s4, s5, s6⟩, hst, hn, hhv, hrec, hbk, hgr, hgf, hmk, htx⟩
  have hRt2 : Rt (zsF z1 578 11 (nI (nx + 1))) w h nb nr ng gv nt nh := hRt1.sF (by decide)
  have hRty : Rt (zal (zsF z1 578 11 (nI (nx + 1))) 7 0) w h nb nr ng gv nt nh := hRt2.al
  have hS2 : Sh (zsF z1 578 11 (nI (nx + 1))) := hRt2.1
  have hnw := Nw.of (k := 7) (len := 0) hS2
  rw [eF_zn] at hnw
  have yF : ∀ f c, c < 48 → f ≠ 578 → zF (zal (zsF z1 578 11 (nI (nx + 1))) 7 0) f c = zF z1 f c := by
    intro f c hc hf
    rw [al_F0 hS2 hc, eF_n _ _ _ _ hf]
  have y578 : zF (zal (zsF z1 578 11 (nI (nx + 1))) 7 0) 578 11 = nI (nx + 1) := by
    rw [al_F0 hS2 (by decide), eF_s, va_up_self]
  have yA : ∀ c, c < 48 → zA (zal (zsF z1 578 11 (nI (nx + 1))) 7 0) c = zA z1 c := by
    intro c hc
    rw [al_A _ _ _ (ne_n hS2 hc), eF_zA]
  have yR : ∀ c, c < 48 → zR (zal (zsF z1 578 11 (nI (nx + 1))) 7 0) c = zR z1 c := by
    intro c hc
    rw [al_R _ _ _ (ne_n hS2 hc), eF_zR]
  have hlt : ∀ i a, i < nr → zR (zal (zsF z1 578 11 (nI (nx + 1))) 7 0) 2 i = some a → a < zn z1 := by
    intro i a hi e
    rw [yR 2 (by decide)] at e
    exact (hRt1.2.2.2.2.2.1.kd hi e).2.1
  have hltb : ∀ j a, j < nb → zR (zal (zsF z1 578 11 (nI (nx + 1))) 7 0) 16 j = some a → a < zn z1 := by
    intro j a hj e
    rw [yR 16 (by decide)] at e
    obtain ⟨a', e', p⟩ := hRt1.2.2.2.2.2.2.1.1 j hj
    rw [e'] at e
    cases e
    exact p.2.1
  generalize hy : zal (zsF z1 578 11 (nI (nx + 1))) 7 0 = y at *
  generalize hn0 : zn z1 = n0 at *
  obtain ⟨hSy, hscy, hsty, hny, hhvy, hrecy, hbky, hgry, hgfy, hmky, htxy⟩ := id hRty
  obtain ⟨b4, e4y, pb⟩ := hbky.1 b hb
  have e4 : zR z1 16 b = some b4 := by rw [← yR 16 (by decide)]; exact e4y
  obtain ⟨w1, w2, w3, w4, w5⟩ := id hnw
  obtain ⟨pb1, pb2, pb3, pb4, pb5, pb6, pb7, pb8, pb9, pb10, pb11⟩ := pb
  obtain ⟨⟨p1, p2, -, -, p5⟩, ⟨p6, p7, -⟩, ⟨p9, p10, -⟩, -, -, ⟨p14, p15, -⟩, -⟩ := id hny
  have hbn : b4 < n0 := hltb b b4 hb e4y
  have e646 : zF z1 646 0 = nI nb := by rw [← yF 646 0 (by decide) (by decide)]; exact p7
  have kS0 : zK (seZ0 y n0 nr (168 * w + h) b b4) = zK y := by simp only [seZ0, enterC, entZ, eF_zn, eF_zK, eF_zL, eF_s, eF_n, eF_zG, eF_zA, eF_zJ, eF_zR, eG_zn, eG_zK, eG_zL, eG_zF, eG_s, eG_n, eG_zA, eG_zJ, eG_zR, eA_zn, eA_zK, eA_zL, eA_zF, eA_zG, eA_s, eA_n, eA_zJ, eA_zR, eJ_zn, eJ_zK, eJ_zL, eJ_zF, eJ_zG, eJ_zA, eJ_s, eJ_n, eJ_zR, eR_zn, eR_zK, eR_zL, eR_zF, eR_zG, eR_zA, eR_zJ, eR_s, eR_n]
  have vS0 : zn (seZ0 y n0 nr (168 * w + h) b b4) = zn y := by simp only [seZ0, enterC, entZ, eF_zn, eF_zK, eF_zL, eF_s, eF_n, eF_zG, eF_zA, eF_zJ, eF_zR, eG_zn, eG_zK, eG_zL, eG_zF, eG_s, eG_n, eG_zA, eG_zJ, eG_zR, eA_zn, eA_zK, eA_zL, eA_zF, eA_zG, eA_s, eA_n, eA_zJ, eA_zR, eJ_zn, eJ_zK, eJ_zL, eJ_zF, eJ_zG, eJ_zA, eJ_s, eJ_n, eJ_zR, eR_zn, eR_zK, eR_zL, eR_zF, eR_zG, eR_zA, eR_zJ, eR_s, eR_n]
  have hS0 : Sh (seZ0 y n0 nr (168 * w + h) b b4) := hSy.sF.sF.sF.sF.sF.sR.sF.sF
  have fin : ∀ v0 v1 v2 v3 v4 v5 s f m : Int32, (v4 = 0 ∨ v4 = 1) → zA y 38 b = v0 → fX11_search N 0 z = some (nI nr, seZ1 y n0 nr (168 * w + h) b b4 v0 v1 v2 v3 v4 v5 s f m) → (∀ x1, Rch (seZ1 y n0 nr (168 * w + h) b b4 v0 v1 v2 v3 v4 v5 s f m) x1 [741, 742, 743] [45] → Sh x1 → (∀ g, g ∉ [741, 742, 743, 768, 769, 770, 771, 452, 453, 454, 455, 456, 457, 132, 3, 4, 5, 6] → zF x1 g = zF y g) → (∀ g, g ≠ 45 → zA x1 g = zA y g) → fX12_search_77 N 17 (nI b) (nI (6 * nr)) v0 (nI 6) (seX x1 nr nb nx v0) = some (.inr (nI nr, seM x1 nr nb nx w h b v0 v1 v2 v3 v4 v5 s f m))) → ∃ r z1 z2, fX11_search N 0 z = some (r, z1) ∧ (17 < zn z1 ∧ zK z1 17 = 11) ∧ fX12_search N 17 z1 = some (r, z2) ∧ Inv z2 := by
    intro v0 v1 v2 v3 v4 v5 s f m hv4 hv0 HC HM
    have hSc : Sh (seZ1 y n0 nr (168 * w + h) b b4 v0 v1 v2 v3 v4 v5 s f m) := hS0.sF.sF.sF.sF.sF.sF.sF.sF.sF
    have cF := seZ1_F (y := y) (n0 := n0) (nr := nr) (t := 168 * w + h) (b := b) (b4 := b4) (v0 := v0) (v1 := v1) (v2 := v2) (v3 := v3) (v4 := v4) (v5 := v5) (s := s) (f := f) (m := m)
    have cA : zA (seZ1 y n0 nr (168 * w + h) b b4 v0 v1 v2 v3 v4 v5 s f m) = zA y := by simp only [seZ1, seZ0, enterC, entZ, eF_zn, eF_zK, eF_zL, eF_s, eF_n, eF_zG, eF_zA, eF_zJ, eF_zR, eG_zn, eG_zK, eG_zL, eG_zF, eG_s, eG_n, eG_zA, eG_zJ, eG_zR, eA_zn, eA_zK, eA_zL, eA_zF, eA_zG, eA_s, eA_n, eA_zJ, eA_zR, eJ_zn, eJ_zK, eJ_zL, eJ_zF, eJ_zG, eJ_zA, eJ_s, eJ_n, eJ_zR, eR_zn, eR_zK, eR_zL, eR_zF, eR_zG, eR_zA, eR_zJ, eR_s, eR_n]
    have y7 : ∀ g, g ∈ [741, 742, 743] → zF y g 17 = zF z g 17 := by
      intro g hg
      rw [yF g 17 (by decide) (fun e => by rw [e] at hg; exact absurd hg (by decide)), g2.eF ((by decide : ∀ f : Nat, f ∈ [741, 742, 743] → f ∉ [577, 578, 579]) g hg)]
    obtain ⟨x1, k1, k2, k3, k4, k5, k6, k7⟩ := g5 (seZ1 y n0 nr (168 * w + h) b b4 v0 v1 v2 v3 v4 v5 s f m) hSc (by rw [cF 706 (by decide)]; exact p6) (by rw [cF 741 (by decide)]; exact y7 741 (by decide)) (by rw [cF 742 (by decide)]; exact y7 742 (by decide)) (by rw [cF 743 (by decide)]; exact y7 743 (by decide)) (by rw [cA, yA 45 (by decide), g2.eA (by decide)])
    have hSx := k2.sh hSc
    have xF : ∀ g, g ∉ [741, 742, 743, 768, 769, 770, 771, 452, 453, 454, 455, 456, 457, 132, 3, 4, 5, 6] → zF x1 g = zF y g := by
      intro g hg
      have q1 : g ∉ [741, 742, 743] := fun e => hg (by simp only [List.mem_cons, List.not_mem_nil, or_false] at e ⊢; omega)
      have q2 : g ∉ [768, 769, 770, 771, 452, 453, 454, 455, 456, 457, 132, 3, 4, 5, 6] := fun e => hg (by simp only [List.mem_cons, List.not_mem_nil, or_false] at e ⊢; omega)
      rw [k2.eF q1, cF g q2]
    have xA : ∀ g, g ≠ 45 → zA x1 g = zA y g := by
      intro g hg
      rw [k2.eA (fun e => hg (by simpa using e)), cA]
    refine ⟨nI nr, _, seM x1 nr nb nx w h b v0 v1 v2 v3 v4 v5 s f m, HC, of_eq_true (o17 hSc), ?_, ?_⟩
    · exact searchM_e hN hSc (by rw [cF 706 (by decide)]; exact p6) n8 (by rw [cF 711 (by decide)]; exact p9) hr2 k1 hSx k3 k4 hx k7 hb (by rw [xF 711 (by decide)]; exact p9) (by rw [xA 38 (by decide)]; exact hv0) (HM x1 k2 hSx xF xA)
    · exact search_fin hRty hr2 hnw hb e4y hlt hltb k2 k4 (k5.trans (yF 579 11 (by decide) (by decide)).symm) (by rw [yA 12 (by decide)]; exact k6) ((yF 577 11 (by decide) (by decide)).trans g4) y578 hv4 hx
  have HCe := fun (S2 S3 : Hp) => searchC_e (N := N) (z := z) (z1 := z1) (y := y) (S2 := S2) (S3 := S3) (n0 := n0) (w := w) (h := h) (nx := nx) hS n7 (by omega) n8 n10 hr2 hb g1 hS1 e646 e4 g3 hy hn0 hSy p10 p5 w2 w3 pb2 pb3
  have c769 : ∀ v0 v1 v2 v3 v4 v5 s f m : Int32, zF (seZ1 y n0 nr (168 * w + h) b b4 v0 v1 v2 v3 v4 v5 s f m) 769 n0 = nI nr := fun v0 v1 v2 v3 v4 v5 s f m => by simp only [seZ1, seZ0, enterC, entZ, eF_zn, eF_zK, eF_zL, eF_s, eF_n, eF_zG, eF_zA, eF_zJ, eF_zR, eG_zn, eG_zK, eG_zL, eG_zF, eG_s, eG_n, eG_zA, eG_zJ, eG_zR, eA_zn, eA_zK, eA_zL, eA_zF, eA_zG, eA_s, eA_n, eA_zJ, eA_zR, eJ_zn, eJ_zK, eJ_zL, eJ_zF, eJ_zG, eJ_zA, eJ_s, eJ_n, eJ_zR, eR_zn, eR_zK, eR_zL, eR_zF, eR_zG, eR_zA, eR_zJ, eR_s, eR_n, ne_eq, not_false_eq_true, not_true_eq_false, reduceCtorEq, Nat.reduceEqDiff, va_up_self]
  have c769' : zF (seZ0 y n0 nr (168 * w + h) b b4) 769 n0 = nI nr := by simp only [seZ0, enterC, entZ, eF_zn, eF_zK, eF_zL, eF_s, eF_n, eF_zG, eF_zA, eF_zJ, eF_zR, eG_zn, eG_zK, eG_zL, eG_zF, eG_s, eG_n, eG_zA, eG_zJ, eG_zR, eA_zn, eA_zK, eA_zL, eA_zF, eA_zG, eA_s, eA_n, eA_zJ, eA_zR, eJ_zn, eJ_zK, eJ_zL, eJ_zF, eJ_zG, eJ_zA, eJ_s, eJ_n, eJ_zR, eR_zn, eR_zK, eR_zL, eR_zF, eR_zG, eR_zA, eR_zJ, eR_s, eR_n, ne_eq, not_false_eq_true, not_true_eq_false, reduceCtorEq, Nat.reduceEqDiff, va_up_self]
  rcases pb11 with ⟨u1, u2⟩ | ⟨r, c, u1, u2, u3, u4, u5⟩
  · refine fin (-6) 0 0 0 0 0 (zF y 4 b4) (zF y 5 b4) (zF y 6 b4) (Or.inl rfl) u2 ?_ ?_
    · rw [seZ1_none w4]
      refine HCe (seZ0 y n0 nr (168 * w + h) b b4) (seZ0 y n0 nr (168 * w + h) b b4) (weighNone (by rw [vS0]; exact pb2) (by rw [kS0]; exact pb3) ?_) hS0 (by rw [vS0]; exact w2) (by rw [kS0]; exact w3) (Or.inl ⟨?_, rfl⟩) (by rw [vS0]; exact w2) (by rw [kS0]; exact w3) c769'
      · simp only [seZ0, enterC, entZ, eF_zn, eF_zK, eF_zL, eF_s, eF_n, eF_zG, eF_zA, eF_zJ, eF_zR, eG_zn, eG_zK, eG_zL, eG_zF, eG_s, eG_n, eG_zA, eG_zJ, eG_zR, eA_zn, eA_zK, eA_zL, eA_zF, eA_zG, eA_s, eA_n, eA_zJ, eA_zR, eJ_zn, eJ_zK, eJ_zL, eJ_zF, eJ_zG, eJ_zA, eJ_s, eJ_n, eJ_zR, eR_zn, eR_zK, eR_zL, eR_zF, eR_zG, eR_zA, eR_zJ, eR_s, eR_n]; exact u1
      · rw [seZ0_F 456 (by decide)]; exact w4 _
    · intro x1 k2 hSx xF xA
      have hSX : Sh (seX x1 nr nb nx (-6)) := hSx.sF.sA.sA.sA.sA.sA.sA
      have q := seT_none (N := N) (b := b) (nr := nr) (w := w) (h := h) hSX hr2 (by rw [seX_F 711 (by decide), xF 711 (by decide)]; exact p9) (by rw [seX_F 704 (by decide), xF 704 (by decide)]; exact p1) (by rw [seX_F 705 (by decide), xF 705 (by decide)]; exact p2)
      rw [q, pb8, pb9, pb10, ← xA 35 (by decide), ← xA 36 (by decide), ← xA 37 (by decide)]
      unfold seM
      rw [seM0_none]
  · obtain ⟨c', ec, rc⟩ := hrecy.1 r u1
    rw [u3] at ec
    cases ec
    obtain ⟨r1, r2, r3, r4, r5, ⟨wi, hi, r6, r7, r8, r9, r10, r11⟩, r12, r13⟩ := rc
    have hbat : batchOf y r c gv := by
      rcases r13 with q | q | q
      · have q' := q.1
        rw [u5] at q'
        exact absurd q' (by decide)
      · exact q
      · have q' := q.1
        rw [u5] at q'
        exact absurd q' (by decide)
    obtain ⟨d1, d2, d3, d4, d5, d6, d7, ⟨k, d8, d8'⟩, ⟨q, d9, d9', d9''⟩, d10⟩ := hbat
    obtain ⟨t1, t2, t3, t4, ⟨dr, t5, t5'⟩, t6⟩ := id hscy
    obtain ⟨D, eD, hD⟩ := dueT_b (z := y) (nr := nr) (nt := nt) (k := k) (K := wi) (w := nI wi) htxy d8'
    obtain ⟨al, eal, hal⟩ := alT_b (z := y) (nt := nt) (w := nI wi) htxy
    obtain ⟨A, eA⟩ : ∃ A, 168 * w + h - (168 * wi + hi) = A := ⟨_, rfl⟩
    obtain ⟨W, eW⟩ : ∃ W, lsN q dr A = W := ⟨_, rfl⟩
    obtain ⟨K, eK⟩ : ∃ K, lsN D al A = K := ⟨_, rfl⟩
    have hcn : c < n0 := hlt r c u1 u3
    have hcb : c ≠ b4 := fun e => by rw [e, pb3] at d2; exact absurd d2 (by decide)
    obtain ⟨-, fS, -⟩ := seZ0_sm (y := y) (n0 := n0) (nr := nr) (t := 168 * w + h) (b := b) (b4 := b4) (a := c) r1 (by omega) hcb
    have aS0 : zA (seZ0 y n0 nr (168 * w + h) b b4) = zA y := by simp only [seZ0, enterC, entZ, eF_zn, eF_zK, eF_zL, eF_s, eF_n, eF_zG, eF_zA, eF_zJ, eF_zR, eG_zn, eG_zK, eG_zL, eG_zF, eG_s, eG_n, eG_zA, eG_zJ, eG_zR, eA_zn, eA_zK, eA_zL, eA_zF, eA_zG, eA_s, eA_n, eA_zJ, eA_zR, eJ_zn, eJ_zK, eJ_zL, eJ_zF, eJ_zG, eJ_zA, eJ_s, eJ_n, eJ_zR, eR_zn, eR_zK, eR_zL, eR_zF, eR_zG, eR_zA, eR_zJ, eR_s, eR_n]
    have gS0 : zG (seZ0 y n0 nr (168 * w + h) b b4) = zG y := by simp only [seZ0, enterC, entZ, eF_zn, eF_zK, eF_zL, eF_s, eF_n, eF_zG, eF_zA, eF_zJ, eF_zR, eG_zn, eG_zK, eG_zL, eG_zF, eG_s, eG_n, eG_zA, eG_zJ, eG_zR, eA_zn, eA_zK, eA_zL, eA_zF, eA_zG, eA_s, eA_n, eA_zJ, eA_zR, eJ_zn, eJ_zK, eJ_zL, eJ_zF, eJ_zG, eJ_zA, eJ_s, eJ_n, eJ_zR, eR_zn, eR_zK, eR_zL, eR_zF, eR_zG, eR_zA, eR_zJ, eR_s, eR_n]
    have jS0 : zJ (seZ0 y n0 nr (168 * w + h) b b4) = zJ y := by simp only [seZ0, enterC, entZ, eF_zn, eF_zK, eF_zL, eF_s, eF_n, eF_zG, eF_zA, eF_zJ, eF_zR, eG_zn, eG_zK, eG_zL, eG_zF, eG_s, eG_n, eG_zA, eG_zJ, eG_zR, eA_zn, eA_zK, eA_zL, eA_zF, eA_zG, eA_s, eA_n, eA_zJ, eA_zR, eJ_zn, eJ_zK, eJ_zL, eJ_zF, eJ_zG, eJ_zA, eJ_s, eJ_n, eJ_zR, eR_zn, eR_zK, eR_zL, eR_zF, eR_zG, eR_zA, eR_zJ, eR_s, eR_n]
    have lS0 : zL (seZ0 y n0 nr (168 * w + h) b b4) = zL y := by simp only [seZ0, enterC, entZ, eF_zn, eF_zK, eF_zL, eF_s, eF_n, eF_zG, eF_zA, eF_zJ, eF_zR, eG_zn, eG_zK, eG_zL, eG_zF, eG_s, eG_n, eG_zA, eG_zJ, eG_zR, eA_zn, eA_zK, eA_zL, eA_zF, eA_zG, eA_s, eA_n, eA_zJ, eA_zR, eJ_zn, eJ_zK, eJ_zL, eJ_zF, eJ_zG, eJ_zA, eJ_s, eJ_n, eJ_zR, eR_zn, eR_zK, eR_zL, eR_zF, eR_zG, eR_zA, eR_zJ, eR_s, eR_n]
    have rS0 : zR (seZ0 y n0 nr (168 * w + h) b b4) 10 = zR y 10 := by simp only [seZ0, enterC, entZ, eF_zn, eF_zK, eF_zL, eF_s, eF_n, eF_zG, eF_zA, eF_zJ, eF_zR, eG_zn, eG_zK, eG_zL, eG_zF, eG_s, eG_n, eG_zA, eG_zJ, eG_zR, eA_zn, eA_zK, eA_zL, eA_zF, eA_zG, eA_s, eA_n, eA_zJ, eA_zR, eJ_zn, eJ_zK, eJ_zL, eJ_zF, eJ_zG, eJ_zA, eJ_s, eJ_n, eJ_zR, eR_zn, eR_zK, eR_zL, eR_zF, eR_zG, eR_zA, eR_zJ, eR_s, eR_n, ne_eq, not_false_eq_true, not_true_eq_false, reduceCtorEq, Nat.reduceEqDiff]
    have htx0 : I_tx (seZ0 y n0 nr (168 * w + h) b b4) nt := htxy.fx vS0 kS0 lS0 (fun g hg => seZ0_F g ((by decide : ∀ f : Nat, f ∈ [512, 513, 514, 518] → f ∉ [768, 769, 770, 771, 452, 132, 3]) g hg)) (fun g _ => by rw [gS0]) (fun c _ => by rw [aS0]) rS0
    have hmk0 : I_mk (seZ0 y n0 nr (168 * w + h) b b4) nr := hmky.fx (fun g _ => by rw [aS0]) jS0
    have hwl := weighSome (N := N) (n0 := n0) (b4 := b4) (c := c) (r := r) (wi := wi) (hi := hi) (q := q) (k := k) (t := 168 * w + h) (dr := dr) (al := al) (D := D) (nr := nr) (nt := nt) (y := seZ0 y n0 nr (168 * w + h) b b4) hN hS0 (by rw [vS0]; exact pb2) (by rw [kS0]; exact pb3) (by rw [gS0]; exact u4) (by rw [seZ0_F 257 (by decide)]; exact p15) ((alT_cg (by rw [aS0]) (by rw [aS0])).trans eal) (by rw [vS0]; exact r2) (by rw [kS0]; exact d2) (by rw [vS0]; exact w2) (by rw [kS0]; exact w3) (by omega) ((fS 769).trans r4) ((fS 770).trans r10) r8 r9 ((fS 70).trans (d5.trans d9)) d9'' ((fS 68).trans (d3.trans d8)) d8' (by rw [seZ0_F 647 (by decide)]; exact p5) r11 (by omega) (by rw [seZ0_F 649 (by decide)]; exact t4.trans t5) t5' m6'' htx0 hmk0 hal ((dueT_cg (fun c _ => by rw [aS0])).trans eD) hD eA eW eK
    have bW := lsN_le (v := q) (th := dr) (age := A)
    rw [eW] at bW
    have HX : ∀ x1, Sh x1 → (∀ g, g ∉ [741, 742, 743, 768, 769, 770, 771, 452, 453, 454, 455, 456, 457, 132, 3, 4, 5, 6] → zF x1 g = zF y g) → (∀ g, g ≠ 45 → zA x1 g = zA y g) → zn x1 = zn y → zK x1 = zK y → zL x1 = zL y → zG x1 = zG y → zR x1 10 = zR y 10 → ∀ R, fX12_search_194 N 17 (nI b) (nI (6 * nr)) (nI A) (nI W) (nI al) (nI D) (seX x1 nr nb nx (nI r)) = some R → fX12_search_77 N 17 (nI b) (nI (6 * nr)) (nI r) (nI 6) (seX x1 nr nb nx (nI r)) = some (.inr R) := by
      intro x1 hSx xF xA xn xK xL xG xR R hR
      have hSX : Sh (seX x1 nr nb nx (nI r)) := hSx.sF.sA.sA.sA.sA.sA.sA
      have XA : ∀ g, g ∉ [34, 45] → zA (seX x1 nr nb nx (nI r)) g = zA y g := fun g hg => by
        rw [seX_A g (fun e => hg (by rw [e]; decide)), xA g (fun e => hg (by rw [e]; decide))]
      have XF : ∀ g, g ∉ [741, 742, 743, 768, 769, 770, 771, 452, 453, 454, 455, 456, 457, 132, 3, 4, 5, 6] → zF (seX x1 nr nb nx (nI r)) g = zF y g := fun g hg => by
        rw [seX_F g (fun e => hg (by simp only [List.mem_cons, List.not_mem_nil, or_false] at e ⊢; omega)), xF g hg]
      have htX : I_tx (seX x1 nr nb nx (nI r)) nt := htxy.fx (by simp only [seX, eF_zn, eF_zK, eF_zL, eF_s, eF_n, eF_zG, eF_zA, eF_zJ, eF_zR, eG_zn, eG_zK, eG_zL, eG_zF, eG_s, eG_n, eG_zA, eG_zJ, eG_zR, eA_zn, eA_zK, eA_zL, eA_zF, eA_zG, eA_s, eA_n, eA_zJ, eA_zR, eJ_zn, eJ_zK, eJ_zL, eJ_zF, eJ_zG, eJ_zA, eJ_s, eJ_n, eJ_zR, eR_zn, eR_zK, eR_zL, eR_zF, eR_zG, eR_zA, eR_zJ, eR_s, eR_n]; exact xn) (by simp only [seX, eF_zn, eF_zK, eF_zL, eF_s, eF_n, eF_zG, eF_zA, eF_zJ, eF_zR, eG_zn, eG_zK, eG_zL, eG_zF, eG_s, eG_n, eG_zA, eG_zJ, eG_zR, eA_zn, eA_zK, eA_zL, eA_zF, eA_zG, eA_s, eA_n, eA_zJ, eA_zR, eJ_zn, eJ_zK, eJ_zL, eJ_zF, eJ_zG, eJ_zA, eJ_s, eJ_n, eJ_zR, eR_zn, eR_zK, eR_zL, eR_zF, eR_zG, eR_zA, eR_zJ, eR_s, eR_n]; exact xK) (by simp only [seX, eF_zn, eF_zK, eF_zL, eF_s, eF_n, eF_zG, eF_zA, eF_zJ, eF_zR, eG_zn, eG_zK, eG_zL, eG_zF, eG_s, eG_n, eG_zA, eG_zJ, eG_zR, eA_zn, eA_zK, eA_zL, eA_zF, eA_zG, eA_s, eA_n, eA_zJ, eA_zR, eJ_zn, eJ_zK, eJ_zL, eJ_zF, eJ_zG, eJ_zA, eJ_s, eJ_n, eJ_zR, eR_zn, eR_zK, eR_zL, eR_zF, eR_zG, eR_zA, eR_zJ, eR_s, eR_n]; exact xL) (fun g hg => XF g ((by decide : ∀ f : Nat, f ∈ [512, 513, 514, 518] → f ∉ [741, 742, 743, 768, 769, 770, 771, 452, 453, 454, 455, 456, 457, 132, 3, 4, 5, 6]) g hg)) (fun g _ => by simp only [seX, eF_zn, eF_zK, eF_zL, eF_s, eF_n, eF_zG, eF_zA, eF_zJ, eF_zR, eG_zn, eG_zK, eG_zL, eG_zF, eG_s, eG_n, eG_zA, eG_zJ, eG_zR, eA_zn, eA_zK, eA_zL, eA_zF, eA_zG, eA_s, eA_n, eA_zJ, eA_zR, eJ_zn, eJ_zK, eJ_zL, eJ_zF, eJ_zG, eJ_zA, eJ_s, eJ_n, eJ_zR, eR_zn, eR_zK, eR_zL, eR_zF, eR_zG, eR_zA, eR_zJ, eR_s, eR_n]; rw [xG]) (fun c hc => XA c (fun e => by
        simp only [List.mem_cons, List.not_mem_nil, or_false] at e hc
        omega)) (by simp only [seX, eF_zn, eF_zK, eF_zL, eF_s, eF_n, eF_zG, eF_zA, eF_zJ, eF_zR, eG_zn, eG_zK, eG_zL, eG_zF, eG_s, eG_n, eG_zA, eG_zJ, eG_zR, eA_zn, eA_zK, eA_zL, eA_zF, eA_zG, eA_s, eA_n, eA_zJ, eA_zR, eJ_zn, eJ_zK, eJ_zL, eJ_zF, eJ_zG, eJ_zA, eJ_s, eJ_n, eJ_zR, eR_zn, eR_zK, eR_zL, eR_zF, eR_zG, eR_zA, eR_zJ, eR_s, eR_n]; exact xR)
      exact seT_some (R := R) hN hSX hr2 n3 n4 (by rw [XF 711 (by decide)]; exact p9) (by rw [XF 704 (by decide)]; exact p1) (by rw [XF 705 (by decide)]; exact p2) (by rw [XF 739 (by decide)]; exact p14) (by rw [XF 744 (by decide)]; exact t5) t5' m6'' htX u1 (by rw [XA 19 (by decide)]; exact r6) (by rw [XA 20 (by decide)]; exact r7) r8 r9 r11 (by rw [XA 29 (by decide)]; exact d9) d9'' (by rw [XA 27 (by decide)]; exact d8) d8' ((alT_cg (XA 39 (by decide)) (XA 41 (by decide))).trans eal) ((dueT_cg (fun c hc => XA c ((by decide : ∀ f : Nat, f ∈ [18, 19, 22, 23, 39, 40, 42, 43, 44] → f ∉ [34, 45]) c hc))).trans eD) eA eW hR
    by_cases hsh : W < K
    · -- short
      rw [if_pos hsh] at hwl
      obtain ⟨s, es⟩ : ∃ s, zF y 4 b4 + 1 = s := ⟨_, rfl⟩
      obtain ⟨tm, etm⟩ : ∃ tm, (if (4 : Int32) < s then (4 : Int32) else s) = tm := ⟨_, rfl⟩
      have hWF := weZ_F (y := y) (n0 := n0) (nr := nr) (t := 168 * w + h) (b := b) (b4 := b4) (r := r) (A := A) (W := W) (K := K) (ss := 1)
      have hSW : Sh (weZ (seZ0 y n0 nr (168 * w + h) b b4) n0 r A W K 1) := hS0.sF.sF.sF.sF.sF
      have vW : zn (weZ (seZ0 y n0 nr (168 * w + h) b b4) n0 r A W K 1) = zn y := by rw [← vS0]; simp only [weZ, eF_zn, eF_zK, eF_zL, eF_s, eF_n, eF_zG, eF_zA, eF_zJ, eF_zR, eG_zn, eG_zK, eG_zL, eG_zF, eG_s, eG_n, eG_zA, eG_zJ, eG_zR, eA_zn, eA_zK, eA_zL, eA_zF, eA_zG, eA_s, eA_n, eA_zJ, eA_zR, eJ_zn, eJ_zK, eJ_zL, eJ_zF, eJ_zG, eJ_zA, eJ_s, eJ_n, eJ_zR, eR_zn, eR_zK, eR_zL, eR_zF, eR_zG, eR_zA, eR_zJ, eR_s, eR_n]
      have kW : zK (weZ (seZ0 y n0 nr (168 * w + h) b b4) n0 r A W K 1) = zK y := by rw [← kS0]; simp only [weZ, eF_zn, eF_zK, eF_zL, eF_s, eF_n, eF_zG, eF_zA, eF_zJ, eF_zR, eG_zn, eG_zK, eG_zL, eG_zF, eG_s, eG_n, eG_zA, eG_zJ, eG_zR, eA_zn, eA_zK, eA_zL, eA_zF, eA_zG, eA_s, eA_n, eA_zJ, eA_zR, eJ_zn, eJ_zK, eJ_zL, eJ_zF, eJ_zG, eJ_zA, eJ_s, eJ_n, eJ_zR, eR_zn, eR_zK, eR_zL, eR_zF, eR_zG, eR_zA, eR_zJ, eR_s, eR_n]
      have e456 : zF (weZ (seZ0 y n0 nr (168 * w + h) b b4) n0 r A W K 1) 456 n0 = 1 := by simp only [weZ, eF_zn, eF_zK, eF_zL, eF_s, eF_n, eF_zG, eF_zA, eF_zJ, eF_zR, eG_zn, eG_zK, eG_zL, eG_zF, eG_s, eG_n, eG_zA, eG_zJ, eG_zR, eA_zn, eA_zK, eA_zL, eA_zF, eA_zG, eA_s, eA_n, eA_zJ, eA_zR, eJ_zn, eJ_zK, eJ_zL, eJ_zF, eJ_zG, eJ_zA, eJ_s, eJ_n, eJ_zR, eR_zn, eR_zK, eR_zL, eR_zF, eR_zG, eR_zA, eR_zJ, eR_s, eR_n, ne_eq, not_false_eq_true, not_true_eq_false, reduceCtorEq, Nat.reduceEqDiff, va_up_self]
      have hpu := punish_e (N := N) (n0 := n0) (b4 := b4) (w := w) (h := h) (y := weZ (seZ0 y n0 nr (168 * w + h) b b4) n0 r A W K 1) (fi := zF y 650 0) (s := s) (tm := tm) hSW (by rw [vW]; exact pb2) (by rw [kW]; exact pb3) (by rw [vW]; exact w2) (by rw [kW]; exact w3) (by rw [hWF 647 (by decide)]; exact p5) n3 n4 (by rw [hWF 650 (by decide)]) (by rw [hWF 4 (by decide)]; exact es) etm
      rw [hWF 5 (by decide), hWF 6 (by decide)] at hpu
      refine fin (nI r) (nI A) (nI W) (nI K) 1 (zF y 650 0 * tm) s (zF y 5 b4 + zF y 650 0 * tm) (if s < 4 then zF y 6 b4 else nI w + 2) (Or.inr rfl) u2 ?_ ?_
      · exact HCe _ (seZ1 y n0 nr (168 * w + h) b b4 (nI r) (nI A) (nI W) (nI K) 1 (zF y 650 0 * tm) s (zF y 5 b4 + zF y 650 0 * tm) (if s < 4 then zF y 6 b4 else nI w + 2)) hwl hSW (by rw [vW]; exact w2) (by rw [kW]; exact w3) (Or.inr ⟨by rw [e456]; decide, hpu⟩) (by simp only [seZ1, seZ0, enterC, entZ, eF_zn, eF_zK, eF_zL, eF_s, eF_n, eF_zG, eF_zA, eF_zJ, eF_zR, eG_zn, eG_zK, eG_zL, eG_zF, eG_s, eG_n, eG_zA, eG_zJ, eG_zR, eA_zn, eA_zK, eA_zL, eA_zF, eA_zG, eA_s, eA_n, eA_zJ, eA_zR, eJ_zn, eJ_zK, eJ_zL, eJ_zF, eJ_zG, eJ_zA, eJ_s, eJ_n, eJ_zR, eR_zn, eR_zK, eR_zL, eR_zF, eR_zG, eR_zA, eR_zJ, eR_s, eR_n]; exact w2) (by simp only [seZ1, seZ0, enterC, entZ, eF_zn, eF_zK, eF_zL, eF_s, eF_n, eF_zG, eF_zA, eF_zJ, eF_zR, eG_zn, eG_zK, eG_zL, eG_zF, eG_s, eG_n, eG_zA, eG_zJ, eG_zR, eA_zn, eA_zK, eA_zL, eA_zF, eA_zG, eA_s, eA_n, eA_zJ, eA_zR, eJ_zn, eJ_zK, eJ_zL, eJ_zF, eJ_zG, eJ_zA, eJ_s, eJ_n, eJ_zR, eR_zn, eR_zK, eR_zL, eR_zF, eR_zG, eR_zA, eR_zJ, eR_s, eR_n]; exact w3) (c769 _ _ _ _ _ _ _ _ _)
      · intro x1 k2 hSx xF xA
        have hSX : Sh (seX x1 nr nb nx (nI r)) := hSx.sF.sA.sA.sA.sA.sA.sA
        have f1 := se194s (N := N) (b := b) (nb := nb) (nr := nr) (w := w) (h := h) (D := D) (al := al) (A := A) (W := W) (y := seX x1 nr nb nx (nI r)) (fi := zF y 650 0) (s := s) (tm := tm) hSX hr2 hb n8 (by rw [seX_F 711 (by decide), xF 711 (by decide)]; exact p9) (by rw [seX_F 704 (by decide), xF 704 (by decide)]; exact p1) (by rw [seX_F 705 (by decide), xF 705 (by decide)]; exact p2) (by rw [seX_F 745 (by decide), xF 745 (by decide)]; exact t6.symm) hD hal (by omega) (by omega) eK hsh (by rw [seX_A 35 (by decide), xA 35 (by decide), ← pb8]; exact es) etm
        rw [seX_A 36 (by decide), seX_A 37 (by decide), xA 36 (by decide), xA 37 (by decide), ← pb9, ← pb10] at f1
        exact HX x1 hSx xF xA (by rw [k2.en]; simp only [seZ1, seZ0, enterC, entZ, eF_zn, eF_zK, eF_zL, eF_s, eF_n, eF_zG, eF_zA, eF_zJ, eF_zR, eG_zn, eG_zK, eG_zL, eG_zF, eG_s, eG_n, eG_zA, eG_zJ, eG_zR, eA_zn, eA_zK, eA_zL, eA_zF, eA_zG, eA_s, eA_n, eA_zJ, eA_zR, eJ_zn, eJ_zK, eJ_zL, eJ_zF, eJ_zG, eJ_zA, eJ_s, eJ_n, eJ_zR, eR_zn, eR_zK, eR_zL, eR_zF, eR_zG, eR_zA, eR_zJ, eR_s, eR_n]) (by rw [k2.eK]; simp only [seZ1, seZ0, enterC, entZ, eF_zn, eF_zK, eF_zL, eF_s, eF_n, eF_zG, eF_zA, eF_zJ, eF_zR, eG_zn, eG_zK, eG_zL, eG_zF, eG_s, eG_n, eG_zA, eG_zJ, eG_zR, eA_zn, eA_zK, eA_zL, eA_zF, eA_zG, eA_s, eA_n, eA_zJ, eA_zR, eJ_zn, eJ_zK, eJ_zL, eJ_zF, eJ_zG, eJ_zA, eJ_s, eJ_n, eJ_zR, eR_zn, eR_zK, eR_zL, eR_zF, eR_zG, eR_zA, eR_zJ, eR_s, eR_n]) (by rw [k2.eL]; simp only [seZ1, seZ0, enterC, entZ, eF_zn, eF_zK, eF_zL, eF_s, eF_n, eF_zG, eF_zA, eF_zJ, eF_zR, eG_zn, eG_zK, eG_zL, eG_zF, eG_s, eG_n, eG_zA, eG_zJ, eG_zR, eA_zn, eA_zK, eA_zL, eA_zF, eA_zG, eA_s, eA_n, eA_zJ, eA_zR, eJ_zn, eJ_zK, eJ_zL, eJ_zF, eJ_zG, eJ_zA, eJ_s, eJ_n, eJ_zR, eR_zn, eR_zK, eR_zL, eR_zF, eR_zG, eR_zA, eR_zJ, eR_s, eR_n]) (by rw [k2.eG]; simp only [seZ1, seZ0, enterC, entZ, eF_zn, eF_zK, eF_zL, eF_s, eF_n, eF_zG, eF_zA, eF_zJ, eF_zR, eG_zn, eG_zK, eG_zL, eG_zF, eG_s, eG_n, eG_zA, eG_zJ, eG_zR, eA_zn, eA_zK, eA_zL, eA_zF, eA_zG, eA_s, eA_n, eA_zJ, eA_zR, eJ_zn, eJ_zK, eJ_zL, eJ_zF, eJ_zG, eJ_zA, eJ_s, eJ_n, eJ_zR, eR_zn, eR_zK, eR_zL, eR_zF, eR_zG, eR_zA, eR_zJ, eR_s, eR_n]) (by rw [k2.eR]; simp only [seZ1, seZ0, enterC, entZ, eF_zn, eF_zK, eF_zL, eF_s, eF_n, eF_zG, eF_zA, eF_zJ, eF_zR, eG_zn, eG_zK, eG_zL, eG_zF, eG_s, eG_n, eG_zA, eG_zJ, eG_zR, eA_zn, eA_zK, eA_zL, eA_zF, eA_zG, eA_s, eA_n, eA_zJ, eA_zR, eJ_zn, eJ_zK, eJ_zL, eJ_zF, eJ_zG, eJ_zA, eJ_s, eJ_n, eJ_zR, eR_zn, eR_zK, eR_zL, eR_zF, eR_zG, eR_zA, eR_zJ, eR_s, eR_n, ne_eq, not_false_eq_true, not_true_eq_false, reduceCtorEq, Nat.reduceEqDiff]) _ f1
    · -- not short
      rw [if_neg hsh] at hwl
      have hSW : Sh (weZ (seZ0 y n0 nr (168 * w + h) b b4) n0 r A W K 0) := hS0.sF.sF.sF.sF.sF
      have vW : zn (weZ (seZ0 y n0 nr (168 * w + h) b b4) n0 r A W K 0) = zn y := by rw [← vS0]; simp only [weZ, eF_zn, eF_zK, eF_zL, eF_s, eF_n, eF_zG, eF_zA, eF_zJ, eF_zR, eG_zn, eG_zK, eG_zL, eG_zF, eG_s, eG_n, eG_zA, eG_zJ, eG_zR, eA_zn, eA_zK, eA_zL, eA_zF, eA_zG, eA_s, eA_n, eA_zJ, eA_zR, eJ_zn, eJ_zK, eJ_zL, eJ_zF, eJ_zG, eJ_zA, eJ_s, eJ_n, eJ_zR, eR_zn, eR_zK, eR_zL, eR_zF, eR_zG, eR_zA, eR_zJ, eR_s, eR_n]
      have kW : zK (weZ (seZ0 y n0 nr (168 * w + h) b b4) n0 r A W K 0) = zK y := by rw [← kS0]; simp only [weZ, eF_zn, eF_zK, eF_zL, eF_s, eF_n, eF_zG, eF_zA, eF_zJ, eF_zR, eG_zn, eG_zK, eG_zL, eG_zF, eG_s, eG_n, eG_zA, eG_zJ, eG_zR, eA_zn, eA_zK, eA_zL, eA_zF, eA_zG, eA_s, eA_n, eA_zJ, eA_zR, eJ_zn, eJ_zK, eJ_zL, eJ_zF, eJ_zG, eJ_zA, eJ_s, eJ_n, eJ_zR, eR_zn, eR_zK, eR_zL, eR_zF, eR_zG, eR_zA, eR_zJ, eR_s, eR_n]
      have e456 : zF (weZ (seZ0 y n0 nr (168 * w + h) b b4) n0 r A W K 0) 456 n0 = 0 := by simp only [weZ, eF_zn, eF_zK, eF_zL, eF_s, eF_n, eF_zG, eF_zA, eF_zJ, eF_zR, eG_zn, eG_zK, eG_zL, eG_zF, eG_s, eG_n, eG_zA, eG_zJ, eG_zR, eA_zn, eA_zK, eA_zL, eA_zF, eA_zG, eA_s, eA_n, eA_zJ, eA_zR, eJ_zn, eJ_zK, eJ_zL, eJ_zF, eJ_zG, eJ_zA, eJ_s, eJ_n, eJ_zR, eR_zn, eR_zK, eR_zL, eR_zF, eR_zG, eR_zA, eR_zJ, eR_s, eR_n, ne_eq, not_false_eq_true, not_true_eq_false, reduceCtorEq, Nat.reduceEqDiff, va_up_self]
      have e769 : zF (weZ (seZ0 y n0 nr (168 * w + h) b b4) n0 r A W K 0) 769 n0 = nI nr := by rw [← c769']; simp only [weZ, eF_zn, eF_zK, eF_zL, eF_s, eF_n, eF_zG, eF_zA, eF_zJ, eF_zR, eG_zn, eG_zK, eG_zL, eG_zF, eG_s, eG_n, eG_zA, eG_zJ, eG_zR, eA_zn, eA_zK, eA_zL, eA_zF, eA_zG, eA_s, eA_n, eA_zJ, eA_zR, eJ_zn, eJ_zK, eJ_zL, eJ_zF, eJ_zG, eJ_zA, eJ_s, eJ_n, eJ_zR, eR_zn, eR_zK, eR_zL, eR_zF, eR_zG, eR_zA, eR_zJ, eR_s, eR_n, ne_eq, not_false_eq_true, not_true_eq_false, reduceCtorEq, Nat.reduceEqDiff]
      refine fin (nI r) (nI A) (nI W) (nI K) 0 0 (zF y 4 b4) (zF y 5 b4) (zF y 6 b4) (Or.inl rfl) u2 ?_ ?_
      · rw [seZ1_ns w4]
        exact HCe _ _ hwl hSW (by rw [vW]; exact w2) (by rw [kW]; exact w3) (Or.inl ⟨e456, rfl⟩) (by rw [vW]; exact w2) (by rw [kW]; exact w3) e769
      · intro x1 k2 hSx xF xA
        have hSX : Sh (seX x1 nr nb nx (nI r)) := hSx.sF.sA.sA.sA.sA.sA.sA
        have f1 := se194n (N := N) (b := b) (nr := nr) (w := w) (h := h) (D := D) (al := al) (A := A) (W := W) (y := seX x1 nr nb nx (nI r)) hSX hr2 (by rw [seX_F 711 (by decide), xF 711 (by decide)]; exact p9) (by rw [seX_F 704 (by decide), xF 704 (by decide)]; exact p1) (by rw [seX_F 705 (by decide), xF 705 (by decide)]; exact p2) hD hal (by omega) (by omega) eK hsh
        have f2 := HX x1 hSx xF xA (by rw [k2.en]; simp only [seZ1, seZ0, enterC, entZ, eF_zn, eF_zK, eF_zL, eF_s, eF_n, eF_zG, eF_zA, eF_zJ, eF_zR, eG_zn, eG_zK, eG_zL, eG_zF, eG_s, eG_n, eG_zA, eG_zJ, eG_zR, eA_zn, eA_zK, eA_zL, eA_zF, eA_zG, eA_s, eA_n, eA_zJ, eA_zR, eJ_zn, eJ_zK, eJ_zL, eJ_zF, eJ_zG, eJ_zA, eJ_s, eJ_n, eJ_zR, eR_zn, eR_zK, eR_zL, eR_zF, eR_zG, eR_zA, eR_zJ, eR_s, eR_n]) (by rw [k2.eK]; simp only [seZ1, seZ0, enterC, entZ, eF_zn, eF_zK, eF_zL, eF_s, eF_n, eF_zG, eF_zA, eF_zJ, eF_zR, eG_zn, eG_zK, eG_zL, eG_zF, eG_s, eG_n, eG_zA, eG_zJ, eG_zR, eA_zn, eA_zK, eA_zL, eA_zF, eA_zG, eA_s, eA_n, eA_zJ, eA_zR, eJ_zn, eJ_zK, eJ_zL, eJ_zF, eJ_zG, eJ_zA, eJ_s, eJ_n, eJ_zR, eR_zn, eR_zK, eR_zL, eR_zF, eR_zG, eR_zA, eR_zJ, eR_s, eR_n]) (by rw [k2.eL]; simp only [seZ1, seZ0, enterC, entZ, eF_zn, eF_zK, eF_zL, eF_s, eF_n, eF_zG, eF_zA, eF_zJ, eF_zR, eG_zn, eG_zK, eG_zL, eG_zF, eG_s, eG_n, eG_zA, eG_zJ, eG_zR, eA_zn, eA_zK, eA_zL, eA_zF, eA_zG, eA_s, eA_n, eA_zJ, eA_zR, eJ_zn, eJ_zK, eJ_zL, eJ_zF, eJ_zG, eJ_zA, eJ_s, eJ_n, eJ_zR, eR_zn, eR_zK, eR_zL, eR_zF, eR_zG, eR_zA, eR_zJ, eR_s, eR_n]) (by rw [k2.eG]; simp only [seZ1, seZ0, enterC, entZ, eF_zn, eF_zK, eF_zL, eF_s, eF_n, eF_zG, eF_zA, eF_zJ, eF_zR, eG_zn, eG_zK, eG_zL, eG_zF, eG_s, eG_n, eG_zA, eG_zJ, eG_zR, eA_zn, eA_zK, eA_zL, eA_zF, eA_zG, eA_s, eA_n, eA_zJ, eA_zR, eJ_zn, eJ_zK, eJ_zL, eJ_zF, eJ_zG, eJ_zA, eJ_s, eJ_n, eJ_zR, eR_zn, eR_zK, eR_zL, eR_zF, eR_zG, eR_zA, eR_zJ, eR_s, eR_n]) (by rw [k2.eR]; simp only [seZ1, seZ0, enterC, entZ, eF_zn, eF_zK, eF_zL, eF_s, eF_n, eF_zG, eF_zA, eF_zJ, eF_zR, eG_zn, eG_zK, eG_zL, eG_zF, eG_s, eG_n, eG_zA, eG_zJ, eG_zR, eA_zn, eA_zK, eA_zL, eA_zF, eA_zG, eA_s, eA_n, eA_zJ, eA_zR, eJ_zn, eJ_zK, eJ_zL, eJ_zF, eJ_zG, eJ_zA, eJ_s, eJ_n, eJ_zR, eR_zn, eR_zK, eR_zL, eR_zF, eR_zG, eR_zA, eR_zJ, eR_s, eR_n, ne_eq, not_false_eq_true, not_true_eq_false, reduceCtorEq, Nat.reduceEqDiff]) _ f1
        rw [f2, pb8, pb9, pb10, ← xA 35 (by decide), ← xA 36 (by decide), ← xA 37 (by decide)]
        unfold seM
        rw [seM0_ns]
