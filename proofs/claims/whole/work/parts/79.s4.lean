-- SEARCH, the class's side
theorem punish_e {N n0 b4 w h : Nat} {y : Hp} {fi s tm : Int32} (hS : Sh y) (c1 : b4 < zn y) (c2 : zK y b4 = 0) (n1 : n0 < zn y) (n2 : zK y n0 = 7) (e647 : zF y 647 0 = nI (168 * w + h)) (hw : w < 200) (hh : h < 168) (e650 : zF y 650 0 = fi) (es : zF y 4 b4 + 1 = s) (etm : (if (4 : Int32) < s then (4 : Int32) else s) = tm) : fX11_punish N 0 n0 b4 y = some (zsF (zsF (zsF (zsF y 4 b4 s) 457 n0 (fi * tm)) 5 b4 (zF y 5 b4 + fi * tm)) 6 b4 (if s < 4 then zF y 6 b4 else nI w + 2)) := by
  have hW := weekNow_c (N := N) (z := zsF (zsF (zsF y 4 b4 s) 457 n0 (fi * tm)) 5 b4 (zF y 5 b4 + fi * tm)) hS.sF.sF.sF (by simp only [eF_zn, eF_zK, eF_zL, eF_s, eF_n, eF_zG, eF_zA, eF_zJ, eF_zR, eG_zn, eG_zK, eG_zL, eG_zF, eG_s, eG_n, eG_zA, eG_zJ, eG_zR, eA_zn, eA_zK, eA_zL, eA_zF, eA_zG, eA_s, eA_n, eA_zJ, eA_zR, eJ_zn, eJ_zK, eJ_zL, eJ_zF, eJ_zG, eJ_zA, eJ_s, eJ_n, eJ_zR, eR_zn, eR_zK, eR_zL, eR_zF, eR_zG, eR_zA, eR_zJ, eR_s, eR_n, ne_eq, not_false_eq_true, not_true_eq_false, reduceCtorEq, Nat.reduceEqDiff]; exact e647) hw hh
  simp only [fX11_punish_58, fX11_punish, gdT, brTr, brFa, br_00, br_10, bd_e, bo_s, bp_s, cs_s, cs_n, lf_s, eF_zn, eF_zK, eF_zL, eF_s, eF_n, eF_zG, eF_zA, eF_zJ, eF_zR, eG_zn, eG_zK, eG_zL, eG_zF, eG_s, eG_n, eG_zA, eG_zJ, eG_zR, eA_zn, eA_zK, eA_zL, eA_zF, eA_zG, eA_s, eA_n, eA_zJ, eA_zR, eJ_zn, eJ_zK, eJ_zL, eJ_zF, eJ_zG, eJ_zA, eJ_s, eJ_n, eJ_zR, eR_zn, eR_zK, eR_zL, eR_zF, eR_zG, eR_zA, eR_zJ, eR_s, eR_n, ne_eq, not_false_eq_true, not_true_eq_false, reduceCtorEq, Nat.reduceEqDiff, o0 hS, okE c1 c2, okE n1 n2, va_up_self, es, e650, etm]
  by_cases c : s < 4
  · simp only [br_y c, if_pos c]
    rw [zsF_id (z := zsF (zsF (zsF y 4 b4 s) 457 n0 (fi * tm)) 5 b4 (zF y 5 b4 + fi * tm)) (by simp only [eF_zn, eF_zK, eF_zL, eF_s, eF_n, eF_zG, eF_zA, eF_zJ, eF_zR, eG_zn, eG_zK, eG_zL, eG_zF, eG_s, eG_n, eG_zA, eG_zJ, eG_zR, eA_zn, eA_zK, eA_zL, eA_zF, eA_zG, eA_s, eA_n, eA_zJ, eA_zR, eJ_zn, eJ_zK, eJ_zL, eJ_zF, eJ_zG, eJ_zA, eJ_s, eJ_n, eJ_zR, eR_zn, eR_zK, eR_zL, eR_zF, eR_zG, eR_zA, eR_zJ, eR_s, eR_n, ne_eq, not_false_eq_true, not_true_eq_false, reduceCtorEq, Nat.reduceEqDiff])]
  · simp only [br_n c, if_neg c, hW, gdT, brTr, brFa, br_00, br_10, bd_e, bo_s, bp_s, cs_s, cs_n, lf_s]
theorem weighSome {N n0 b4 c r wi hi q k t dr al D nr nt A W K : Nat} {y : Hp} (hN : 6000 ≤ N) (hS : Sh y) (x1 : b4 < zn y) (x2 : zK y b4 = 0) (e7 : zG y 7 b4 = some c) (e257 : zF y 257 9 = nI nt) (eal : alT y nt (nI wi) = nI al) (c1 : c < zn y) (c2 : zK y c = 1) (n1 : n0 < zn y) (n2 : zK y n0 = 7) (hne : c ≠ n0) (e769 : zF y 769 c = nI r) (e770 : zF y 770 c = nI (168 * wi + hi)) (hwi : wi < 200) (hhi : hi < 168) (e70 : zF y 70 c = nI q) (hq : q ≤ 2000) (e68 : zF y 68 c = nI k) (hk : k < 3) (e647 : zF y 647 0 = nI t) (ht : 168 * wi + hi ≤ t) (ht2 : t < 33600) (e649 : zF y 649 0 = nI dr) (hdr : dr ≤ 5) (hnt : nt ≤ 6) (htx : I_tx y nt) (hmk : I_mk y nr) (hal : al ≤ 5) (eD : dueT y nr nt k wi (nI wi) = nI D) (hD : D ≤ 3000) (eA : t - (168 * wi + hi) = A) (eW : lsN q dr A = W) (eK : lsN D al A = K) :
    fX11_weighLatest N 0 n0 b4 y = some (weZ y n0 r A W K (if W < K then 1 else 0)) := by
  have hw := weigh37 (N := N) hN hS c1 c2 n1 n2 hne e769 e770 hwi hhi e70 hq e68 hk e647 ht ht2 e649 hdr hnt htx hmk hal eD hD eA eW eK
  have kd : (c < zn y ∧ (zK y c = 1 ∨ zK y c = 5 ∨ zK y c = 7)) = True := eq_true ⟨c1, Or.inl c2⟩
  unfold fX11_weighLatest
  simp only [okE x1 x2, gdT, brTr, brFa, br_00, br_10, bd_e, bo_s, bp_s, cs_s, cs_n, lf_s, e7, o0 hS, g642 hS, okE c1 c2, week_e kd e770 hwi hhi, o9 hS, ruling_e hN hS e257 hnt htx]
  unfold alT at eal
  cases hb : txB (zA y 39) (nI wi) nt with
  | none =>
    rw [hb] at hw eal
    simp only [tAd, encT] at hw eal
    rw [← eal] at hw
    simp only [tAd, gdT, brTr, brFa, br_00, br_10, bd_e, bo_s, bp_s, cs_s, cs_n, lf_s]
    exact hw
  | some j =>
    obtain ⟨a, ea, ha⟩ := htx.1 j (txB_lt hb)
    have g1 : (a < zn y ∧ zK y a = 8) = True := okE (by have := ha.2.1; omega) ha.2.2.1.1
    have e514 : zF y 514 a = zA y 41 j := ha.2.2.2.2.2.2.2.1
    rw [hb] at hw eal
    simp only [tAd, encT, ea] at hw eal
    rw [← eal] at hw
    simp only [tAd, gdT, brTr, brFa, br_00, br_10, bd_e, bo_s, bp_s, cs_s, cs_n, lf_s, ea, g1, e514]
    exact hw
theorem searchC_e {N : Nat} {z z1 y S2 S3 : Hp} {n0 w h nb nr b b4 nx : Nat} (hS : Sh z) (n7 : zF z 646 0 = nI nb) (h0 : 0 < nb) (n8 : nb ≤ 8) (n10 : zF z 132 1 = nI nr) (hr : nr < 200) (hb : b < nb) (g1 : fX10_upNext N 11 (nI nb) z = some (nI b, z1)) (hS1 : Sh z1) (e646 : zF z1 646 0 = nI nb) (e4 : zR z1 16 b = some b4) (e578 : zF z1 578 11 = nI nx) (hy : zal (zsF z1 578 11 (nI (nx + 1))) 7 0 = y) (hn0 : zn z1 = n0) (hSy : Sh y) (e132 : zF y 132 1 = nI nr) (e647 : zF y 647 0 = nI (168 * w + h)) (w2 : n0 < zn y) (w3 : zK y n0 = 7) (hb4 : b4 < zn y) (kb4 : zK y b4 = 0) (hwl : fX11_weighLatest N 0 n0 b4 (seZ0 y n0 nr (168 * w + h) b b4) = some S2) (hS2 : Sh S2) (q1 : n0 < zn S2) (q2 : zK S2 n0 = 7) (hpu : (zF S2 456 n0 = 0 ∧ S3 = S2) ∨ (¬ zF S2 456 n0 = 0 ∧ fX11_punish N 0 n0 b4 S2 = some S3)) (q3 : n0 < zn S3) (q4 : zK S3 n0 = 7) (q5 : zF S3 769 n0 = nI nr) : fX11_search N 0 z = some (nI nr, S3) := by
  have c0 : ¬ nI nb = 0 := nI_ne0 (by omega) (by omega)
  have hb1 := baker_1 (N := N) hS1 e646 n8 hb
  rw [e4] at hb1
  have hmo : fX10_moveOn N 11 z1 = some (zsF z1 578 11 (nI (nx + 1))) := by simp only [fX10_moveOn, gdT, brTr, brFa, br_00, br_10, bd_e, bo_s, bp_s, cs_s, cs_n, lf_s, o11 hS1, e578, nI_1]
  have hn0' : zn (zsF z1 578 11 (nI (nx + 1))) = n0 := by rw [eF_zn]; exact hn0
  have i0 : fX8_init N n0 (nI nr) (nI (168 * w + h)) (nI b) y = some (zsF (entZ y n0 nr (168 * w + h) b 3) 452 n0 (-6)) := by
    have g7 : (n0 < zn (entZ y n0 nr (168 * w + h) b 3) ∧ zK (entZ y n0 nr (168 * w + h) b 3) n0 = 7) = True := okE (by simp only [entZ, eF_zn, eF_zK, eF_zL, eF_s, eF_n, eF_zG, eF_zA, eF_zJ, eF_zR, eG_zn, eG_zK, eG_zL, eG_zF, eG_s, eG_n, eG_zA, eG_zJ, eG_zR, eA_zn, eA_zK, eA_zL, eA_zF, eA_zG, eA_s, eA_n, eA_zJ, eA_zR, eJ_zn, eJ_zK, eJ_zL, eJ_zF, eJ_zG, eJ_zA, eJ_s, eJ_n, eJ_zR, eR_zn, eR_zK, eR_zL, eR_zF, eR_zG, eR_zA, eR_zJ, eR_s, eR_n]; exact w2) (by simp only [entZ, eF_zn, eF_zK, eF_zL, eF_s, eF_n, eF_zG, eF_zA, eF_zJ, eF_zR, eG_zn, eG_zK, eG_zL, eG_zF, eG_s, eG_n, eG_zA, eG_zJ, eG_zR, eA_zn, eA_zK, eA_zL, eA_zF, eA_zG, eA_s, eA_n, eA_zJ, eA_zR, eJ_zn, eJ_zK, eJ_zL, eJ_zF, eJ_zG, eJ_zA, eJ_s, eJ_n, eJ_zR, eR_zn, eR_zK, eR_zL, eR_zF, eR_zG, eR_zA, eR_zJ, eR_s, eR_n]; exact w3)
    simp only [fX8_init, entZ_e (eq_true ⟨w2, Or.inr (Or.inr w3)⟩), gdT, brTr, brFa, br_00, br_10, bd_e, bo_s, bp_s, cs_s, cs_n, lf_s, g7]
  have hSa : Sh (zsF (entZ y n0 nr (168 * w + h) b 3) 452 n0 (-6)) := hSy.sF.sF.sF.sF.sF
  have ka : zK (zsF (entZ y n0 nr (168 * w + h) b 3) 452 n0 (-6)) n0 = 7 := by simp only [entZ, eF_zn, eF_zK, eF_zL, eF_s, eF_n, eF_zG, eF_zA, eF_zJ, eF_zR, eG_zn, eG_zK, eG_zL, eG_zF, eG_s, eG_n, eG_zA, eG_zJ, eG_zR, eA_zn, eA_zK, eA_zL, eA_zF, eA_zG, eA_s, eA_n, eA_zJ, eA_zR, eJ_zn, eJ_zK, eJ_zL, eJ_zF, eJ_zG, eJ_zA, eJ_s, eJ_n, eJ_zR, eR_zn, eR_zK, eR_zL, eR_zF, eR_zG, eR_zA, eR_zJ, eR_s, eR_n]; exact w3
  have va : n0 < zn (zsF (entZ y n0 nr (168 * w + h) b 3) 452 n0 (-6)) := by simp only [entZ, eF_zn, eF_zK, eF_zL, eF_s, eF_n, eF_zG, eF_zA, eF_zJ, eF_zR, eG_zn, eG_zK, eG_zL, eG_zF, eG_s, eG_n, eG_zA, eG_zJ, eG_zR, eA_zn, eA_zK, eA_zL, eA_zF, eA_zG, eA_s, eA_n, eA_zJ, eA_zR, eJ_zn, eJ_zK, eJ_zL, eJ_zF, eJ_zG, eJ_zA, eJ_s, eJ_n, eJ_zR, eR_zn, eR_zK, eR_zL, eR_zF, eR_zG, eR_zA, eR_zJ, eR_s, eR_n]; exact w2
  have f132 : zF (zsF (entZ y n0 nr (168 * w + h) b 3) 452 n0 (-6)) 132 1 = nI nr := by simp only [entZ, eF_zn, eF_zK, eF_zL, eF_s, eF_n, eF_zG, eF_zA, eF_zJ, eF_zR, eG_zn, eG_zK, eG_zL, eG_zF, eG_s, eG_n, eG_zA, eG_zJ, eG_zR, eA_zn, eA_zK, eA_zL, eA_zF, eA_zG, eA_s, eA_n, eA_zJ, eA_zR, eJ_zn, eJ_zK, eJ_zL, eJ_zF, eJ_zG, eJ_zA, eJ_s, eJ_n, eJ_zR, eR_zn, eR_zK, eR_zL, eR_zF, eR_zG, eR_zA, eR_zJ, eR_s, eR_n, ne_eq, not_false_eq_true, not_true_eq_false, reduceCtorEq, Nat.reduceEqDiff]; exact e132
  have hE := enterC_e (N := N) (n0 := n0) hSa f132 hr (eq_true ⟨va, Or.inr (Or.inr ka)⟩)
  have hSb : Sh (enterC (zsF (entZ y n0 nr (168 * w + h) b 3) 452 n0 (-6)) n0 nr) := hSa.sR.sF
  have b5 : (b4 < zn (enterC (zsF (entZ y n0 nr (168 * w + h) b 3) 452 n0 (-6)) n0 nr) ∧ zK (enterC (zsF (entZ y n0 nr (168 * w + h) b 3) 452 n0 (-6)) n0 nr) b4 = 0) = True := okE (by simp only [enterC, entZ, eF_zn, eF_zK, eF_zL, eF_s, eF_n, eF_zG, eF_zA, eF_zJ, eF_zR, eG_zn, eG_zK, eG_zL, eG_zF, eG_s, eG_n, eG_zA, eG_zJ, eG_zR, eA_zn, eA_zK, eA_zL, eA_zF, eA_zG, eA_s, eA_n, eA_zJ, eA_zR, eJ_zn, eJ_zK, eJ_zL, eJ_zF, eJ_zG, eJ_zA, eJ_s, eJ_n, eJ_zR, eR_zn, eR_zK, eR_zL, eR_zF, eR_zG, eR_zA, eR_zJ, eR_s, eR_n]; exact hb4) (by simp only [enterC, entZ, eF_zn, eF_zK, eF_zL, eF_s, eF_n, eF_zG, eF_zA, eF_zJ, eF_zR, eG_zn, eG_zK, eG_zL, eG_zF, eG_s, eG_n, eG_zA, eG_zJ, eG_zR, eA_zn, eA_zK, eA_zL, eA_zF, eA_zG, eA_s, eA_n, eA_zJ, eA_zR, eJ_zn, eJ_zK, eJ_zL, eJ_zF, eJ_zG, eJ_zA, eJ_s, eJ_n, eJ_zR, eR_zn, eR_zK, eR_zL, eR_zF, eR_zG, eR_zA, eR_zJ, eR_s, eR_n]; exact kb4)
  have f3 : zF (enterC (zsF (entZ y n0 nr (168 * w + h) b 3) 452 n0 (-6)) n0 nr) 3 b4 = zF y 3 b4 := by simp only [enterC, entZ, eF_zn, eF_zK, eF_zL, eF_s, eF_n, eF_zG, eF_zA, eF_zJ, eF_zR, eG_zn, eG_zK, eG_zL, eG_zF, eG_s, eG_n, eG_zA, eG_zJ, eG_zR, eA_zn, eA_zK, eA_zL, eA_zF, eA_zG, eA_s, eA_n, eA_zJ, eA_zR, eJ_zn, eJ_zK, eJ_zL, eJ_zF, eJ_zG, eJ_zA, eJ_s, eJ_n, eJ_zR, eR_zn, eR_zK, eR_zL, eR_zF, eR_zG, eR_zA, eR_zJ, eR_s, eR_n, ne_eq, not_false_eq_true, not_true_eq_false, reduceCtorEq, Nat.reduceEqDiff]
  have eZ : zsF (enterC (zsF (entZ y n0 nr (168 * w + h) b 3) 452 n0 (-6)) n0 nr) 3 b4 (zF y 3 b4 + 1) = seZ0 y n0 nr (168 * w + h) b b4 := rfl
  have hSc : Sh (seZ0 y n0 nr (168 * w + h) b b4) := hSb.sF
  simp only [fX11_search, fX11_search_112, gdT, brTr, brFa, br_00, br_10, bd_e, bo_s, bp_s, cs_s, cs_n, lf_s, o0 hS, o1 hS, g640 hS, n7, br_n c0, isFull_0 hS n10 hr, g643 hS, o11 hS, g1, o0 hS1, o11 hS1, g643 hS1, hb1, hmo, hn0', hy, o0 hSy, o1 hSy, g640 hSy, e132, e647, i0, o0 hSa, o1 hSa, g640 hSa, hE, b5, f3, eZ, o0 hSc, hwl, okE q1 q2, o0 hS2]
  rcases hpu with ⟨p1, p2⟩ | ⟨p1, p2⟩
  · subst p2
    simp only [br_y p1, okE q3 q4, gdT, brTr, brFa, br_00, br_10, bd_e, bo_s, bp_s, cs_s, cs_n, lf_s, q5]
  · simp only [br_n p1, p2, okE q3 q4, gdT, brTr, brFa, br_00, br_10, bd_e, bo_s, bp_s, cs_s, cs_n, lf_s, q5]
-- SEARCH, the model's side
theorem seStep {N b nr k : Nat} {L : Int32} {y : Hp} (hS : Sh y) (hr : nr < 200) (hk : k < 6) : fX12_search_77 N 17 (nI b) (nI (6 * nr)) L (nI k) y = some (.inl (nI (k + 1), zsA y 34 (6 * nr + k) 0)) := by
  have c : ¬ (6 : Int32) ≤ nI k := by rw [show (6 : Int32) = nI 6 from rfl]; exact nI_ge hk (by decide)
  simp only [fX12_search_77, br_n c, gdT, brTr, brFa, br_00, br_10, bd_e, bo_s, bp_s, cs_s, cs_n, lf_s, o17 hS, g728 hS, o34 hS, l34 hS, nI_add, inb (show 6 * nr + k < 1200 by omega) (by decide), nI_clamp (show 6 * nr + k < 2 ^ 31 by omega), nI_1]
theorem seLoop {N b nr : Nat} {L : Int32} {y : Hp} {r : Int32 × Hp} (hN : 6000 ≤ N) (hS : Sh y) (hr : nr < 200) (ht : fX12_search_77 N 17 (nI b) (nI (6 * nr)) L (nI 6) (zsA (zsA (zsA (zsA (zsA y 34 (6 * nr + 1) 0) 34 (6 * nr + 2) 0) 34 (6 * nr + 3) 0) 34 (6 * nr + 4) 0) 34 (6 * nr + 5) 0) = some (.inr r)) : wh (fun (u : Int32 × Hp) => fX12_search_77 N 17 (nI b) (nI (6 * nr)) L u.1 u.2) N ((1 : Int32), y) = some r := by
  have st : ∀ k y', Sh y' → k < 6 → (fun (u : Int32 × Hp) => fX12_search_77 N 17 (nI b) (nI (6 * nr)) L u.1 u.2) (nI k, y') = some (.inl (nI (k + 1), zsA y' 34 (6 * nr + k) 0)) := fun k y' h1 h2 => seStep h1 hr h2
  have ht' : (fun (u : Int32 × Hp) => fX12_search_77 N 17 (nI b) (nI (6 * nr)) L u.1 u.2) (nI 6, zsA (zsA (zsA (zsA (zsA y 34 (6 * nr + 1) 0) 34 (6 * nr + 2) 0) 34 (6 * nr + 3) 0) 34 (6 * nr + 4) 0) 34 (6 * nr + 5) 0) = some (.inr r) := ht
  generalize (fun (u : Int32 × Hp) => fX12_search_77 N 17 (nI b) (nI (6 * nr)) L u.1 u.2) = F at *
  clear ht
  obtain ⟨M, rfl⟩ : ∃ M, N = M + 1 + 1 + 1 + 1 + 1 + 1 := ⟨N - 6, by omega⟩
  show wh F (M + 1 + 1 + 1 + 1 + 1 + 1) (nI 1, y) = some r
  rw [wh_in (st 1 y hS (by decide)), wh_in (st 2 _ hS.sA (by decide)), wh_in (st 3 _ hS.sA.sA (by decide)), wh_in (st 4 _ hS.sA.sA.sA (by decide)), wh_in (st 5 _ hS.sA.sA.sA.sA (by decide))]
  exact wh_out ht'
theorem searchM_e {N : Nat} {x x1 : Hp} {nb nr nx b : Nat} {L : Int32} {r : Int32 × Hp} (hN : 6000 ≤ N) (hS : Sh x) (n6 : zF x 706 17 = nI nb) (n8 : nb ≤ 8) (n9 : zF x 711 17 = nI nr) (hr : nr < 200) (k1 : fX12_drawTurns N 17 x = some x1) (hS1 : Sh x1) (k3 : zF x1 741 17 = nI (nb - nx)) (k4 : zF x1 742 17 = nI nb) (hx : nx < nb) (k7 : zA x1 45 nx = nI b) (hb : b < nb) (q711 : zF x1 711 17 = nI nr) (eL : zA x1 38 b = L) (ht : fX12_search_77 N 17 (nI b) (nI (6 * nr)) L (nI 6) (seX x1 nr nb nx L) = some (.inr r)) : fX12_search N 17 x = some r := by
  have c0 : ¬ nI nb = 0 := nI_ne0 (by omega) (by omega)
  have c2 : ¬ nI nr = 200 := by rw [show (200 : Int32) = nI 200 from rfl, nI_eq (by omega) (by decide)]; omega
  have ev : nI nb - nI (nb - nx) = nI nx := by rw [pk_sub (by omega)]; exact congrArg nI (by omega)
  have ed : nI (nb - nx) - 1 = nI (nb - nx - 1) := by rw [show (1 : Int32) = nI 1 from rfl, pk_sub (by omega)]
  have e6 : (6 : Int32) * nI nr = nI (6 * nr) := by rw [show (6 : Int32) = nI 6 from rfl, pk_mul]
  have hl := seLoop (y := zsA (zsF x1 741 17 (nI (nb - nx - 1))) 34 (6 * nr) L) hN hS1.sF.sA hr ht
  simp only [fX12_search, gdT, brTr, brFa, br_00, br_10, bd_e, bo_s, bp_s, cs_s, cs_n, lf_s, o17 hS, n6, br_n c0, n9, br_n c2, k1, eF_zn, eF_zK, eF_zL, eF_s, eF_n, eF_zG, eF_zA, eF_zJ, eF_zR, eG_zn, eG_zK, eG_zL, eG_zF, eG_s, eG_n, eG_zA, eG_zJ, eG_zR, eA_zn, eA_zK, eA_zL, eA_zF, eA_zG, eA_s, eA_n, eA_zJ, eA_zR, eJ_zn, eJ_zK, eJ_zL, eJ_zF, eJ_zG, eJ_zA, eJ_s, eJ_n, eJ_zR, eR_zn, eR_zK, eR_zL, eR_zF, eR_zG, eR_zA, eR_zJ, eR_s, eR_n, ne_eq, not_false_eq_true, not_true_eq_false, reduceCtorEq, Nat.reduceEqDiff, o17 hS1, g740 hS1, o45 hS1, l45 hS1, g732 hS1, o38 hS1, l38 hS1, g728 hS1, o34 hS1, l34 hS1, k3, k4, ev, k7, ed, q711, e6, eL, inb (show nx < 8 by omega) (by decide), nI_clamp (show nx < 2 ^ 31 by omega), inb (show b < 8 by omega) (by decide), nI_clamp (show b < 2 ^ 31 by omega), inb (show 6 * nr < 1200 by omega) (by decide), nI_clamp (show 6 * nr < 2 ^ 31 by omega), hl]
theorem seT_none {N b nr w h : Nat} {y : Hp} (hS : Sh y) (hr : nr < 200) (e711 : zF y 711 17 = nI nr) (e704 : zF y 704 17 = nI w) (e705 : zF y 705 17 = nI h) : fX12_search_77 N 17 (nI b) (nI (6 * nr)) (-6) (nI 6) y = some (.inr (nI nr, enterM y nr w h b 3)) := by
  have hE := enterM_e (N := N) (s := 3) (b := b) hS e711 hr e704 e705
  simp only [fX12_search_77, fX12_search_341, br_y (show (6 : Int32) ≤ nI 6 by decide), br_y (show (-6 : Int32) < 0 by decide), gdT, brTr, brFa, br_00, br_10, bd_e, bo_s, bp_s, cs_s, cs_n, lf_s, o17 hS, hE]
theorem se268 {N b nb nr w h : Nat} {y : Hp} {fi tm : Int32} (hS : Sh y) (hr : nr < 200) (hb : b < nb) (n8 : nb ≤ 8) (e711 : zF y 711 17 = nI nr) (e704 : zF y 704 17 = nI w) (e705 : zF y 705 17 = nI h) (e745 : zF y 745 17 = fi) : fX12_search_268 N 17 (nI b) (nI (6 * nr)) tm y = some (nI nr, enterM (zsA (zsA (zsA (zsA y 34 (6 * nr + 4) 1) 34 (6 * nr + 5) (fi * tm)) 36 b (zA y 36 b + fi * tm)) 37 b (if zA y 35 b < 4 then zA y 37 b else nI w + 2)) nr w h b 3) := by
  have p4 : nI (6 * nr) + 4 = nI (6 * nr + 4) := nI_add _ 4
  have p5 : nI (6 * nr) + 5 = nI (6 * nr + 5) := nI_add _ 5
  have hE := fun v => enterM_e (N := N) (s := 3) (b := b) (nr := nr) (w := w) (h := h) (y := zsA (zsA (zsA (zsA y 34 (6 * nr + 4) 1) 34 (6 * nr + 5) (fi * tm)) 36 b (zA y 36 b + fi * tm)) 37 b v) hS.sA.sA.sA.sA e711 hr e704 e705
  simp only [fX12_search_268, fX12_search_340, fX12_search_341, gdT, brTr, brFa, br_00, br_10, bd_e, bo_s, bp_s, cs_s, cs_n, lf_s, eF_zn, eF_zK, eF_zL, eF_s, eF_n, eF_zG, eF_zA, eF_zJ, eF_zR, eG_zn, eG_zK, eG_zL, eG_zF, eG_s, eG_n, eG_zA, eG_zJ, eG_zR, eA_zn, eA_zK, eA_zL, eA_zF, eA_zG, eA_s, eA_n, eA_zJ, eA_zR, eJ_zn, eJ_zK, eJ_zL, eJ_zF, eJ_zG, eJ_zA, eJ_s, eJ_n, eJ_zR, eR_zn, eR_zK, eR_zL, eR_zF, eR_zG, eR_zA, eR_zJ, eR_s, eR_n, ne_eq, not_false_eq_true, not_true_eq_false, reduceCtorEq, Nat.reduceEqDiff, o17 hS, g728 hS, o34 hS, l34 hS, g730 hS, o36 hS, l36 hS, g731 hS, o37 hS, l37 hS, g729 hS, o35 hS, l35 hS, p4, p5, inb (show 6 * nr + 4 < 1200 by omega) (by decide), nI_clamp (show 6 * nr + 4 < 2 ^ 31 by omega), inb (show 6 * nr + 5 < 1200 by omega) (by decide), nI_clamp (show 6 * nr + 5 < 2 ^ 31 by omega), inb (show b < 8 by omega) (by decide), nI_clamp (show b < 2 ^ 31 by omega), e745, e704]
  by_cases c : zA y 35 b < 4
  · simp only [br_y c, if_pos c, hE, bp_s]
  · simp only [br_n c, if_neg c, hE, bp_s]
theorem se194n {N b nr w h D al A W K : Nat} {y : Hp} (hS : Sh y) (hr : nr < 200) (e711 : zF y 711 17 = nI nr) (e704 : zF y 704 17 = nI w) (e705 : zF y 705 17 = nI h) (hD : D ≤ 3000) (hal : al ≤ 5) (hA : A ≤ 33600) (hW : W ≤ 3000) (eK : lsN D al A = K) (hns : ¬ W < K) : fX12_search_194 N 17 (nI b) (nI (6 * nr)) (nI A) (nI W) (nI al) (nI D) y = some (nI nr, enterM (zsA (zsA (zsA y 34 (6 * nr + 1) (nI A)) 34 (6 * nr + 2) (nI W)) 34 (6 * nr + 3) (nI K)) nr w h b 3) := by
  have p2 : nI (6 * nr) + 2 = nI (6 * nr + 2) := nI_add _ 2
  have p3 : nI (6 * nr) + 3 = nI (6 * nr + 3) := nI_add _ 3
  have b2 := lsN_le (v := D) (th := al) (age := A)
  rw [eK] at b2
  have ll : ∀ z, fX12_lessBy N (nI D) (nI al) (nI A) z = some (nI K) := fun z => by rw [← eK]; exact lessBy_e hD hal hA
  have c : nI K ≤ nI W := nI_le (by omega) (by omega)
  have hE := enterM_e (N := N) (s := 3) (b := b) (nr := nr) (w := w) (h := h) (y := zsA (zsA (zsA y 34 (6 * nr + 1) (nI A)) 34 (6 * nr + 2) (nI W)) 34 (6 * nr + 3) (nI K)) hS.sA.sA.sA e711 hr e704 e705
  simp only [fX12_search_194, fX12_search_341, ll, gdT, brTr, brFa, br_00, br_10, bd_e, bo_s, bp_s, cs_s, cs_n, lf_s, eF_zn, eF_zK, eF_zL, eF_s, eF_n, eF_zG, eF_zA, eF_zJ, eF_zR, eG_zn, eG_zK, eG_zL, eG_zF, eG_s, eG_n, eG_zA, eG_zJ, eG_zR, eA_zn, eA_zK, eA_zL, eA_zF, eA_zG, eA_s, eA_n, eA_zJ, eA_zR, eJ_zn, eJ_zK, eJ_zL, eJ_zF, eJ_zG, eJ_zA, eJ_s, eJ_n, eJ_zR, eR_zn, eR_zK, eR_zL, eR_zF, eR_zG, eR_zA, eR_zJ, eR_s, eR_n, ne_eq, not_false_eq_true, not_true_eq_false, reduceCtorEq, Nat.reduceEqDiff, o17 hS, g728 hS, o34 hS, l34 hS, nI_1, p2, p3, inb (show 6 * nr + 1 < 1200 by omega) (by decide), nI_clamp (show 6 * nr + 1 < 2 ^ 31 by omega), inb (show 6 * nr + 2 < 1200 by omega) (by decide), nI_clamp (show 6 * nr + 2 < 2 ^ 31 by omega), inb (show 6 * nr + 3 < 1200 by omega) (by decide), nI_clamp (show 6 * nr + 3 < 2 ^ 31 by omega), br_y c, hE]
theorem se194s {N b nb nr w h D al A W K : Nat} {y : Hp} {fi s tm : Int32} (hS : Sh y) (hr : nr < 200) (hb : b < nb) (n8 : nb ≤ 8) (e711 : zF y 711 17 = nI nr) (e704 : zF y 704 17 = nI w) (e705 : zF y 705 17 = nI h) (e745 : zF y 745 17 = fi) (hD : D ≤ 3000) (hal : al ≤ 5) (hA : A ≤ 33600) (hW : W ≤ 3000) (eK : lsN D al A = K) (hns : W < K) (es : zA y 35 b + 1 = s) (etm : (if (4 : Int32) < s then (4 : Int32) else s) = tm) : fX12_search_194 N 17 (nI b) (nI (6 * nr)) (nI A) (nI W) (nI al) (nI D) y = some (nI nr, enterM (zsA (zsA (zsA (zsA (zsA (zsA (zsA (zsA y 34 (6 * nr + 1) (nI A)) 34 (6 * nr + 2) (nI W)) 34 (6 * nr + 3) (nI K)) 35 b s) 34 (6 * nr + 4) 1) 34 (6 * nr + 5) (fi * tm)) 36 b (zA y 36 b + fi * tm)) 37 b (if s < 4 then zA y 37 b else nI w + 2)) nr w h b 3) := by
  have p2 : nI (6 * nr) + 2 = nI (6 * nr + 2) := nI_add _ 2
  have p3 : nI (6 * nr) + 3 = nI (6 * nr + 3) := nI_add _ 3
  have b2 := lsN_le (v := D) (th := al) (age := A)
  rw [eK] at b2
  have ll : ∀ z, fX12_lessBy N (nI D) (nI al) (nI A) z = some (nI K) := fun z => by rw [← eK]; exact lessBy_e hD hal hA
  have c : ¬ nI K ≤ nI W := nI_ge hns (by omega)
  have hE := se268 (N := N) (b := b) (nb := nb) (nr := nr) (w := w) (h := h) (y := zsA (zsA (zsA (zsA y 34 (6 * nr + 1) (nI A)) 34 (6 * nr + 2) (nI W)) 34 (6 * nr + 3) (nI K)) 35 b s) (fi := fi) (tm := tm) hS.sA.sA.sA.sA hr hb n8 e711 e704 e705 e745
  simp only [eF_zn, eF_zK, eF_zL, eF_s, eF_n, eF_zG, eF_zA, eF_zJ, eF_zR, eG_zn, eG_zK, eG_zL, eG_zF, eG_s, eG_n, eG_zA, eG_zJ, eG_zR, eA_zn, eA_zK, eA_zL, eA_zF, eA_zG, eA_s, eA_n, eA_zJ, eA_zR, eJ_zn, eJ_zK, eJ_zL, eJ_zF, eJ_zG, eJ_zA, eJ_s, eJ_n, eJ_zR, eR_zn, eR_zK, eR_zL, eR_zF, eR_zG, eR_zA, eR_zJ, eR_s, eR_n, ne_eq, not_false_eq_true, not_true_eq_false, reduceCtorEq, Nat.reduceEqDiff, va_up_self] at hE
  simp only [fX12_search_194, ll, gdT, brTr, brFa, br_00, br_10, bd_e, bo_s, bp_s, cs_s, cs_n, lf_s, eF_zn, eF_zK, eF_zL, eF_s, eF_n, eF_zG, eF_zA, eF_zJ, eF_zR, eG_zn, eG_zK, eG_zL, eG_zF, eG_s, eG_n, eG_zA, eG_zJ, eG_zR, eA_zn, eA_zK, eA_zL, eA_zF, eA_zG, eA_s, eA_n, eA_zJ, eA_zR, eJ_zn, eJ_zK, eJ_zL, eJ_zF, eJ_zG, eJ_zA, eJ_s, eJ_n, eJ_zR, eR_zn, eR_zK, eR_zL, eR_zF, eR_zG, eR_zA, eR_zJ, eR_s, eR_n, ne_eq, not_false_eq_true, not_true_eq_false, reduceCtorEq, Nat.reduceEqDiff, o17 hS, g728 hS, o34 hS, l34 hS, g729 hS, o35 hS, l35 hS, nI_1, p2, p3, inb (show 6 * nr + 1 < 1200 by omega) (by decide), nI_clamp (show 6 * nr + 1 < 2 ^ 31 by omega), inb (show 6 * nr + 2 < 1200 by omega) (by decide), nI_clamp (show 6 * nr + 2 < 2 ^ 31 by omega), inb (show 6 * nr + 3 < 1200 by omega) (by decide), nI_clamp (show 6 * nr + 3 < 2 ^ 31 by omega), inb (show b < 8 by omega) (by decide), nI_clamp (show b < 2 ^ 31 by omega), br_n c, es, va_up_self]
  by_cases c4 : s ≤ 4
  · have e : s = tm := by rw [← etm, if_neg (Int32.not_lt.mpr c4)]
    simp only [br_y c4]
    rw [← hE, e]
  · have e : (4 : Int32) = tm := by rw [← etm, if_pos (Int32.not_le.mp c4)]
    simp only [br_n c4]
    rw [← hE, ← e]
theorem seT_some {N b nr w h nt r wi hi q k dr al D A W : Nat} {y : Hp} {R : Int32 × Hp} (hN : 6000 ≤ N) (hS : Sh y) (hr : nr < 200) (hw : w < 200) (hh : h < 168) (e711 : zF y 711 17 = nI nr) (e704 : zF y 704 17 = nI w) (e705 : zF y 705 17 = nI h) (e739 : zF y 739 17 = nI nt) (e744 : zF y 744 17 = nI dr) (hdr : dr ≤ 5) (hnt : nt ≤ 6) (htx : I_tx y nt) (hrr : r < nr) (e19 : zA y 19 r = nI wi) (e20 : zA y 20 r = nI hi) (hwi : wi < 200) (hhi : hi < 168) (hle : 168 * wi + hi ≤ 168 * w + h) (e29 : zA y 29 r = nI q) (hq : q ≤ 2000) (e27 : zA y 27 r = nI k) (hk : k < 3) (eal : alT y nt (nI wi) = nI al) (eD : dueT y nr nt k wi (nI wi) = nI D) (eA : 168 * w + h - (168 * wi + hi) = A) (eW : lsN q dr A = W) (hR : fX12_search_194 N 17 (nI b) (nI (6 * nr)) (nI A) (nI W) (nI al) (nI D) y = some R) : fX12_search_77 N 17 (nI b) (nI (6 * nr)) (nI r) (nI 6) y = some (.inr R) := by
  have hage : (168 : Int32) * (nI w - nI wi) + nI h - nI hi = nI A := by
    rw [show (168 : Int32) = nI 168 from rfl, pk_sub (show wi ≤ w by omega), pk_mul, nI_add, pk_sub (by omega)]
    exact congrArg nI (by omega)
  have hd := dueIn_e (N := N) (nr := nr) (k := k) (K := wi) (w := nI wi) hN hS hnt htx e739 e711 (by omega) hk (by omega) rfl
  rw [eD] at hd
  have l1 : fX12_lessBy N (nI q) (nI dr) (nI A) y = some (nI W) := by rw [← eW]; exact lessBy_e (by omega) hdr (by omega)
  simp only [fX12_search_77, br_y (show (6 : Int32) ≤ nI 6 by decide), br_n (show ¬ nI r < 0 from nI_pos (by omega)), gdT, brTr, brFa, br_00, br_10, bd_e, bo_s, bp_s, cs_s, cs_n, lf_s, o17 hS, g708 hS, o19 hS, l19 hS, g709 hS, o20 hS, l20 hS, g722 hS, o29 hS, l29 hS, g720 hS, o27 hS, l27 hS, inb (show r < 200 by omega) (by decide), nI_clamp (show r < 2 ^ 31 by omega), e19, e20, e704, e705, hage, textIn_e hN hS e739 hnt, e29, e744, l1, e27, hd]
  unfold alT at eal
  cases hb : txB (zA y 39) (nI wi) nt with
  | none =>
    rw [hb] at eal
    simp only [encT] at eal
    rw [← eal] at hR
    simp only [encT, br_n (show ¬ (0 : Int32) ≤ -6 by decide), hR, lf_s]
  | some j =>
    have hj := txB_lt hb
    rw [hb] at eal
    simp only [encT] at eal
    rw [← eal] at hR
    simp only [encT, br_y (nI_pos' (show j < 2 ^ 31 by omega)), gdT, brTr, brFa, br_00, br_10, bd_e, bo_s, bp_s, cs_s, cs_n, lf_s, g735 hS, o41 hS, l41 hS, inb (show j < 6 by omega) (by decide), nI_clamp (show j < 2 ^ 31 by omega), hR]
