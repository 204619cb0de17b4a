-- A RECORD MORE: what holds of the rows behind it
theorem eAi {y : Hp} {f c g i : Nat} {v : Int32} (h : i ≠ c) : zA (zsA y f c v) g i = zA y g i := by
  by_cases e : g = f
  · subst e; rw [eA_s, va_up_ne _ _ h]
  · rw [eA_n _ _ _ _ e]
def enterM (y : Hp) (nr w h b : Nat) (s : Int32) : Hp := zsF (zsA (zsA (zsA (zsA y 18 nr s) 19 nr (nI w)) 20 nr (nI h)) 21 nr (nI b)) 711 17 (nI (nr + 1))
def entZ (y : Hp) (n0 nr t b : Nat) (s : Int32) : Hp := zsF (zsF (zsF (zsF y 768 n0 s) 769 n0 (nI nr)) 770 n0 (nI t)) 771 n0 (nI b)
def enterC (y : Hp) (n0 nr : Nat) : Hp := zsF (zsR y 2 nr (some n0)) 132 1 (nI (nr + 1))
theorem enterM_e {N nr w h b : Nat} {s : Int32} {y : Hp} (hS : Sh y) (e1 : zF y 711 17 = nI nr) (hr : nr < 200) (e2 : zF y 704 17 = nI w) (e3 : zF y 705 17 = nI h) : fX12_enter N 17 s (nI b) y = some (nI nr, enterM y nr w h b s) := by
  simp only [fX12_enter, gdT, brTr, brFa, br_00, br_10, bd_e, bo_s, bp_s, cs_s, cs_n, lf_s, eF_zn, eF_zK, eF_zL, eF_s, eF_n, eF_zG, eF_zA, eF_zJ, eF_zR, eG_zn, eG_zK, eG_zL, eG_zF, eG_s, eG_n, eG_zA, eG_zJ, eG_zR, eA_zn, eA_zK, eA_zL, eA_zF, eA_zG, eA_s, eA_n, eA_zJ, eA_zR, eJ_zn, eJ_zK, eJ_zL, eJ_zF, eJ_zG, eJ_zA, eJ_s, eJ_n, eJ_zR, eR_zn, eR_zK, eR_zL, eR_zF, eR_zG, eR_zA, eR_zJ, eR_s, eR_n, ne_eq, not_false_eq_true, not_true_eq_false, reduceCtorEq, Nat.reduceEqDiff, o0 hS, o1 hS, o2 hS, o3 hS, o4 hS, o5 hS, o6 hS, o7 hS, o8 hS, o9 hS, o10 hS, o11 hS, o12 hS, o13 hS, o14 hS, o15 hS, o16 hS, o17 hS, o18 hS, o19 hS, o20 hS, o21 hS, o22 hS, o23 hS, o24 hS, o25 hS, o26 hS, o27 hS, o28 hS, o29 hS, o30 hS, o31 hS, o32 hS, o33 hS, o34 hS, o35 hS, o36 hS, o37 hS, o38 hS, o39 hS, o40 hS, o41 hS, o42 hS, o43 hS, o44 hS, o45 hS, o46 hS, o47 hS, l2 hS, l3 hS, l4 hS, l5 hS, l7 hS, l8 hS, l10 hS, l12 hS, l14 hS, l15 hS, l16 hS, l18 hS, l19 hS, l20 hS, l21 hS, l22 hS, l23 hS, l24 hS, l25 hS, l26 hS, l27 hS, l28 hS, l29 hS, l30 hS, l31 hS, l32 hS, l33 hS, l34 hS, l35 hS, l36 hS, l37 hS, l38 hS, l39 hS, l40 hS, l41 hS, l42 hS, l43 hS, l44 hS, l45 hS, l46 hS, l47 hS, g640 hS, g641 hS, g642 hS, g643 hS, g644 hS, g645 hS, g128 hS, g129 hS, g130 hS, g131 hS, g384 hS, g385 hS, g256 hS, g576 hS, g192 hS, g193 hS, g707 hS, g708 hS, g709 hS, g710 hS, g712 hS, g713 hS, g714 hS, g715 hS, g716 hS, g720 hS, g721 hS, g722 hS, g723 hS, g724 hS, g725 hS, g726 hS, g728 hS, g729 hS, g730 hS, g731 hS, g732 hS, g733 hS, g734 hS, g735 hS, g736 hS, g737 hS, g738 hS, g740 hS, g751 hS, g752 hS, e1, e2, e3, inb hr (by decide), nI_clamp (show nr < 2 ^ 31 by omega), va_up_self, nI_1, nI_pred, enterM]
theorem entZ_e {N n0 nr t b : Nat} {s : Int32} {y : Hp} (g : (n0 < zn y ∧ (zK y n0 = 1 ∨ zK y n0 = 5 ∨ zK y n0 = 7)) = True) : fX3_init N n0 s (nI nr) (nI t) (nI b) y = some (entZ y n0 nr t b s) := by
  simp only [fX3_init, gdT, brTr, brFa, br_00, br_10, bd_e, bo_s, bp_s, cs_s, cs_n, lf_s, g, entZ]
theorem isFull_0 {N nr : Nat} {y : Hp} (hS : Sh y) (e1 : zF y 132 1 = nI nr) (hr : nr < 200) : fX2_isFull N 1 y = some 0 := by
  have c : nI nr < 200 := by rw [show (200 : Int32) = nI 200 from rfl]; exact nI_lt hr (by decide)
  simp only [fX2_isFull, gdT, brTr, brFa, br_00, br_10, bd_e, bo_s, bp_s, cs_s, cs_n, lf_s, o0 hS, o1 hS, o2 hS, o3 hS, o4 hS, o5 hS, o6 hS, o7 hS, o8 hS, o9 hS, o10 hS, o11 hS, o12 hS, o13 hS, o14 hS, o15 hS, o16 hS, o17 hS, o18 hS, o19 hS, o20 hS, o21 hS, o22 hS, o23 hS, o24 hS, o25 hS, o26 hS, o27 hS, o28 hS, o29 hS, o30 hS, o31 hS, o32 hS, o33 hS, o34 hS, o35 hS, o36 hS, o37 hS, o38 hS, o39 hS, o40 hS, o41 hS, o42 hS, o43 hS, o44 hS, o45 hS, o46 hS, o47 hS, l2 hS, l3 hS, l4 hS, l5 hS, l7 hS, l8 hS, l10 hS, l12 hS, l14 hS, l15 hS, l16 hS, l18 hS, l19 hS, l20 hS, l21 hS, l22 hS, l23 hS, l24 hS, l25 hS, l26 hS, l27 hS, l28 hS, l29 hS, l30 hS, l31 hS, l32 hS, l33 hS, l34 hS, l35 hS, l36 hS, l37 hS, l38 hS, l39 hS, l40 hS, l41 hS, l42 hS, l43 hS, l44 hS, l45 hS, l46 hS, l47 hS, g640 hS, g641 hS, g642 hS, g643 hS, g644 hS, g645 hS, g128 hS, g129 hS, g130 hS, g131 hS, g384 hS, g385 hS, g256 hS, g576 hS, g192 hS, g193 hS, g707 hS, g708 hS, g709 hS, g710 hS, g712 hS, g713 hS, g714 hS, g715 hS, g716 hS, g720 hS, g721 hS, g722 hS, g723 hS, g724 hS, g725 hS, g726 hS, g728 hS, g729 hS, g730 hS, g731 hS, g732 hS, g733 hS, g734 hS, g735 hS, g736 hS, g737 hS, g738 hS, g740 hS, g751 hS, g752 hS, e1, br_y c]
theorem isFull_1 {N nr : Nat} {y : Hp} (hS : Sh y) (e1 : zF y 132 1 = nI nr) (hr : nr = 200) : fX2_isFull N 1 y = some 1 := by
  have c : ¬ nI nr < 200 := by rw [hr]; decide
  simp only [fX2_isFull, gdT, brTr, brFa, br_00, br_10, bd_e, bo_s, bp_s, cs_s, cs_n, lf_s, o0 hS, o1 hS, o2 hS, o3 hS, o4 hS, o5 hS, o6 hS, o7 hS, o8 hS, o9 hS, o10 hS, o11 hS, o12 hS, o13 hS, o14 hS, o15 hS, o16 hS, o17 hS, o18 hS, o19 hS, o20 hS, o21 hS, o22 hS, o23 hS, o24 hS, o25 hS, o26 hS, o27 hS, o28 hS, o29 hS, o30 hS, o31 hS, o32 hS, o33 hS, o34 hS, o35 hS, o36 hS, o37 hS, o38 hS, o39 hS, o40 hS, o41 hS, o42 hS, o43 hS, o44 hS, o45 hS, o46 hS, o47 hS, l2 hS, l3 hS, l4 hS, l5 hS, l7 hS, l8 hS, l10 hS, l12 hS, l14 hS, l15 hS, l16 hS, l18 hS, l19 hS, l20 hS, l21 hS, l22 hS, l23 hS, l24 hS, l25 hS, l26 hS, l27 hS, l28 hS, l29 hS, l30 hS, l31 hS, l32 hS, l33 hS, l34 hS, l35 hS, l36 hS, l37 hS, l38 hS, l39 hS, l40 hS, l41 hS, l42 hS, l43 hS, l44 hS, l45 hS, l46 hS, l47 hS, g640 hS, g641 hS, g642 hS, g643 hS, g644 hS, g645 hS, g128 hS, g129 hS, g130 hS, g131 hS, g384 hS, g385 hS, g256 hS, g576 hS, g192 hS, g193 hS, g707 hS, g708 hS, g709 hS, g710 hS, g712 hS, g713 hS, g714 hS, g715 hS, g716 hS, g720 hS, g721 hS, g722 hS, g723 hS, g724 hS, g725 hS, g726 hS, g728 hS, g729 hS, g730 hS, g731 hS, g732 hS, g733 hS, g734 hS, g735 hS, g736 hS, g737 hS, g738 hS, g740 hS, g751 hS, g752 hS, e1, br_n c]
theorem enterC_e {N n0 nr : Nat} {y : Hp} (hS : Sh y) (e1 : zF y 132 1 = nI nr) (hr : nr < 200) (g : (n0 < zn y ∧ (zK y n0 = 1 ∨ zK y n0 = 5 ∨ zK y n0 = 7)) = True) : fX2_enter N 1 n0 y = some (enterC y n0 nr) := by
  simp only [fX2_enter, fX2_enter_27, isFull_0 hS e1 hr, gdT, brTr, brFa, br_00, br_10, bd_e, bo_s, bp_s, cs_s, cs_n, lf_s, eF_zn, eF_zK, eF_zL, eF_s, eF_n, eF_zG, eF_zA, eF_zJ, eF_zR, eG_zn, eG_zK, eG_zL, eG_zF, eG_s, eG_n, eG_zA, eG_zJ, eG_zR, eA_zn, eA_zK, eA_zL, eA_zF, eA_zG, eA_s, eA_n, eA_zJ, eA_zR, eJ_zn, eJ_zK, eJ_zL, eJ_zF, eJ_zG, eJ_zA, eJ_s, eJ_n, eJ_zR, eR_zn, eR_zK, eR_zL, eR_zF, eR_zG, eR_zA, eR_zJ, eR_s, eR_n, ne_eq, not_false_eq_true, not_true_eq_false, reduceCtorEq, Nat.reduceEqDiff, o0 hS, o1 hS, o2 hS, o3 hS, o4 hS, o5 hS, o6 hS, o7 hS, o8 hS, o9 hS, o10 hS, o11 hS, o12 hS, o13 hS, o14 hS, o15 hS, o16 hS, o17 hS, o18 hS, o19 hS, o20 hS, o21 hS, o22 hS, o23 hS, o24 hS, o25 hS, o26 hS, o27 hS, o28 hS, o29 hS, o30 hS, o31 hS, o32 hS, o33 hS, o34 hS, o35 hS, o36 hS, o37 hS, o38 hS, o39 hS, o40 hS, o41 hS, o42 hS, o43 hS, o44 hS, o45 hS, o46 hS, o47 hS, l2 hS, l3 hS, l4 hS, l5 hS, l7 hS, l8 hS, l10 hS, l12 hS, l14 hS, l15 hS, l16 hS, l18 hS, l19 hS, l20 hS, l21 hS, l22 hS, l23 hS, l24 hS, l25 hS, l26 hS, l27 hS, l28 hS, l29 hS, l30 hS, l31 hS, l32 hS, l33 hS, l34 hS, l35 hS, l36 hS, l37 hS, l38 hS, l39 hS, l40 hS, l41 hS, l42 hS, l43 hS, l44 hS, l45 hS, l46 hS, l47 hS, g640 hS, g641 hS, g642 hS, g643 hS, g644 hS, g645 hS, g128 hS, g129 hS, g130 hS, g131 hS, g384 hS, g385 hS, g256 hS, g576 hS, g192 hS, g193 hS, g707 hS, g708 hS, g709 hS, g710 hS, g712 hS, g713 hS, g714 hS, g715 hS, g716 hS, g720 hS, g721 hS, g722 hS, g723 hS, g724 hS, g725 hS, g726 hS, g728 hS, g729 hS, g730 hS, g731 hS, g732 hS, g733 hS, g734 hS, g735 hS, g736 hS, g737 hS, g738 hS, g740 hS, g751 hS, g752 hS, e1, g, inb hr (by decide), nI_clamp (show nr < 2 ^ 31 by omega), nI_1, enterC]
theorem I_rec.app {z z' : Hp} {t nb nr gv gv' n0 : Nat} (h : I_rec z t nb nr gv) (hn : zn z ≤ zn z') (hsm : ∀ i a, i < nr → zR z 2 i = some a → Sm z z' a) (hR2 : zR z' 2 = va_up (zR z 2) nr (some n0)) (hA : ∀ i, i < nr → ∀ b, b ∈ [18, 19, 20, 21, 22, 23, 24, 25, 27, 28, 29, 30, 31] → zA z' b i = zA z b i) (h34 : ∀ i, i < nr → ∀ k, k < 6 → zA z' 34 (6 * i + k) = zA z 34 (6 * i + k)) (hg : gv ≤ gv') (hnew : recOf z' t nb gv' nr n0) (hlt : ∀ i a, i < nr → zR z 2 i = some a → a < n0) (hz : ∀ i, nr + 1 ≤ i → zA z' 24 i = zA z 24 i ∧ zA z' 25 i = zA z 25 i) : I_rec z' t nb (nr + 1) gv' := by
  obtain ⟨h1, h2, h3⟩ := h
  refine ⟨fun i hi => ?_, fun i j a b hij hj ha hb => ?_, fun i hi => ?_⟩
  · rw [hR2]
    rcases Nat.lt_or_ge i nr with hi2 | hi2
    · obtain ⟨a, e, q⟩ := h1 i hi2
      exact ⟨a, by rw [up_old hi2]; exact e, q.cg hn (hsm i a hi2 e) (hA i hi2) (h34 i hi2) (Nat.le_refl _) (Nat.le_refl _) hg⟩
    · have ei : i = nr := by omega
      subst ei
      exact ⟨n0, va_up_self _ _ _, hnew⟩
  · rw [hR2] at ha hb
    rcases Nat.lt_or_ge j nr with hj2 | hj2
    · rw [up_old (show i < nr by omega)] at ha
      rw [up_old hj2] at hb
      exact h2 i j a b hij hj2 ha hb
    · have ej : j = nr := by omega
      subst ej
      rw [va_up_self] at hb
      rw [up_old hij] at ha
      cases hb
      exact hlt i a hij ha
  · obtain ⟨p1, p2⟩ := hz i hi
    rw [p1, p2]
    exact h3 i (by omega)
theorem cnt_app {A A' B B' : Nat → Int32} {nr : Nat} {s x c b : Int32} (hA : A' = va_up A nr x) (hB : B' = va_up B nr b) : cntR A' B' s c (nr + 1) = cntR A B s c nr + (if x = s ∧ b = c then 1 else 0) := by
  subst hA; subst hB
  simp only [cntR, va_up_self, cntR_congr (A := va_up A nr x) (A' := A) (B := va_up B nr b) (B' := B) (n := nr) (fun k hk => ⟨up_old hk, up_old hk⟩)]
theorem fl_app {A A' B B' C C' : Nat → Int32} {nr : Nat} {x c b : Int32} (hA : A' = va_up A nr x) (hB : B' = va_up B nr b) (hC : ∀ k, k < nr → C' k = C k) (h0 : x = 1 → C' nr = 0) : flS A' B' C' c (nr + 1) = flS A B C c nr := by
  subst hA; subst hB
  simp only [flS, va_up_self, flS_congr (A := va_up A nr x) (A' := A) (B := va_up B nr b) (B' := B) (C := C') (C' := C) (n := nr) (fun k hk => ⟨up_old hk, up_old hk, hC k hk⟩)]
  by_cases e : x = 1 ∧ b = c
  · rw [if_pos e, h0 e.1, Int32.add_zero]
  · rw [if_neg e, Int32.add_zero]
theorem bakOf.app {z z' : Hp} {nr j a n0 : Nat} {s b : Int32} (h : bakOf z nr j a) (hn : zn z ≤ zn z') (hK : zK z' a = zK z a) (h18 : zA z' 18 = va_up (zA z 18) nr s) (h21 : zA z' 21 = va_up (zA z 21) nr b) (hf0 : zF z' 0 a = flS (zA z' 18) (zA z' 21) (zA z' 25) (nI j) (nr + 1)) (h1 : zF z' 1 a = zF z 1 a + (if s = 1 ∧ b = nI j then 1 else 0)) (h2 : zF z' 2 a = zF z 2 a + (if s = 2 ∧ b = nI j then 1 else 0)) (h3 : zF z' 3 a = zF z 3 a + (if s = 3 ∧ b = nI j then 1 else 0)) (h4 : zF z' 4 a = zA z' 35 j) (h5 : zF z' 5 a = zA z' 36 j) (h6 : zF z' 6 a = zA z' 37 j) (hR2 : zR z' 2 = va_up (zR z 2) nr (some n0)) (hl : (zG z' 7 a = zG z 7 a ∧ zA z' 38 j = zA z 38 j) ∨ (zG z' 7 a = some n0 ∧ zA z' 38 j = nI nr ∧ s = 2)) : bakOf z' (nr + 1) j a := by
  obtain ⟨q1, q2, q3, q4, q5, q6, q7, q8, q9, q10, q11⟩ := h
  refine ⟨q1, by omega, hK.trans q3, hf0, ?_, ?_, ?_, h4, h5, h6, ?_⟩
  · rw [h1, q5, cnt_app h18 h21]
  · rw [h2, q6, cnt_app h18 h21]
  · rw [h3, q7, cnt_app h18 h21]
  · rcases hl with ⟨l1, l2⟩ | ⟨l1, l2, l3⟩
    · rw [l1, l2, hR2, h18]
      rcases q11 with ⟨r1, r2⟩ | ⟨r, b', r1, r2, r3, r4, r5⟩
      · exact Or.inl ⟨r1, r2⟩
      · exact Or.inr ⟨r, b', by omega, r2, by rw [up_old r1]; exact r3, r4, by rw [up_old r1]; exact r5⟩
    · exact Or.inr ⟨nr, n0, by omega, l2, by rw [hR2, va_up_self], l1, by rw [h18, va_up_self]; exact l3⟩
theorem I_gr.app {z z' : Hp} {nr ng n0 : Nat} {s : Int32} (h : I_gr z nr ng) (h26 : zA z' 26 = zA z 26) (h3 : zR z' 3 = zR z 3) (hR2 : zR z' 2 = va_up (zR z 2) nr (some n0)) (h18 : zA z' 18 = va_up (zA z 18) nr s) (h24 : zA z' 24 = zA z 24) (h0 : zA z 24 nr = 0) : I_gr z' (nr + 1) ng := by
  obtain ⟨g1, g2, g3⟩ := h
  refine ⟨fun g hg => ?_, fun g g' h1 h2 => ?_, fun i hi k1 k2 => ?_⟩
  · obtain ⟨i, i1, i2, i3, i4, i5⟩ := g1 g hg
    exact ⟨i, by omega, by rw [h26]; exact i2, by rw [h3, hR2, up_old i1]; exact i3, by rw [h18, up_old i1]; exact i4, by rw [h24]; exact i5⟩
  · rw [h26]
    exact g2 g g' h1 h2
  · rw [h24] at k2
    rw [h26]
    rcases Nat.lt_or_ge i nr with hi2 | hi2
    · rw [h18, up_old hi2] at k1
      exact g3 i hi2 k1 k2
    · have ei : i = nr := by omega
      rw [ei, h0] at k2
      exact absurd k2 (by decide)
theorem I_gf.app {z z' : Hp} {nr gv : Nat} {s : Int32} (h : I_gf z nr gv) (h18 : zA z' 18 = va_up (zA z 18) nr s) (h24 : zA z' 24 = zA z 24) (h25 : zA z' 25 = zA z 25) (h4 : zA z' 4 = zA z 4) (h5 : zA z' 5 = zA z 5) (h32 : zA z' 32 = zA z 32) (h33 : zA z' 33 = zA z 33) : I_gf z' (nr + 1) gv := by
  obtain ⟨g1, g2⟩ := h
  refine ⟨?_, ?_⟩
  · rw [h18, h24, h25]
    simp only [usedR, usedR_congr (A := va_up (zA z 18) nr s) (A' := zA z 18) (B := zA z 24) (B' := zA z 24) (C := zA z 25) (C' := zA z 25) (n := nr) (fun k hk => ⟨up_old hk, rfl, rfl⟩)]
    omega
  · rw [h4, h5, h32, h33]
    exact g2
theorem mkO_app {A A' B B' C C' : Nat → Int32} {nr : Nat} {x y b : Int32} (hA : A' = va_up A nr x) (hB : B' = va_up B nr y) (hC : ∀ k, k < nr → C' k = C k) : mkO A' B' C' b (nr + 1) = if x = 1 ∧ y = b then mkO A B C b nr + (C' nr).toInt64 else mkO A B C b nr := by
  subst hA; subst hB
  simp only [mkO, va_up_self, mkO_congr (A := va_up A nr x) (A' := A) (B := va_up B nr y) (B' := B) (C := C') (C' := C) (n := nr) (fun k hk => ⟨up_old hk, up_old hk, hC k hk⟩)]
theorem mkW_app {A A' B B' C C' D D' : Nat → Int32} {nr : Nat} {x y b : Int32} (hA : A' = va_up A nr x) (hB : B' = va_up B nr y) (hC : ∀ k, k < nr → C' k = C k) (hD : ∀ k, k < nr → D' k = D k) : mkW A' B' C' D' b (nr + 1) = if x = 1 ∧ y = b then mkW A B C D b nr + (D' nr).toInt64 * (C' nr).toInt64 else mkW A B C D b nr := by
  subst hA; subst hB
  simp only [mkW, va_up_self, mkW_congr (A := va_up A nr x) (A' := A) (B := va_up B nr y) (B' := B) (C := C') (C' := C) (D := D') (D' := D) (n := nr) (fun k hk => ⟨up_old hk, up_old hk, hC k hk, hD k hk⟩)]
theorem I_mk.app {z z' : Hp} {nr : Nat} {s y : Int32} (h : I_mk z nr) (hs : s ≠ 1) (h18 : zA z' 18 = va_up (zA z 18) nr s) (h19 : zA z' 19 = va_up (zA z 19) nr y) (h22 : zA z' 22 = zA z 22) (h23 : zA z' 23 = zA z 23) (h7 : zJ z' 7 = zJ z 7) (h8 : zJ z' 8 = zJ z 8) : I_mk z' (nr + 1) := by
  intro v hv
  obtain ⟨q1, q2⟩ := h v hv
  rw [mkO_app h18 h19 (C := zA z 22) (fun k _ => by rw [h22]), mkW_app h18 h19 (C := zA z 22) (D := zA z 23) (fun k _ => by rw [h22]) (fun k _ => by rw [h23]), if_neg (fun q => hs q.1), if_neg (fun q => hs q.1), h7, h8]
  exact ⟨q1, q2⟩
theorem num_app {z z' : Hp} {w h nb nr ng gv gv' nt nh : Nat} (hn : I_num z w h nb nr ng gv nt nh) (hr : nr < 200) (hf : ∀ f, f ∈ [704, 705, 647, 706, 646, 717, 133, 739, 257, 753, 194] → zF z' f = zF z f) (h1 : zF z' 711 17 = nI (nr + 1)) (h2 : zF z' 132 1 = nI (nr + 1)) (h3 : zF z' 727 17 = nI gv') (h4 : zF z' 134 1 = nI gv') : I_num z' w h nb (nr + 1) ng gv' nt nh := by
  obtain ⟨n1, n2, n3, n4, n5, n6, n7⟩ := hn
  unfold I_num
  rw [hf 704 (by decide), hf 705 (by decide), hf 647 (by decide), hf 706 (by decide), hf 646 (by decide), hf 717 (by decide), hf 133 (by decide), hf 739 (by decide), hf 257 (by decide), hf 753 (by decide), hf 194 (by decide)]
  exact ⟨n1, n2, ⟨h1, h2, by omega⟩, ⟨n4.1, n4.2.1, by omega⟩, ⟨h3, h4⟩, n6, n7⟩
theorem I_rec.kd {z : Hp} {t nb nr gv i a : Nat} (h : I_rec z t nb nr gv) (hi : i < nr) (e : zR z 2 i = some a) : 48 ≤ a ∧ a < zn z ∧ (zK z a = 5 ∨ zK z a = 1 ∨ zK z a = 7) := by
  obtain ⟨b, e1, q1, q2, q3, q4, q5, q6, q7, q8⟩ := h.1 i hi
  rw [e1] at e
  cases e
  refine ⟨q1, q2, ?_⟩
  rcases q8 with p | p | p
  · exact Or.inl p.2.1
  · exact Or.inr (Or.inl p.2.1)
  · exact Or.inr (Or.inr p.2.1)
theorem I_bk.ne {z : Hp} {nb nr i j a b : Nat} (h : I_bk z nb nr) (hi : i < nb) (hj : j < nb) (ha : zR z 16 i = some a) (hb : zR z 16 j = some b) (hij : i ≠ j) : a ≠ b := by
  rcases Nat.lt_or_ge i j with q | q
  · have := h.2.1 i j a b q hj ha hb; omega
  · have := h.2.1 j i b a (by omega) hi hb ha; omega
