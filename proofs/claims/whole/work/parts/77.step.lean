-- STEP
def stZ1 (z : Hp) (a ns : Nat) (p o : Int32) : Hp := zsF (zsA (zsA z (a + 2) ns p) (a + 3) ns o) 518 a (nI (ns + 1))
def stZ2 (x : Hp) (t ns : Nat) (p o : Int32) : Hp := zsA (zsA (zsA x 42 (8 * t + ns) p) 43 (8 * t + ns) o) 44 t (nI (ns + 1))
theorem textAt_0 {N nt : Nat} {x : Int32} {z : Hp} (hS : Sh z) (e : zF z 257 9 = nI nt) (h : x < 0 ∨ nI nt ≤ x) : fX5_textAt N 9 x z = some none := by
  by_cases h0 : x < 0
  · simp only [fX5_textAt, fX5_textAt_12, br_y h0]
  · have h1 : ¬ x < nI nt := by
      rcases h with q | q
      · exact absurd q h0
      · exact Int32.not_lt.mpr q
    simp only [fX5_textAt, fX5_textAt_12, br_n h0, gdT, brTr, brFa, br_00, br_10, bd_e, bo_s, bp_s, cs_s, cs_n, lf_s, o0 hS, o1 hS, o2 hS, o3 hS, o4 hS, o5 hS, o6 hS, o7 hS, o8 hS, o9 hS, o10 hS, o11 hS, o12 hS, o13 hS, o14 hS, o15 hS, o16 hS, o17 hS, o18 hS, o19 hS, o20 hS, o21 hS, o22 hS, o23 hS, o24 hS, o25 hS, o26 hS, o27 hS, o28 hS, o29 hS, o30 hS, o31 hS, o32 hS, o33 hS, o34 hS, o35 hS, o36 hS, o37 hS, o38 hS, o39 hS, o40 hS, o41 hS, o42 hS, o43 hS, o44 hS, o45 hS, o46 hS, o47 hS, l2 hS, l3 hS, l4 hS, l5 hS, l7 hS, l8 hS, l10 hS, l12 hS, l14 hS, l15 hS, l16 hS, l18 hS, l19 hS, l20 hS, l21 hS, l22 hS, l23 hS, l24 hS, l25 hS, l26 hS, l27 hS, l28 hS, l29 hS, l30 hS, l31 hS, l32 hS, l33 hS, l34 hS, l35 hS, l36 hS, l37 hS, l38 hS, l39 hS, l40 hS, l41 hS, l42 hS, l43 hS, l44 hS, l45 hS, l46 hS, l47 hS, g640 hS, g641 hS, g642 hS, g643 hS, g644 hS, g645 hS, g128 hS, g129 hS, g130 hS, g131 hS, g384 hS, g385 hS, g256 hS, g576 hS, g192 hS, g193 hS, g707 hS, g708 hS, g709 hS, g710 hS, g712 hS, g713 hS, g714 hS, g715 hS, g716 hS, g720 hS, g721 hS, g722 hS, g723 hS, g724 hS, g725 hS, g726 hS, g728 hS, g729 hS, g730 hS, g731 hS, g732 hS, g733 hS, g734 hS, g735 hS, g736 hS, g737 hS, g738 hS, g740 hS, g751 hS, g752 hS, e, br_n h1]
theorem textAt_1 {N nt t : Nat} {z : Hp} (hS : Sh z) (e : zF z 257 9 = nI nt) (hr : nt ≤ 6) (h : t < nt) : fX5_textAt N 9 (nI t) z = some (zR z 10 t) := by
  have h0 : ¬ nI t < 0 := nI_pos (by omega)
  have h1 : nI t < nI nt := nI_lt h (by omega)
  simp only [fX5_textAt, br_n h0, gdT, brTr, brFa, br_00, br_10, bd_e, bo_s, bp_s, cs_s, cs_n, lf_s, o0 hS, o1 hS, o2 hS, o3 hS, o4 hS, o5 hS, o6 hS, o7 hS, o8 hS, o9 hS, o10 hS, o11 hS, o12 hS, o13 hS, o14 hS, o15 hS, o16 hS, o17 hS, o18 hS, o19 hS, o20 hS, o21 hS, o22 hS, o23 hS, o24 hS, o25 hS, o26 hS, o27 hS, o28 hS, o29 hS, o30 hS, o31 hS, o32 hS, o33 hS, o34 hS, o35 hS, o36 hS, o37 hS, o38 hS, o39 hS, o40 hS, o41 hS, o42 hS, o43 hS, o44 hS, o45 hS, o46 hS, o47 hS, l2 hS, l3 hS, l4 hS, l5 hS, l7 hS, l8 hS, l10 hS, l12 hS, l14 hS, l15 hS, l16 hS, l18 hS, l19 hS, l20 hS, l21 hS, l22 hS, l23 hS, l24 hS, l25 hS, l26 hS, l27 hS, l28 hS, l29 hS, l30 hS, l31 hS, l32 hS, l33 hS, l34 hS, l35 hS, l36 hS, l37 hS, l38 hS, l39 hS, l40 hS, l41 hS, l42 hS, l43 hS, l44 hS, l45 hS, l46 hS, l47 hS, g640 hS, g641 hS, g642 hS, g643 hS, g644 hS, g645 hS, g128 hS, g129 hS, g130 hS, g131 hS, g384 hS, g385 hS, g256 hS, g576 hS, g192 hS, g193 hS, g707 hS, g708 hS, g709 hS, g710 hS, g712 hS, g713 hS, g714 hS, g715 hS, g716 hS, g720 hS, g721 hS, g722 hS, g723 hS, g724 hS, g725 hS, g726 hS, g728 hS, g729 hS, g730 hS, g731 hS, g732 hS, g733 hS, g734 hS, g735 hS, g736 hS, g737 hS, g738 hS, g740 hS, g751 hS, g752 hS, e, br_y h1, inb (show t < 6 by omega) (by decide), nI_clamp (show t < 2 ^ 31 by omega)]
theorem step_keep {z : Hp} {w h nb nr ng gv nt nh t a ns p o : Nat} (hS : Sh z) (hsc : I_sc z) (hst : I_st z) (hn : I_num z w h nb nr ng gv nt nh) (hhv : I_hv z w nh) (hrec : I_rec z (168 * w + h) nb nr gv) (hbk : I_bk z nb nr) (hgr : I_gr z nr ng) (hgf : I_gf z nr gv) (hmk : I_mk z nr) (htx : I_tx z nt) (htn : I_tn z nb) (ht : t < nt) (ea : zR z 10 t = some a) (hns : ns < 8) (e44 : zA z 44 t = nI ns) (hp : p ≤ 1000) (ho1 : 1 ≤ o) (ho2 : o ≤ 1000) : Inv (stZ2 (stZ1 z a ns (nI p) (nI o)) t ns (nI p) (nI o)) := by
  obtain ⟨t1, t2, t3⟩ := htx
  have hpa := t1 t ht
  rw [ea] at hpa
  obtain ⟨a', ea', pa⟩ := hpa
  cases ea'
  have p1 := pa.1
  have p2 := pa.2.1
  have hO : Oth z (168 * w + h) w nh nb nr ng gv := ⟨hS, hsc, hst, hhv, hrec, hbk, hgr, hgf, hmk, htn⟩
  have hO2 : Oth (stZ2 (stZ1 z a ns (nI p) (nI o)) t ns (nI p) (nI o)) (168 * w + h) w nh nb nr ng gv := (((((hO.sA (Or.inr (by omega))).sA (Or.inr (by omega))).sF (by decide)).sA (Or.inl (by decide))).sA (Or.inl (by decide))).sA (Or.inl (by decide))
  obtain ⟨hS', hsc', hst', hhv', hrec', hbk', hgr', hgf', hmk', htn'⟩ := hO2
  generalize hzf : stZ2 (stZ1 z a ns (nI p) (nI o)) t ns (nI p) (nI o) = zf at *
  have hnum : I_num zf w h nb nr ng gv nt nh := by
    rw [← hzf]
    unfold stZ2 stZ1
    exact hn |>.sA |>.sA |>.sF (by decide) |>.sA |>.sA |>.sA
  have hpf : PF z zf (fun c => 48 ≤ c ∧ (c < a ∨ a + 4 ≤ c)) := by
    rw [← hzf]
    unfold stZ2 stZ1
    exact PF.refl z _ |>.sA (fun c hc => by omega) |>.sA (fun c hc => by omega) |>.sF (fun c hc => by omega) |>.sA (fun c hc => by omega) |>.sA (fun c hc => by omega) |>.sA (fun c hc => by omega)
  have ax : ∀ c, c ≠ a + 2 → c ≠ a + 3 → c ≠ 42 → c ≠ 43 → c ≠ 44 → zA zf c = zA z c := by
    intro c q1 q2 q3 q4 q5
    simp only [← hzf, stZ2, stZ1, eF_zA, eA_n _ _ _ _ q1, eA_n _ _ _ _ q2, eA_n _ _ _ _ q3, eA_n _ _ _ _ q4, eA_n _ _ _ _ q5]
  have a42 : zA zf 42 = va_up (zA z 42) (8 * t + ns) (nI p) := by
    rw [← hzf]; unfold stZ2 stZ1
    rw [eA_n _ _ _ _ (by decide), eA_n _ _ _ _ (by decide), eA_s, eF_zA, eA_n _ _ _ _ (by omega), eA_n _ _ _ _ (by omega)]
  have a43 : zA zf 43 = va_up (zA z 43) (8 * t + ns) (nI o) := by
    rw [← hzf]; unfold stZ2 stZ1
    rw [eA_n _ _ _ _ (by decide), eA_s, eA_n _ _ _ _ (by decide), eF_zA, eA_n _ _ _ _ (by omega), eA_n _ _ _ _ (by omega)]
  have a44 : zA zf 44 = va_up (zA z 44) t (nI (ns + 1)) := by
    rw [← hzf]; unfold stZ2 stZ1
    rw [eA_s, eA_n _ _ _ _ (by decide), eA_n _ _ _ _ (by decide), eF_zA, eA_n _ _ _ _ (by omega), eA_n _ _ _ _ (by omega)]
  have b2 : zA zf (a + 2) = va_up (zA z (a + 2)) ns (nI p) := by
    rw [← hzf]; unfold stZ2 stZ1
    rw [eA_n _ _ _ _ (by omega), eA_n _ _ _ _ (by omega), eA_n _ _ _ _ (by omega), eF_zA, eA_n _ _ _ _ (by omega), eA_s]
  have b3 : zA zf (a + 3) = va_up (zA z (a + 3)) ns (nI o) := by
    rw [← hzf]; unfold stZ2 stZ1
    rw [eA_n _ _ _ _ (by omega), eA_n _ _ _ _ (by omega), eA_n _ _ _ _ (by omega), eF_zA, eA_s, eA_n _ _ _ _ (by omega)]
  have r10 : zR zf 10 = zR z 10 := by rw [← hzf]; simp only [stZ2, stZ1, eF_zn, eF_zK, eF_zL, eF_s, eF_n, eF_zG, eF_zA, eF_zJ, eF_zR, eG_zn, eG_zK, eG_zL, eG_zF, eG_s, eG_n, eG_zA, eG_zJ, eG_zR, eA_zn, eA_zK, eA_zL, eA_zF, eA_zG, eA_s, eA_n, eA_zJ, eA_zR, eJ_zn, eJ_zK, eJ_zL, eJ_zF, eJ_zG, eJ_zA, eJ_s, eJ_n, eJ_zR, eR_zn, eR_zK, eR_zL, eR_zF, eR_zG, eR_zA, eR_zJ, eR_s, eR_n]
  have en : zn zf = zn z := by rw [← hzf]; simp only [stZ2, stZ1, eF_zn, eF_zK, eF_zL, eF_s, eF_n, eF_zG, eF_zA, eF_zJ, eF_zR, eG_zn, eG_zK, eG_zL, eG_zF, eG_s, eG_n, eG_zA, eG_zJ, eG_zR, eA_zn, eA_zK, eA_zL, eA_zF, eA_zG, eA_s, eA_n, eA_zJ, eA_zR, eJ_zn, eJ_zK, eJ_zL, eJ_zF, eJ_zG, eJ_zA, eJ_s, eJ_n, eJ_zR, eR_zn, eR_zK, eR_zL, eR_zF, eR_zG, eR_zA, eR_zJ, eR_s, eR_n]
  have eK : zK zf = zK z := by rw [← hzf]; simp only [stZ2, stZ1, eF_zn, eF_zK, eF_zL, eF_s, eF_n, eF_zG, eF_zA, eF_zJ, eF_zR, eG_zn, eG_zK, eG_zL, eG_zF, eG_s, eG_n, eG_zA, eG_zJ, eG_zR, eA_zn, eA_zK, eA_zL, eA_zF, eA_zG, eA_s, eA_n, eA_zJ, eA_zR, eJ_zn, eJ_zK, eJ_zL, eJ_zF, eJ_zG, eJ_zA, eJ_s, eJ_n, eJ_zR, eR_zn, eR_zK, eR_zL, eR_zF, eR_zG, eR_zA, eR_zJ, eR_s, eR_n]
  have eL : zL zf = zL z := by rw [← hzf]; simp only [stZ2, stZ1, eF_zn, eF_zK, eF_zL, eF_s, eF_n, eF_zG, eF_zA, eF_zJ, eF_zR, eG_zn, eG_zK, eG_zL, eG_zF, eG_s, eG_n, eG_zA, eG_zJ, eG_zR, eA_zn, eA_zK, eA_zL, eA_zF, eA_zG, eA_s, eA_n, eA_zJ, eA_zR, eJ_zn, eJ_zK, eJ_zL, eJ_zF, eJ_zG, eJ_zA, eJ_s, eJ_n, eJ_zR, eR_zn, eR_zK, eR_zL, eR_zF, eR_zG, eR_zA, eR_zJ, eR_s, eR_n]
  have eG : zG zf = zG z := by rw [← hzf]; simp only [stZ2, stZ1, eF_zn, eF_zK, eF_zL, eF_s, eF_n, eF_zG, eF_zA, eF_zJ, eF_zR, eG_zn, eG_zK, eG_zL, eG_zF, eG_s, eG_n, eG_zA, eG_zJ, eG_zR, eA_zn, eA_zK, eA_zL, eA_zF, eA_zG, eA_s, eA_n, eA_zJ, eA_zR, eJ_zn, eJ_zK, eJ_zL, eJ_zF, eJ_zG, eJ_zA, eJ_s, eJ_n, eJ_zR, eR_zn, eR_zK, eR_zL, eR_zF, eR_zG, eR_zA, eR_zJ, eR_s, eR_n]
  have f518 : zF zf 518 a = nI (ns + 1) := by rw [← hzf]; simp only [stZ2, stZ1, eF_zn, eF_zK, eF_zL, eF_s, eF_n, eF_zG, eF_zA, eF_zJ, eF_zR, eG_zn, eG_zK, eG_zL, eG_zF, eG_s, eG_n, eG_zA, eG_zJ, eG_zR, eA_zn, eA_zK, eA_zL, eA_zF, eA_zG, eA_s, eA_n, eA_zJ, eA_zR, eJ_zn, eJ_zK, eJ_zL, eJ_zF, eJ_zG, eJ_zA, eJ_s, eJ_n, eJ_zR, eR_zn, eR_zK, eR_zL, eR_zF, eR_zG, eR_zA, eR_zJ, eR_s, eR_n, va_up_self]
  have fx : ∀ g, g ≠ 518 → zF zf g = zF z g := by
    intro g q
    simp only [← hzf, stZ2, stZ1, eA_zF, eF_n _ _ _ _ q]
  have htx' : I_tx zf nt := by
    refine ⟨fun t' ht' => ?_, by rw [r10]; exact t2, fun t' ht' => by rw [a44, va_up_ne _ _ (by omega)]; exact t3 t' ht'⟩
    rw [r10]
    by_cases et : t' = t
    · subst et
      obtain ⟨q1, q2, q3, q4, q5, q6, q7, q8, q9, q10, q11, ⟨ns', u1, u2, u3⟩, q13⟩ := pa
      have e8 : ns' = ns := by
        rw [e44] at u2
        exact ((nI_eq (by omega) (by omega)).mp u2).symm
      subst e8
      refine ⟨a, ea, q1, by rw [en]; exact q2, by rw [eK]; exact q3, by rw [eL]; exact q4, by rw [eG]; exact q5, by rw [fx 512 (by decide)]; exact q6, by rw [fx 513 (by decide), ax 39 (by omega) (by omega) (by decide) (by decide) (by decide)]; exact q7, by rw [fx 514 (by decide), ax 41 (by omega) (by omega) (by decide) (by decide) (by decide)]; exact q8, by rw [f518, a44, va_up_self], by rw [ax 39 (by omega) (by omega) (by decide) (by decide) (by decide)]; exact q10, by rw [ax 41 (by omega) (by omega) (by decide) (by decide) (by decide)]; exact q11, ⟨ns' + 1, by omega, by rw [a44, va_up_self], fun j hj => ?_⟩, fun k hk => ?_⟩
      · rw [b2, b3, a42, a43]
        by_cases ej : j = ns'
        · subst ej
          rw [va_up_self, va_up_self, va_up_self, va_up_self]
          exact ⟨rfl, rfl, ⟨p, rfl, hp⟩, o, rfl, ho1, ho2⟩
        · rw [va_up_ne _ _ ej, va_up_ne _ _ ej, va_up_ne _ _ (by omega), va_up_ne _ _ (by omega)]
          exact u3 j (by omega)
      · rw [ax (a + 1) (by omega) (by omega) (by omega) (by omega) (by omega), ax 40 (by omega) (by omega) (by decide) (by decide) (by decide)]
        exact q13 k hk
    · obtain ⟨c, ec, pc⟩ := t1 t' ht'
      have c1 := pc.1
      have hsep : c + 4 ≤ a ∨ a + 4 ≤ c := by
        rcases Nat.lt_or_ge t' t with q | q
        · exact Or.inl (t2 t' t c a q ht ec ea)
        · exact Or.inr (t2 t t' a c (by omega) ht' ea ec)
      refine ⟨c, ec, pc.cg hpf ⟨c1, by omega⟩ ⟨by omega, by omega⟩ ⟨by omega, by omega⟩ ⟨by omega, by omega⟩ (by rw [ax 39 (by omega) (by omega) (by decide) (by decide) (by decide)]) (by rw [ax 41 (by omega) (by omega) (by decide) (by decide) (by decide)]) (by rw [a44, va_up_ne _ _ et]) (fun j hj => by rw [a42, va_up_ne _ _ (by omega)]) (fun j hj => by rw [a43, va_up_ne _ _ (by omega)]) (fun k _ => by rw [ax 40 (by omega) (by omega) (by decide) (by decide) (by decide)])⟩
  exact ⟨hS', hsc', hst', w, h, nb, nr, ng, gv, nt, nh, hnum, hhv', hrec', hbk', hgr', hgf', hmk', htx', htn'⟩
theorem addStep_e {N : Nat} {z : Hp} {a ns : Nat} {p o : Int32} (h48 : 48 ≤ a) (ha : a + 3 < zn z) (hK : zK z a = 8) (hK2 : zK z (a + 2) = 12) (hK3 : zK z (a + 3) = 12) (hL2 : zL z (a + 2) = 8) (hL3 : zL z (a + 3) = 8) (hG2 : zG z 516 a = some (a + 2)) (hG3 : zG z 517 a = some (a + 3)) (hF : zF z 518 a = nI ns) (hns : ns < 8) : fX9_addStep N a p o z = some (stZ1 z a ns p o) := by
  have c : nI ns < 8 := by rw [show (8 : Int32) = nI 8 from rfl]; exact nI_lt hns (by decide)
  simp only [fX9_addStep_37, fX9_addStep, fX9_isFull, okE (show a < zn z by omega) hK, okE (show a + 2 < zn z by omega) hK2, okE (show a + 3 < zn z by omega) hK3, gdT, brTr, brFa, br_00, br_10, bd_e, bo_s, bp_s, cs_s, cs_n, lf_s, eF_zn, eF_zK, eF_zL, eF_s, eF_n, eF_zG, eF_zA, eF_zJ, eF_zR, eG_zn, eG_zK, eG_zL, eG_zF, eG_s, eG_n, eG_zA, eG_zJ, eG_zR, eA_zn, eA_zK, eA_zL, eA_zF, eA_zG, eA_s, eA_n, eA_zJ, eA_zR, eJ_zn, eJ_zK, eJ_zL, eJ_zF, eJ_zG, eJ_zA, eJ_s, eJ_n, eJ_zR, eR_zn, eR_zK, eR_zL, eR_zF, eR_zG, eR_zA, eR_zJ, eR_s, eR_n, ne_eq, not_false_eq_true, not_true_eq_false, reduceCtorEq, Nat.reduceEqDiff, hF, br_y c, hG2, hG3, hL2, hL3, inb hns (by decide), nI_clamp (show ns < 2 ^ 31 by omega), nI_1, stZ1]
theorem stepM_e {N : Nat} {x : Hp} {nt t ns : Nat} {p o : Nat} (hS : Sh x) (n1 : zF x 739 17 = nI nt) (hnt : nt ≤ 6) (ht : t < nt) (e44 : zA x 44 t = nI ns) (hns : ns < 8) (hp : p ≤ 1000) (ho1 : 1 ≤ o) (ho2 : o ≤ 1000) : fX12_step N 17 (nI t) (nI p) (nI o) x = some (nI (ns + 1), stZ2 x t ns (nI p) (nI o)) := by
  have u0 : ¬ (nI t < 0 ∨ nI nt - 1 < nI t) := by
    rw [show (1 : Int32) = nI 1 from rfl, pk_sub (by omega)]
    exact nout (x := t) (a := 0) (b := nt - 1) (by omega) (by omega) (by omega)
  have u1 : ¬ (nI p < 0 ∨ 1000 < nI p) := nout (x := p) (a := 0) (b := 1000) (by omega) hp (by decide)
  have u2 : ¬ (nI o < 1 ∨ 1000 < nI o) := nout (x := o) (a := 1) (b := 1000) ho1 ho2 (by decide)
  have c : ¬ nI ns = 8 := by rw [show (8 : Int32) = nI 8 from rfl, nI_eq (by omega) (by decide)]; omega
  have m8 : (8 : Int32) * nI t + nI ns = nI (8 * t + ns) := by rw [show (8 : Int32) = nI 8 from rfl, pk_mul, nI_add]
  simp only [fX12_step_42, fX12_step, gdT, brTr, brFa, br_00, br_10, bd_e, bo_s, bp_s, cs_s, cs_n, lf_s, eF_zn, eF_zK, eF_zL, eF_s, eF_n, eF_zG, eF_zA, eF_zJ, eF_zR, eG_zn, eG_zK, eG_zL, eG_zF, eG_s, eG_n, eG_zA, eG_zJ, eG_zR, eA_zn, eA_zK, eA_zL, eA_zF, eA_zG, eA_s, eA_n, eA_zJ, eA_zR, eJ_zn, eJ_zK, eJ_zL, eJ_zF, eJ_zG, eJ_zA, eJ_s, eJ_n, eJ_zR, eR_zn, eR_zK, eR_zL, eR_zF, eR_zG, eR_zA, eR_zJ, eR_s, eR_n, ne_eq, not_false_eq_true, not_true_eq_false, reduceCtorEq, Nat.reduceEqDiff, o0 hS, o1 hS, o2 hS, o3 hS, o4 hS, o5 hS, o6 hS, o7 hS, o8 hS, o9 hS, o10 hS, o11 hS, o12 hS, o13 hS, o14 hS, o15 hS, o16 hS, o17 hS, o18 hS, o19 hS, o20 hS, o21 hS, o22 hS, o23 hS, o24 hS, o25 hS, o26 hS, o27 hS, o28 hS, o29 hS, o30 hS, o31 hS, o32 hS, o33 hS, o34 hS, o35 hS, o36 hS, o37 hS, o38 hS, o39 hS, o40 hS, o41 hS, o42 hS, o43 hS, o44 hS, o45 hS, o46 hS, o47 hS, l2 hS, l3 hS, l4 hS, l5 hS, l7 hS, l8 hS, l10 hS, l12 hS, l14 hS, l15 hS, l16 hS, l18 hS, l19 hS, l20 hS, l21 hS, l22 hS, l23 hS, l24 hS, l25 hS, l26 hS, l27 hS, l28 hS, l29 hS, l30 hS, l31 hS, l32 hS, l33 hS, l34 hS, l35 hS, l36 hS, l37 hS, l38 hS, l39 hS, l40 hS, l41 hS, l42 hS, l43 hS, l44 hS, l45 hS, l46 hS, l47 hS, g640 hS, g641 hS, g642 hS, g643 hS, g644 hS, g645 hS, g128 hS, g129 hS, g130 hS, g131 hS, g384 hS, g385 hS, g256 hS, g576 hS, g192 hS, g193 hS, g707 hS, g708 hS, g709 hS, g710 hS, g712 hS, g713 hS, g714 hS, g715 hS, g716 hS, g720 hS, g721 hS, g722 hS, g723 hS, g724 hS, g725 hS, g726 hS, g728 hS, g729 hS, g730 hS, g731 hS, g732 hS, g733 hS, g734 hS, g735 hS, g736 hS, g737 hS, g738 hS, g740 hS, g751 hS, g752 hS, n1, in_1 (A := 0) (B := (nI nt - 1).toInt64) (a := 0) (b := nI nt - 1) rfl rfl u0, in_1 (A := 0) (B := 1000) (a := 0) (b := 1000) rfl rfl u1, in_1 (A := 1) (B := 1000) (a := 1) (b := 1000) rfl rfl u2, inb (show t < 6 by omega) (by decide), nI_clamp (show t < 2 ^ 31 by omega), e44, br_n c, m8, inb (show 8 * t + ns < 48 by omega) (by decide), nI_clamp (show 8 * t + ns < 2 ^ 31 by omega), nI_1, va_up_self, stZ2]
theorem op_step (N : Nat) : Op_step N Inv := by
  intro z a1 a2 a3 hI
  obtain ⟨hS, hsc, hst, w, h, nb, nr, ng, gv, nt, nh, hn, hhv, hrec, hbk, hgr, hgf, hmk, htx, htn⟩ := id hI
  obtain ⟨-, -, -, -, -, ⟨n1, n2, n3⟩, -⟩ := id hn
  by_cases hb0 : a1 < 0 ∨ nI nt ≤ a1
  · have hb' : a1 < 0 ∨ nI nt - 1 < a1 := by
      rcases hb0 with q | q
      · exact Or.inl q
      · exact Or.inr (by
          rcases Nat.eq_zero_or_pos nt with h0 | h0
          · subst h0
            by_cases q2 : a1 < 0
            · rw [Int32.le_iff_toInt_le] at q
              rw [Int32.lt_iff_toInt_lt] at q2
              have e0 : (nI 0).toInt = 0 := by decide
              have e1 : (0 : Int32).toInt = 0 := by decide
              omega
            · rw [Int32.lt_iff_toInt_lt] at q2 ⊢
              have e0 : (nI 0 - 1).toInt = -1 := by decide
              have e1 : (0 : Int32).toInt = 0 := by decide
              omega
          · rw [show (1 : Int32) = nI 1 from rfl, pk_sub (by omega)]
            rw [Int32.le_iff_toInt_le, nI_toInt (by omega)] at q
            rw [Int32.lt_iff_toInt_lt, nI_toInt (by omega)]
            omega)
    refine ⟨-1, z, z, ?_, of_eq_true (o17 hS), ?_, hI⟩
    · simp only [fX11_step_39, fX11_step, gdT, brTr, brFa, br_00, br_10, bd_e, bo_s, bp_s, cs_s, cs_n, lf_s, o0 hS, o1 hS, o2 hS, o3 hS, o4 hS, o5 hS, o6 hS, o7 hS, o8 hS, o9 hS, o10 hS, o11 hS, o12 hS, o13 hS, o14 hS, o15 hS, o16 hS, o17 hS, o18 hS, o19 hS, o20 hS, o21 hS, o22 hS, o23 hS, o24 hS, o25 hS, o26 hS, o27 hS, o28 hS, o29 hS, o30 hS, o31 hS, o32 hS, o33 hS, o34 hS, o35 hS, o36 hS, o37 hS, o38 hS, o39 hS, o40 hS, o41 hS, o42 hS, o43 hS, o44 hS, o45 hS, o46 hS, o47 hS, l2 hS, l3 hS, l4 hS, l5 hS, l7 hS, l8 hS, l10 hS, l12 hS, l14 hS, l15 hS, l16 hS, l18 hS, l19 hS, l20 hS, l21 hS, l22 hS, l23 hS, l24 hS, l25 hS, l26 hS, l27 hS, l28 hS, l29 hS, l30 hS, l31 hS, l32 hS, l33 hS, l34 hS, l35 hS, l36 hS, l37 hS, l38 hS, l39 hS, l40 hS, l41 hS, l42 hS, l43 hS, l44 hS, l45 hS, l46 hS, l47 hS, g640 hS, g641 hS, g642 hS, g643 hS, g644 hS, g645 hS, g128 hS, g129 hS, g130 hS, g131 hS, g384 hS, g385 hS, g256 hS, g576 hS, g192 hS, g193 hS, g707 hS, g708 hS, g709 hS, g710 hS, g712 hS, g713 hS, g714 hS, g715 hS, g716 hS, g720 hS, g721 hS, g722 hS, g723 hS, g724 hS, g725 hS, g726 hS, g728 hS, g729 hS, g730 hS, g731 hS, g732 hS, g733 hS, g734 hS, g735 hS, g736 hS, g737 hS, g738 hS, g740 hS, g751 hS, g752 hS, textAt_0 hS n2 hb0]
    · simp only [fX12_step_42, fX12_step, gdT, brTr, brFa, br_00, br_10, bd_e, bo_s, bp_s, cs_s, cs_n, lf_s, o0 hS, o1 hS, o2 hS, o3 hS, o4 hS, o5 hS, o6 hS, o7 hS, o8 hS, o9 hS, o10 hS, o11 hS, o12 hS, o13 hS, o14 hS, o15 hS, o16 hS, o17 hS, o18 hS, o19 hS, o20 hS, o21 hS, o22 hS, o23 hS, o24 hS, o25 hS, o26 hS, o27 hS, o28 hS, o29 hS, o30 hS, o31 hS, o32 hS, o33 hS, o34 hS, o35 hS, o36 hS, o37 hS, o38 hS, o39 hS, o40 hS, o41 hS, o42 hS, o43 hS, o44 hS, o45 hS, o46 hS, o47 hS, l2 hS, l3 hS, l4 hS, l5 hS, l7 hS, l8 hS, l10 hS, l12 hS, l14 hS, l15 hS, l16 hS, l18 hS, l19 hS, l20 hS, l21 hS, l22 hS, l23 hS, l24 hS, l25 hS, l26 hS, l27 hS, l28 hS, l29 hS, l30 hS, l31 hS, l32 hS, l33 hS, l34 hS, l35 hS, l36 hS, l37 hS, l38 hS, l39 hS, l40 hS, l41 hS, l42 hS, l43 hS, l44 hS, l45 hS, l46 hS, l47 hS, g640 hS, g641 hS, g642 hS, g643 hS, g644 hS, g645 hS, g128 hS, g129 hS, g130 hS, g131 hS, g384 hS, g385 hS, g256 hS, g576 hS, g192 hS, g193 hS, g707 hS, g708 hS, g709 hS, g710 hS, g712 hS, g713 hS, g714 hS, g715 hS, g716 hS, g720 hS, g721 hS, g722 hS, g723 hS, g724 hS, g725 hS, g726 hS, g728 hS, g729 hS, g730 hS, g731 hS, g732 hS, g733 hS, g734 hS, g735 hS, g736 hS, g737 hS, g738 hS, g740 hS, g751 hS, g752 hS, n1, in_0 (A := 0) (B := (nI nt - 1).toInt64) (a := 0) (b := nI nt - 1) rfl rfl hb']
  obtain ⟨t, rfl, ht⟩ := nI_idx (by omega) hb0
  have u0 : ¬ (nI t < 0 ∨ nI nt - 1 < nI t) := by
    rw [show (1 : Int32) = nI 1 from rfl, pk_sub (by omega)]
    exact nout (x := t) (a := 0) (b := nt - 1) (by omega) (by omega) (by omega)
  obtain ⟨a, ea, pa⟩ := htx.1 t ht
  have hta := textAt_1 (N := N) hS n2 n3 ht
  rw [ea] at hta
  by_cases ov2 : a2 < 0 ∨ 1000 < a2
  · refine ⟨-2, z, z, ?_, of_eq_true (o17 hS), ?_, hI⟩
    · simp only [fX11_step_39, fX11_step, gdT, brTr, brFa, br_00, br_10, bd_e, bo_s, bp_s, cs_s, cs_n, lf_s, o0 hS, o1 hS, o2 hS, o3 hS, o4 hS, o5 hS, o6 hS, o7 hS, o8 hS, o9 hS, o10 hS, o11 hS, o12 hS, o13 hS, o14 hS, o15 hS, o16 hS, o17 hS, o18 hS, o19 hS, o20 hS, o21 hS, o22 hS, o23 hS, o24 hS, o25 hS, o26 hS, o27 hS, o28 hS, o29 hS, o30 hS, o31 hS, o32 hS, o33 hS, o34 hS, o35 hS, o36 hS, o37 hS, o38 hS, o39 hS, o40 hS, o41 hS, o42 hS, o43 hS, o44 hS, o45 hS, o46 hS, o47 hS, l2 hS, l3 hS, l4 hS, l5 hS, l7 hS, l8 hS, l10 hS, l12 hS, l14 hS, l15 hS, l16 hS, l18 hS, l19 hS, l20 hS, l21 hS, l22 hS, l23 hS, l24 hS, l25 hS, l26 hS, l27 hS, l28 hS, l29 hS, l30 hS, l31 hS, l32 hS, l33 hS, l34 hS, l35 hS, l36 hS, l37 hS, l38 hS, l39 hS, l40 hS, l41 hS, l42 hS, l43 hS, l44 hS, l45 hS, l46 hS, l47 hS, g640 hS, g641 hS, g642 hS, g643 hS, g644 hS, g645 hS, g128 hS, g129 hS, g130 hS, g131 hS, g384 hS, g385 hS, g256 hS, g576 hS, g192 hS, g193 hS, g707 hS, g708 hS, g709 hS, g710 hS, g712 hS, g713 hS, g714 hS, g715 hS, g716 hS, g720 hS, g721 hS, g722 hS, g723 hS, g724 hS, g725 hS, g726 hS, g728 hS, g729 hS, g730 hS, g731 hS, g732 hS, g733 hS, g734 hS, g735 hS, g736 hS, g737 hS, g738 hS, g740 hS, g751 hS, g752 hS, hta, out_1 ov2]
    · simp only [fX12_step_42, fX12_step, gdT, brTr, brFa, br_00, br_10, bd_e, bo_s, bp_s, cs_s, cs_n, lf_s, o0 hS, o1 hS, o2 hS, o3 hS, o4 hS, o5 hS, o6 hS, o7 hS, o8 hS, o9 hS, o10 hS, o11 hS, o12 hS, o13 hS, o14 hS, o15 hS, o16 hS, o17 hS, o18 hS, o19 hS, o20 hS, o21 hS, o22 hS, o23 hS, o24 hS, o25 hS, o26 hS, o27 hS, o28 hS, o29 hS, o30 hS, o31 hS, o32 hS, o33 hS, o34 hS, o35 hS, o36 hS, o37 hS, o38 hS, o39 hS, o40 hS, o41 hS, o42 hS, o43 hS, o44 hS, o45 hS, o46 hS, o47 hS, l2 hS, l3 hS, l4 hS, l5 hS, l7 hS, l8 hS, l10 hS, l12 hS, l14 hS, l15 hS, l16 hS, l18 hS, l19 hS, l20 hS, l21 hS, l22 hS, l23 hS, l24 hS, l25 hS, l26 hS, l27 hS, l28 hS, l29 hS, l30 hS, l31 hS, l32 hS, l33 hS, l34 hS, l35 hS, l36 hS, l37 hS, l38 hS, l39 hS, l40 hS, l41 hS, l42 hS, l43 hS, l44 hS, l45 hS, l46 hS, l47 hS, g640 hS, g641 hS, g642 hS, g643 hS, g644 hS, g645 hS, g128 hS, g129 hS, g130 hS, g131 hS, g384 hS, g385 hS, g256 hS, g576 hS, g192 hS, g193 hS, g707 hS, g708 hS, g709 hS, g710 hS, g712 hS, g713 hS, g714 hS, g715 hS, g716 hS, g720 hS, g721 hS, g722 hS, g723 hS, g724 hS, g725 hS, g726 hS, g728 hS, g729 hS, g730 hS, g731 hS, g732 hS, g733 hS, g734 hS, g735 hS, g736 hS, g737 hS, g738 hS, g740 hS, g751 hS, g752 hS, n1, in_1 (A := 0) (B := (nI nt - 1).toInt64) (a := 0) (b := nI nt - 1) rfl rfl u0, in_0 (A := 0) (B := 1000) (a := 0) (b := 1000) rfl rfl ov2]
  by_cases ov3 : a3 < 1 ∨ 1000 < a3
  · refine ⟨-2, z, z, ?_, of_eq_true (o17 hS), ?_, hI⟩
    · simp only [fX11_step_39, fX11_step, gdT, brTr, brFa, br_00, br_10, bd_e, bo_s, bp_s, cs_s, cs_n, lf_s, o0 hS, o1 hS, o2 hS, o3 hS, o4 hS, o5 hS, o6 hS, o7 hS, o8 hS, o9 hS, o10 hS, o11 hS, o12 hS, o13 hS, o14 hS, o15 hS, o16 hS, o17 hS, o18 hS, o19 hS, o20 hS, o21 hS, o22 hS, o23 hS, o24 hS, o25 hS, o26 hS, o27 hS, o28 hS, o29 hS, o30 hS, o31 hS, o32 hS, o33 hS, o34 hS, o35 hS, o36 hS, o37 hS, o38 hS, o39 hS, o40 hS, o41 hS, o42 hS, o43 hS, o44 hS, o45 hS, o46 hS, o47 hS, l2 hS, l3 hS, l4 hS, l5 hS, l7 hS, l8 hS, l10 hS, l12 hS, l14 hS, l15 hS, l16 hS, l18 hS, l19 hS, l20 hS, l21 hS, l22 hS, l23 hS, l24 hS, l25 hS, l26 hS, l27 hS, l28 hS, l29 hS, l30 hS, l31 hS, l32 hS, l33 hS, l34 hS, l35 hS, l36 hS, l37 hS, l38 hS, l39 hS, l40 hS, l41 hS, l42 hS, l43 hS, l44 hS, l45 hS, l46 hS, l47 hS, g640 hS, g641 hS, g642 hS, g643 hS, g644 hS, g645 hS, g128 hS, g129 hS, g130 hS, g131 hS, g384 hS, g385 hS, g256 hS, g576 hS, g192 hS, g193 hS, g707 hS, g708 hS, g709 hS, g710 hS, g712 hS, g713 hS, g714 hS, g715 hS, g716 hS, g720 hS, g721 hS, g722 hS, g723 hS, g724 hS, g725 hS, g726 hS, g728 hS, g729 hS, g730 hS, g731 hS, g732 hS, g733 hS, g734 hS, g735 hS, g736 hS, g737 hS, g738 hS, g740 hS, g751 hS, g752 hS, hta, out_0 ov2, out_1 ov3]
    · simp only [fX12_step_42, fX12_step, gdT, brTr, brFa, br_00, br_10, bd_e, bo_s, bp_s, cs_s, cs_n, lf_s, o0 hS, o1 hS, o2 hS, o3 hS, o4 hS, o5 hS, o6 hS, o7 hS, o8 hS, o9 hS, o10 hS, o11 hS, o12 hS, o13 hS, o14 hS, o15 hS, o16 hS, o17 hS, o18 hS, o19 hS, o20 hS, o21 hS, o22 hS, o23 hS, o24 hS, o25 hS, o26 hS, o27 hS, o28 hS, o29 hS, o30 hS, o31 hS, o32 hS, o33 hS, o34 hS, o35 hS, o36 hS, o37 hS, o38 hS, o39 hS, o40 hS, o41 hS, o42 hS, o43 hS, o44 hS, o45 hS, o46 hS, o47 hS, l2 hS, l3 hS, l4 hS, l5 hS, l7 hS, l8 hS, l10 hS, l12 hS, l14 hS, l15 hS, l16 hS, l18 hS, l19 hS, l20 hS, l21 hS, l22 hS, l23 hS, l24 hS, l25 hS, l26 hS, l27 hS, l28 hS, l29 hS, l30 hS, l31 hS, l32 hS, l33 hS, l34 hS, l35 hS, l36 hS, l37 hS, l38 hS, l39 hS, l40 hS, l41 hS, l42 hS, l43 hS, l44 hS, l45 hS, l46 hS, l47 hS, g640 hS, g641 hS, g642 hS, g643 hS, g644 hS, g645 hS, g128 hS, g129 hS, g130 hS, g131 hS, g384 hS, g385 hS, g256 hS, g576 hS, g192 hS, g193 hS, g707 hS, g708 hS, g709 hS, g710 hS, g712 hS, g713 hS, g714 hS, g715 hS, g716 hS, g720 hS, g721 hS, g722 hS, g723 hS, g724 hS, g725 hS, g726 hS, g728 hS, g729 hS, g730 hS, g731 hS, g732 hS, g733 hS, g734 hS, g735 hS, g736 hS, g737 hS, g738 hS, g740 hS, g751 hS, g752 hS, n1, in_1 (A := 0) (B := (nI nt - 1).toInt64) (a := 0) (b := nI nt - 1) rfl rfl u0, in_1 (A := 0) (B := 1000) (a := 0) (b := 1000) rfl rfl ov2, in_0 (A := 1) (B := 1000) (a := 1) (b := 1000) rfl rfl ov3]
  obtain ⟨p, rfl, -, hp⟩ := nI_rng (a := 0) (b := 1000) (by decide) (by decide) ov2
  obtain ⟨o, rfl, ho1, ho2⟩ := nI_rng (a := 1) (b := 1000) (by decide) (by decide) ov3
  obtain ⟨q1, q2, ⟨k0, k1, k2, k3⟩, ⟨l1', l2', l3'⟩, ⟨g1', g2', g3'⟩, q6, q7, q8, q9, q10, q11, ⟨ns, s1, s2, s3⟩, q13⟩ := id pa
  have f518 : zF z 518 a = nI ns := q9.trans s2
  have ga := okE (show a < zn z by omega) k0
  by_cases h8 : ns = 8
  · have c : ¬ nI ns < 8 := by rw [h8]; decide
    have c2 : nI ns = 8 := by rw [h8]; rfl
    refine ⟨-4, z, z, ?_, of_eq_true (o17 hS), ?_, hI⟩
    · simp only [fX11_step_39, fX11_step, fX9_isFull, gdT, brTr, brFa, br_00, br_10, bd_e, bo_s, bp_s, cs_s, cs_n, lf_s, o0 hS, o1 hS, o2 hS, o3 hS, o4 hS, o5 hS, o6 hS, o7 hS, o8 hS, o9 hS, o10 hS, o11 hS, o12 hS, o13 hS, o14 hS, o15 hS, o16 hS, o17 hS, o18 hS, o19 hS, o20 hS, o21 hS, o22 hS, o23 hS, o24 hS, o25 hS, o26 hS, o27 hS, o28 hS, o29 hS, o30 hS, o31 hS, o32 hS, o33 hS, o34 hS, o35 hS, o36 hS, o37 hS, o38 hS, o39 hS, o40 hS, o41 hS, o42 hS, o43 hS, o44 hS, o45 hS, o46 hS, o47 hS, l2 hS, l3 hS, l4 hS, l5 hS, l7 hS, l8 hS, l10 hS, l12 hS, l14 hS, l15 hS, l16 hS, l18 hS, l19 hS, l20 hS, l21 hS, l22 hS, l23 hS, l24 hS, l25 hS, l26 hS, l27 hS, l28 hS, l29 hS, l30 hS, l31 hS, l32 hS, l33 hS, l34 hS, l35 hS, l36 hS, l37 hS, l38 hS, l39 hS, l40 hS, l41 hS, l42 hS, l43 hS, l44 hS, l45 hS, l46 hS, l47 hS, g640 hS, g641 hS, g642 hS, g643 hS, g644 hS, g645 hS, g128 hS, g129 hS, g130 hS, g131 hS, g384 hS, g385 hS, g256 hS, g576 hS, g192 hS, g193 hS, g707 hS, g708 hS, g709 hS, g710 hS, g712 hS, g713 hS, g714 hS, g715 hS, g716 hS, g720 hS, g721 hS, g722 hS, g723 hS, g724 hS, g725 hS, g726 hS, g728 hS, g729 hS, g730 hS, g731 hS, g732 hS, g733 hS, g734 hS, g735 hS, g736 hS, g737 hS, g738 hS, g740 hS, g751 hS, g752 hS, hta, out_0 ov2, out_0 ov3, ga, f518, br_n c]
    · simp only [fX12_step_42, fX12_step, gdT, brTr, brFa, br_00, br_10, bd_e, bo_s, bp_s, cs_s, cs_n, lf_s, o0 hS, o1 hS, o2 hS, o3 hS, o4 hS, o5 hS, o6 hS, o7 hS, o8 hS, o9 hS, o10 hS, o11 hS, o12 hS, o13 hS, o14 hS, o15 hS, o16 hS, o17 hS, o18 hS, o19 hS, o20 hS, o21 hS, o22 hS, o23 hS, o24 hS, o25 hS, o26 hS, o27 hS, o28 hS, o29 hS, o30 hS, o31 hS, o32 hS, o33 hS, o34 hS, o35 hS, o36 hS, o37 hS, o38 hS, o39 hS, o40 hS, o41 hS, o42 hS, o43 hS, o44 hS, o45 hS, o46 hS, o47 hS, l2 hS, l3 hS, l4 hS, l5 hS, l7 hS, l8 hS, l10 hS, l12 hS, l14 hS, l15 hS, l16 hS, l18 hS, l19 hS, l20 hS, l21 hS, l22 hS, l23 hS, l24 hS, l25 hS, l26 hS, l27 hS, l28 hS, l29 hS, l30 hS, l31 hS, l32 hS, l33 hS, l34 hS, l35 hS, l36 hS, l37 hS, l38 hS, l39 hS, l40 hS, l41 hS, l42 hS, l43 hS, l44 hS, l45 hS, l46 hS, l47 hS, g640 hS, g641 hS, g642 hS, g643 hS, g644 hS, g645 hS, g128 hS, g129 hS, g130 hS, g131 hS, g384 hS, g385 hS, g256 hS, g576 hS, g192 hS, g193 hS, g707 hS, g708 hS, g709 hS, g710 hS, g712 hS, g713 hS, g714 hS, g715 hS, g716 hS, g720 hS, g721 hS, g722 hS, g723 hS, g724 hS, g725 hS, g726 hS, g728 hS, g729 hS, g730 hS, g731 hS, g732 hS, g733 hS, g734 hS, g735 hS, g736 hS, g737 hS, g738 hS, g740 hS, g751 hS, g752 hS, n1, in_1 (A := 0) (B := (nI nt - 1).toInt64) (a := 0) (b := nI nt - 1) rfl rfl u0, in_1 (A := 0) (B := 1000) (a := 0) (b := 1000) rfl rfl ov2, in_1 (A := 1) (B := 1000) (a := 1) (b := 1000) rfl rfl ov3, inb (show t < 6 by omega) (by decide), nI_clamp (show t < 2 ^ 31 by omega), s2, br_y c2]
  have hns : ns < 8 := by omega
  have c : nI ns < 8 := by rw [show (8 : Int32) = nI 8 from rfl]; exact nI_lt hns (by decide)
  have hA := addStep_e (N := N) (p := nI p) (o := nI o) q1 q2 k0 k2 k3 l2' l3' g2' g3' f518 hns
  have hS1 : Sh (stZ1 z a ns (nI p) (nI o)) := hS.sA.sA.sF
  have ga1 : (a < zn (stZ1 z a ns (nI p) (nI o)) ∧ zK (stZ1 z a ns (nI p) (nI o)) a = 8) = True := okE (by simp only [stZ1, eF_zn, eF_zK, eF_zL, eF_s, eF_n, eF_zG, eF_zA, eF_zJ, eF_zR, eG_zn, eG_zK, eG_zL, eG_zF, eG_s, eG_n, eG_zA, eG_zJ, eG_zR, eA_zn, eA_zK, eA_zL, eA_zF, eA_zG, eA_s, eA_n, eA_zJ, eA_zR, eJ_zn, eJ_zK, eJ_zL, eJ_zF, eJ_zG, eJ_zA, eJ_s, eJ_n, eJ_zR, eR_zn, eR_zK, eR_zL, eR_zF, eR_zG, eR_zA, eR_zJ, eR_s, eR_n]; omega) (by simp only [stZ1, eF_zn, eF_zK, eF_zL, eF_s, eF_n, eF_zG, eF_zA, eF_zJ, eF_zR, eG_zn, eG_zK, eG_zL, eG_zF, eG_s, eG_n, eG_zA, eG_zJ, eG_zR, eA_zn, eA_zK, eA_zL, eA_zF, eA_zG, eA_s, eA_n, eA_zJ, eA_zR, eJ_zn, eJ_zK, eJ_zL, eJ_zF, eJ_zG, eJ_zA, eJ_s, eJ_n, eJ_zR, eR_zn, eR_zK, eR_zL, eR_zF, eR_zG, eR_zA, eR_zJ, eR_s, eR_n]; exact k0)
  have f1 : zF (stZ1 z a ns (nI p) (nI o)) 518 a = nI (ns + 1) := by simp only [stZ1, eF_zn, eF_zK, eF_zL, eF_s, eF_n, eF_zG, eF_zA, eF_zJ, eF_zR, eG_zn, eG_zK, eG_zL, eG_zF, eG_s, eG_n, eG_zA, eG_zJ, eG_zR, eA_zn, eA_zK, eA_zL, eA_zF, eA_zG, eA_s, eA_n, eA_zJ, eA_zR, eJ_zn, eJ_zK, eJ_zL, eJ_zF, eJ_zG, eJ_zA, eJ_s, eJ_n, eJ_zR, eR_zn, eR_zK, eR_zL, eR_zF, eR_zG, eR_zA, eR_zJ, eR_s, eR_n, va_up_self]
  refine ⟨nI (ns + 1), stZ1 z a ns (nI p) (nI o), stZ2 (stZ1 z a ns (nI p) (nI o)) t ns (nI p) (nI o), ?_, of_eq_true (o17 hS1), ?_, step_keep hS hsc hst hn hhv hrec hbk hgr hgf hmk htx htn ht ea hns s2 hp ho1 ho2⟩
  · simp only [fX11_step_39, fX11_step, fX9_isFull, gdT, brTr, brFa, br_00, br_10, bd_e, bo_s, bp_s, cs_s, cs_n, lf_s, o0 hS, o1 hS, o2 hS, o3 hS, o4 hS, o5 hS, o6 hS, o7 hS, o8 hS, o9 hS, o10 hS, o11 hS, o12 hS, o13 hS, o14 hS, o15 hS, o16 hS, o17 hS, o18 hS, o19 hS, o20 hS, o21 hS, o22 hS, o23 hS, o24 hS, o25 hS, o26 hS, o27 hS, o28 hS, o29 hS, o30 hS, o31 hS, o32 hS, o33 hS, o34 hS, o35 hS, o36 hS, o37 hS, o38 hS, o39 hS, o40 hS, o41 hS, o42 hS, o43 hS, o44 hS, o45 hS, o46 hS, o47 hS, l2 hS, l3 hS, l4 hS, l5 hS, l7 hS, l8 hS, l10 hS, l12 hS, l14 hS, l15 hS, l16 hS, l18 hS, l19 hS, l20 hS, l21 hS, l22 hS, l23 hS, l24 hS, l25 hS, l26 hS, l27 hS, l28 hS, l29 hS, l30 hS, l31 hS, l32 hS, l33 hS, l34 hS, l35 hS, l36 hS, l37 hS, l38 hS, l39 hS, l40 hS, l41 hS, l42 hS, l43 hS, l44 hS, l45 hS, l46 hS, l47 hS, g640 hS, g641 hS, g642 hS, g643 hS, g644 hS, g645 hS, g128 hS, g129 hS, g130 hS, g131 hS, g384 hS, g385 hS, g256 hS, g576 hS, g192 hS, g193 hS, g707 hS, g708 hS, g709 hS, g710 hS, g712 hS, g713 hS, g714 hS, g715 hS, g716 hS, g720 hS, g721 hS, g722 hS, g723 hS, g724 hS, g725 hS, g726 hS, g728 hS, g729 hS, g730 hS, g731 hS, g732 hS, g733 hS, g734 hS, g735 hS, g736 hS, g737 hS, g738 hS, g740 hS, g751 hS, g752 hS, hta, out_0 ov2, out_0 ov3, ga, f518, br_y c, hA, ga1, f1]
  · refine stepM_e hS1 ?_ n3 ht ?_ hns hp ho1 ho2
    · simp only [stZ1, eF_zn, eF_zK, eF_zL, eF_s, eF_n, eF_zG, eF_zA, eF_zJ, eF_zR, eG_zn, eG_zK, eG_zL, eG_zF, eG_s, eG_n, eG_zA, eG_zJ, eG_zR, eA_zn, eA_zK, eA_zL, eA_zF, eA_zG, eA_s, eA_n, eA_zJ, eA_zR, eJ_zn, eJ_zK, eJ_zL, eJ_zF, eJ_zG, eJ_zA, eJ_s, eJ_n, eJ_zR, eR_zn, eR_zK, eR_zL, eR_zF, eR_zG, eR_zA, eR_zJ, eR_s, eR_n, ne_eq, not_false_eq_true, not_true_eq_false, reduceCtorEq, Nat.reduceEqDiff]; exact n1
    · unfold stZ1
      rw [eF_zA, eA_n _ _ _ _ (by omega), eA_n _ _ _ _ (by omega)]
      exact s2
