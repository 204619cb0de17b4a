theorem eFs {z : Hp} {f a : Nat} {v : Int32} : zF (zsF z f a v) f a = v := by rw [eF_s, va_up_self]
theorem eFn {z : Hp} {f a g b : Nat} {v : Int32} (h : g ≠ f) : zF (zsF z f a v) g b = zF z g b := by rw [eF_n _ _ _ _ h]
/-- what go reads and writes -/
def Gz (z : Hp) (A14 A15 : Nat → Int32) (nw : Int32) (mo ea ra sc : Nat) (hc tc : Int32) (sm : Nat) (hm : Int32) (tm wm hr : Nat) : Prop :=
  (zA z 14 = A14 ∧ zA z 15 = A15) ∧ zF z 647 0 = nw ∧ zF z 747 17 = nI mo ∧ zF z 748 17 = nI ea ∧ zF z 749 17 = nI ra ∧ zF z 196 13 = nI mo ∧ zF z 197 13 = nI ea ∧ zF z 198 13 = nI ra ∧ zF z 195 13 = nI sc ∧ zF z 199 13 = hc ∧ zF z 194 13 = tc ∧ zF z 746 17 = nI sm ∧ zF z 750 17 = hm ∧ zF z 753 17 = nI tm ∧ zF z 704 17 = nI wm ∧ zF z 705 17 = nI hr
theorem Gz.s195 {z : Hp} {A14 A15 : Nat → Int32} {nw : Int32} {mo ea ra sc : Nat} {hc tc : Int32} {sm : Nat} {hm : Int32} {tm wm hr : Nat} {x : Nat} (h : Gz z A14 A15 nw mo ea ra sc hc tc sm hm tm wm hr) : Gz (zsF z 195 13 (nI x)) A14 A15 nw mo ea ra x hc tc sm hm tm wm hr := by
  obtain ⟨⟨a1, a2⟩, b0, b1, b2, b3, b4, b5, b6, b7, b8, b9, b10, b11, b12, b13, b14⟩ := h
  exact ⟨⟨(congrFun (eF_zA z _ _ _) 14).trans a1, (congrFun (eF_zA z _ _ _) 15).trans a2⟩, (eFn (by decide)).trans b0, (eFn (by decide)).trans b1, (eFn (by decide)).trans b2, (eFn (by decide)).trans b3, (eFn (by decide)).trans b4, (eFn (by decide)).trans b5, (eFn (by decide)).trans b6, eFs, (eFn (by decide)).trans b8, (eFn (by decide)).trans b9, (eFn (by decide)).trans b10, (eFn (by decide)).trans b11, (eFn (by decide)).trans b12, (eFn (by decide)).trans b13, (eFn (by decide)).trans b14⟩
theorem Gz.s199 {z : Hp} {A14 A15 : Nat → Int32} {nw : Int32} {mo ea ra sc : Nat} {hc tc : Int32} {sm : Nat} {hm : Int32} {tm wm hr : Nat} {x : Int32} (h : Gz z A14 A15 nw mo ea ra sc hc tc sm hm tm wm hr) : Gz (zsF z 199 13 (x)) A14 A15 nw mo ea ra sc x tc sm hm tm wm hr := by
  obtain ⟨⟨a1, a2⟩, b0, b1, b2, b3, b4, b5, b6, b7, b8, b9, b10, b11, b12, b13, b14⟩ := h
  exact ⟨⟨(congrFun (eF_zA z _ _ _) 14).trans a1, (congrFun (eF_zA z _ _ _) 15).trans a2⟩, (eFn (by decide)).trans b0, (eFn (by decide)).trans b1, (eFn (by decide)).trans b2, (eFn (by decide)).trans b3, (eFn (by decide)).trans b4, (eFn (by decide)).trans b5, (eFn (by decide)).trans b6, (eFn (by decide)).trans b7, eFs, (eFn (by decide)).trans b9, (eFn (by decide)).trans b10, (eFn (by decide)).trans b11, (eFn (by decide)).trans b12, (eFn (by decide)).trans b13, (eFn (by decide)).trans b14⟩
theorem Gz.s194 {z : Hp} {A14 A15 : Nat → Int32} {nw : Int32} {mo ea ra sc : Nat} {hc tc : Int32} {sm : Nat} {hm : Int32} {tm wm hr : Nat} {x : Int32} (h : Gz z A14 A15 nw mo ea ra sc hc tc sm hm tm wm hr) : Gz (zsF z 194 13 (x)) A14 A15 nw mo ea ra sc hc x sm hm tm wm hr := by
  obtain ⟨⟨a1, a2⟩, b0, b1, b2, b3, b4, b5, b6, b7, b8, b9, b10, b11, b12, b13, b14⟩ := h
  exact ⟨⟨(congrFun (eF_zA z _ _ _) 14).trans a1, (congrFun (eF_zA z _ _ _) 15).trans a2⟩, (eFn (by decide)).trans b0, (eFn (by decide)).trans b1, (eFn (by decide)).trans b2, (eFn (by decide)).trans b3, (eFn (by decide)).trans b4, (eFn (by decide)).trans b5, (eFn (by decide)).trans b6, (eFn (by decide)).trans b7, (eFn (by decide)).trans b8, eFs, (eFn (by decide)).trans b10, (eFn (by decide)).trans b11, (eFn (by decide)).trans b12, (eFn (by decide)).trans b13, (eFn (by decide)).trans b14⟩
theorem Gz.s746 {z : Hp} {A14 A15 : Nat → Int32} {nw : Int32} {mo ea ra sc : Nat} {hc tc : Int32} {sm : Nat} {hm : Int32} {tm wm hr : Nat} {x : Nat} (h : Gz z A14 A15 nw mo ea ra sc hc tc sm hm tm wm hr) : Gz (zsF z 746 17 (nI x)) A14 A15 nw mo ea ra sc hc tc x hm tm wm hr := by
  obtain ⟨⟨a1, a2⟩, b0, b1, b2, b3, b4, b5, b6, b7, b8, b9, b10, b11, b12, b13, b14⟩ := h
  exact ⟨⟨(congrFun (eF_zA z _ _ _) 14).trans a1, (congrFun (eF_zA z _ _ _) 15).trans a2⟩, (eFn (by decide)).trans b0, (eFn (by decide)).trans b1, (eFn (by decide)).trans b2, (eFn (by decide)).trans b3, (eFn (by decide)).trans b4, (eFn (by decide)).trans b5, (eFn (by decide)).trans b6, (eFn (by decide)).trans b7, (eFn (by decide)).trans b8, (eFn (by decide)).trans b9, eFs, (eFn (by decide)).trans b11, (eFn (by decide)).trans b12, (eFn (by decide)).trans b13, (eFn (by decide)).trans b14⟩
theorem Gz.s750 {z : Hp} {A14 A15 : Nat → Int32} {nw : Int32} {mo ea ra sc : Nat} {hc tc : Int32} {sm : Nat} {hm : Int32} {tm wm hr : Nat} {x : Int32} (h : Gz z A14 A15 nw mo ea ra sc hc tc sm hm tm wm hr) : Gz (zsF z 750 17 (x)) A14 A15 nw mo ea ra sc hc tc sm x tm wm hr := by
  obtain ⟨⟨a1, a2⟩, b0, b1, b2, b3, b4, b5, b6, b7, b8, b9, b10, b11, b12, b13, b14⟩ := h
  exact ⟨⟨(congrFun (eF_zA z _ _ _) 14).trans a1, (congrFun (eF_zA z _ _ _) 15).trans a2⟩, (eFn (by decide)).trans b0, (eFn (by decide)).trans b1, (eFn (by decide)).trans b2, (eFn (by decide)).trans b3, (eFn (by decide)).trans b4, (eFn (by decide)).trans b5, (eFn (by decide)).trans b6, (eFn (by decide)).trans b7, (eFn (by decide)).trans b8, (eFn (by decide)).trans b9, (eFn (by decide)).trans b10, eFs, (eFn (by decide)).trans b12, (eFn (by decide)).trans b13, (eFn (by decide)).trans b14⟩
theorem Gz.s753 {z : Hp} {A14 A15 : Nat → Int32} {nw : Int32} {mo ea ra sc : Nat} {hc tc : Int32} {sm : Nat} {hm : Int32} {tm wm hr : Nat} {x : Nat} (h : Gz z A14 A15 nw mo ea ra sc hc tc sm hm tm wm hr) : Gz (zsF z 753 17 (nI x)) A14 A15 nw mo ea ra sc hc tc sm hm x wm hr := by
  obtain ⟨⟨a1, a2⟩, b0, b1, b2, b3, b4, b5, b6, b7, b8, b9, b10, b11, b12, b13, b14⟩ := h
  exact ⟨⟨(congrFun (eF_zA z _ _ _) 14).trans a1, (congrFun (eF_zA z _ _ _) 15).trans a2⟩, (eFn (by decide)).trans b0, (eFn (by decide)).trans b1, (eFn (by decide)).trans b2, (eFn (by decide)).trans b3, (eFn (by decide)).trans b4, (eFn (by decide)).trans b5, (eFn (by decide)).trans b6, (eFn (by decide)).trans b7, (eFn (by decide)).trans b8, (eFn (by decide)).trans b9, (eFn (by decide)).trans b10, (eFn (by decide)).trans b11, eFs, (eFn (by decide)).trans b13, (eFn (by decide)).trans b14⟩
theorem Gz.s704 {z : Hp} {A14 A15 : Nat → Int32} {nw : Int32} {mo ea ra sc : Nat} {hc tc : Int32} {sm : Nat} {hm : Int32} {tm wm hr : Nat} {x : Nat} (h : Gz z A14 A15 nw mo ea ra sc hc tc sm hm tm wm hr) : Gz (zsF z 704 17 (nI x)) A14 A15 nw mo ea ra sc hc tc sm hm tm x hr := by
  obtain ⟨⟨a1, a2⟩, b0, b1, b2, b3, b4, b5, b6, b7, b8, b9, b10, b11, b12, b13, b14⟩ := h
  exact ⟨⟨(congrFun (eF_zA z _ _ _) 14).trans a1, (congrFun (eF_zA z _ _ _) 15).trans a2⟩, (eFn (by decide)).trans b0, (eFn (by decide)).trans b1, (eFn (by decide)).trans b2, (eFn (by decide)).trans b3, (eFn (by decide)).trans b4, (eFn (by decide)).trans b5, (eFn (by decide)).trans b6, (eFn (by decide)).trans b7, (eFn (by decide)).trans b8, (eFn (by decide)).trans b9, (eFn (by decide)).trans b10, (eFn (by decide)).trans b11, (eFn (by decide)).trans b12, eFs, (eFn (by decide)).trans b14⟩
theorem Gz.s705 {z : Hp} {A14 A15 : Nat → Int32} {nw : Int32} {mo ea ra sc : Nat} {hc tc : Int32} {sm : Nat} {hm : Int32} {tm wm hr : Nat} {x : Nat} (h : Gz z A14 A15 nw mo ea ra sc hc tc sm hm tm wm hr) : Gz (zsF z 705 17 (nI x)) A14 A15 nw mo ea ra sc hc tc sm hm tm wm x := by
  obtain ⟨⟨a1, a2⟩, b0, b1, b2, b3, b4, b5, b6, b7, b8, b9, b10, b11, b12, b13, b14⟩ := h
  exact ⟨⟨(congrFun (eF_zA z _ _ _) 14).trans a1, (congrFun (eF_zA z _ _ _) 15).trans a2⟩, (eFn (by decide)).trans b0, (eFn (by decide)).trans b1, (eFn (by decide)).trans b2, (eFn (by decide)).trans b3, (eFn (by decide)).trans b4, (eFn (by decide)).trans b5, (eFn (by decide)).trans b6, (eFn (by decide)).trans b7, (eFn (by decide)).trans b8, (eFn (by decide)).trans b9, (eFn (by decide)).trans b10, (eFn (by decide)).trans b11, (eFn (by decide)).trans b12, (eFn (by decide)).trans b13, eFs⟩
theorem Gz.s647 {z : Hp} {A14 A15 : Nat → Int32} {nw : Int32} {mo ea ra sc : Nat} {hc tc : Int32} {sm : Nat} {hm : Int32} {tm wm hr : Nat} {x : Int32} (h : Gz z A14 A15 nw mo ea ra sc hc tc sm hm tm wm hr) : Gz (zsF z 647 0 (x)) A14 A15 x mo ea ra sc hc tc sm hm tm wm hr := by
  obtain ⟨⟨a1, a2⟩, b0, b1, b2, b3, b4, b5, b6, b7, b8, b9, b10, b11, b12, b13, b14⟩ := h
  exact ⟨⟨(congrFun (eF_zA z _ _ _) 14).trans a1, (congrFun (eF_zA z _ _ _) 15).trans a2⟩, eFs, (eFn (by decide)).trans b1, (eFn (by decide)).trans b2, (eFn (by decide)).trans b3, (eFn (by decide)).trans b4, (eFn (by decide)).trans b5, (eFn (by decide)).trans b6, (eFn (by decide)).trans b7, (eFn (by decide)).trans b8, (eFn (by decide)).trans b9, (eFn (by decide)).trans b10, (eFn (by decide)).trans b11, (eFn (by decide)).trans b12, (eFn (by decide)).trans b13, (eFn (by decide)).trans b14⟩
theorem Gz.a46 {z : Hp} {A14 A15 : Nat → Int32} {nw : Int32} {mo ea ra sc : Nat} {hc tc : Int32} {sm : Nat} {hm : Int32} {tm wm hr : Nat} {i : Nat} {x : Int32} (h : Gz z A14 A15 nw mo ea ra sc hc tc sm hm tm wm hr) : Gz (zsA z 46 i x) A14 A15 nw mo ea ra sc hc tc sm hm tm wm hr := by
  obtain ⟨⟨a1, a2⟩, b⟩ := h
  refine ⟨⟨(eA_n z _ _ _ (by decide)).trans a1, (eA_n z _ _ _ (by decide)).trans a2⟩, ?_⟩
  simp only [eA_zF]
  exact b
theorem Gz.a47 {z : Hp} {A14 A15 : Nat → Int32} {nw : Int32} {mo ea ra sc : Nat} {hc tc : Int32} {sm : Nat} {hm : Int32} {tm wm hr : Nat} {i : Nat} {x : Int32} (h : Gz z A14 A15 nw mo ea ra sc hc tc sm hm tm wm hr) : Gz (zsA z 47 i x) A14 A15 nw mo ea ra sc hc tc sm hm tm wm hr := by
  obtain ⟨⟨a1, a2⟩, b⟩ := h
  refine ⟨⟨(eA_n z _ _ _ (by decide)).trans a1, (eA_n z _ _ _ (by decide)).trans a2⟩, ?_⟩
  simp only [eA_zF]
  exact b
/-- what go leaves alone -/
def Rnum (z : Hp) (nb nr ng gv nt : Nat) : Prop := (zF z 706 17 = nI nb ∧ zF z 646 0 = nI nb ∧ nb ≤ 8) ∧ (zF z 711 17 = nI nr ∧ zF z 132 1 = nI nr ∧ nr ≤ 200) ∧ (zF z 717 17 = nI ng ∧ zF z 133 1 = nI ng ∧ ng ≤ nr) ∧ (zF z 727 17 = nI gv ∧ zF z 134 1 = nI gv) ∧ (zF z 739 17 = nI nt ∧ zF z 257 9 = nI nt ∧ nt ≤ 6)
def Rest (z : Hp) (t nb nr ng gv nt : Nat) : Prop := Sh z ∧ I_sc z ∧ Rnum z nb nr ng gv nt ∧ I_rec z t nb nr gv ∧ I_bk z nb nr ∧ I_gr z nr ng ∧ I_gf z nr gv ∧ I_mk z nr ∧ I_tx z nt ∧ I_tn z nb
theorem Rnum.sF {z : Hp} {f a : Nat} {v : Int32} {nb nr ng gv nt : Nat} (h : Rnum z nb nr ng gv nt) (hf : f ∉ [706, 646, 711, 132, 717, 133, 727, 134, 739, 257]) : Rnum (zsF z f a v) nb nr ng gv nt := by
  have e : ∀ g, g ∈ [706, 646, 711, 132, 717, 133, 727, 134, 739, 257] → zF (zsF z f a v) g = zF z g := fun g hg => eF_n z f a v (fun q => hf (q ▸ hg))
  simp only [Rnum] at h ⊢
  simp only [e 706 (by decide), e 646 (by decide), e 711 (by decide), e 132 (by decide), e 717 (by decide), e 133 (by decide), e 727 (by decide), e 134 (by decide), e 739 (by decide), e 257 (by decide)]
  exact h
theorem Rnum.sA {z : Hp} {f a : Nat} {v : Int32} {nb nr ng gv nt : Nat} (h : Rnum z nb nr ng gv nt) : Rnum (zsA z f a v) nb nr ng gv nt := h
theorem Rest.sF {z : Hp} {f a : Nat} {v : Int32} {t nb nr ng gv nt : Nat} (h : Rest z t nb nr ng gv nt) (hf : f ∈ [194, 195, 199, 647, 704, 705, 746, 750, 753]) : Rest (zsF z f a v) t nb nr ng gv nt := by
  obtain ⟨hS, hsc, hnu, hrec, hbk, hgr, hgf, hmk, htx, htn⟩ := h
  have d1 : ∀ f : Nat, f ∈ [194, 195, 199, 647, 704, 705, 746, 750, 753] → f ∉ [718, 648, 651, 719, 649, 744, 650, 745, 579, 743] := by decide
  have d2 : ∀ f : Nat, f ∈ [194, 195, 199, 647, 704, 705, 746, 750, 753] → f ∉ [706, 646, 711, 132, 717, 133, 727, 134, 739, 257] := by decide
  have d3 : ∀ f : Nat, f ∈ [194, 195, 199, 647, 704, 705, 746, 750, 753] → f ∉ [768, 769, 770, 771, 324, 325, 326, 327, 68, 69, 70, 71, 72, 452, 453, 454, 455, 456, 457] := by decide
  have d4 : ∀ f : Nat, f ∈ [194, 195, 199, 647, 704, 705, 746, 750, 753] → f ∉ [0, 1, 2, 3, 4, 5, 6] := by decide
  have d5 : ∀ f : Nat, f ∈ [194, 195, 199, 647, 704, 705, 746, 750, 753] → f ∉ [512, 513, 514, 518] := by decide
  have d6 : ∀ f : Nat, f ∈ [194, 195, 199, 647, 704, 705, 746, 750, 753] → f ∉ [741, 742, 577, 578] := by decide
  exact ⟨hS.sF, hsc.sF (d1 f hf), hnu.sF (d2 f hf), hrec.sF (d3 f hf), hbk.sF (d4 f hf), hgr.sF, hgf.sF, hmk.sF, htx.sF (d5 f hf), htn.sF (d6 f hf)⟩
theorem Rest.sA {z : Hp} {f a : Nat} {v : Int32} {t nb nr ng gv nt : Nat} (h : Rest z t nb nr ng gv nt) (hf : f = 46 ∨ f = 47) : Rest (zsA z f a v) t nb nr ng gv nt := by
  obtain ⟨hS, hsc, hnu, hrec, hbk, hgr, hgf, hmk, htx, htn⟩ := h
  rcases hf with rfl | rfl
  · exact ⟨hS.sA, hsc.sA, hnu.sA, hrec.sA (by decide), hbk.sA (by decide), hgr.sA (by decide), hgf.sA (by decide), hmk.sA (by decide), htx.sA (by decide) (by decide), htn.sA (by decide)⟩
  · exact ⟨hS.sA, hsc.sA, hnu.sA, hrec.sA (by decide), hbk.sA (by decide), hgr.sA (by decide), hgf.sA (by decide), hmk.sA (by decide), htx.sA (by decide) (by decide), htn.sA (by decide)⟩
theorem I_rec.up {z : Hp} {t t' nb nr gv : Nat} (h : I_rec z t nb nr gv) (ht : t ≤ t') : I_rec z t' nb nr gv := by
  obtain ⟨h1, h2, h3⟩ := h
  refine ⟨fun i hi => ?_, h2, h3⟩
  obtain ⟨a, e, q1, q2, q3, q4, q5, ⟨wi, hi', p1, p2, p3, p4, p5, p6⟩, q7⟩ := h1 i hi
  exact ⟨a, e, q1, q2, q3, q4, q5, ⟨wi, hi', p1, p2, p3, p4, p5, by omega⟩, q7⟩
theorem nI_gt0' {n : Nat} (h0 : 0 < n) (h : n < 2 ^ 31) : 0 < nI n := by rw [show (0 : Int32) = nI 0 from rfl]; exact nI_lt h0 h
theorem subMax {s d : Nat} (hs : s ≤ 100000000) (hd : d ≤ 1000000000) : (if (0 : Int32) < nI s - nI d then nI s - nI d else (0 : Int32)) = nI (s - d) := by
  by_cases h : d ≤ s
  · rw [pk_sub h]
    by_cases h0 : 0 < s - d
    · rw [if_pos (nI_gt0' h0 (by omega))]
    · rw [show s - d = 0 by omega, if_neg (by decide)]
      rfl
  · have e : ¬ (0 : Int32) < nI s - nI d := by
      rw [Int32.lt_iff_toInt_lt, Int32.toInt_sub, nI_toInt (by omega), nI_toInt (by omega), Int.bmod_def]
      simp only [Int32.toInt_zero]
      omega
    rw [if_neg e, show s - d = 0 by omega]
    rfl
theorem endC {N d sc : Nat} {z : Hp} (hS : Sh z) (e : zF z 195 13 = nI sc) (hs : sc ≤ 100000000) (hd : d ≤ 1000000000) : fX4_endWeek_27 N 13 (nI d) z = some (zsF z 195 13 (nI (sc - d))) := by
  simp only [fX4_endWeek_27, gdT, brTr, brFa, br_00, br_10, bd_e, bo_s, bp_s, cs_s, cs_n, lf_s, o0 hS, o1 hS, o2 hS, o3 hS, o4 hS, o5 hS, o6 hS, o7 hS, o8 hS, o9 hS, o10 hS, o11 hS, o12 hS, o13 hS, o14 hS, o15 hS, o16 hS, o17 hS, o18 hS, o19 hS, o20 hS, o21 hS, o22 hS, o23 hS, o24 hS, o25 hS, o26 hS, o27 hS, o28 hS, o29 hS, o30 hS, o31 hS, o32 hS, o33 hS, o34 hS, o35 hS, o36 hS, o37 hS, o38 hS, o39 hS, o40 hS, o41 hS, o42 hS, o43 hS, o44 hS, o45 hS, o46 hS, o47 hS, l2 hS, l3 hS, l4 hS, l5 hS, l7 hS, l8 hS, l10 hS, l12 hS, l14 hS, l15 hS, l16 hS, l18 hS, l19 hS, l20 hS, l21 hS, l22 hS, l23 hS, l24 hS, l25 hS, l26 hS, l27 hS, l28 hS, l29 hS, l30 hS, l31 hS, l32 hS, l33 hS, l34 hS, l35 hS, l36 hS, l37 hS, l38 hS, l39 hS, l40 hS, l41 hS, l42 hS, l43 hS, l44 hS, l45 hS, l46 hS, l47 hS, g640 hS, g641 hS, g642 hS, g643 hS, g644 hS, g645 hS, g128 hS, g129 hS, g130 hS, g131 hS, g384 hS, g385 hS, g256 hS, g576 hS, g192 hS, g193 hS, g707 hS, g708 hS, g709 hS, g710 hS, g712 hS, g713 hS, g714 hS, g715 hS, g716 hS, g720 hS, g721 hS, g722 hS, g723 hS, g724 hS, g725 hS, g726 hS, g728 hS, g729 hS, g730 hS, g731 hS, g732 hS, g733 hS, g734 hS, g735 hS, g736 hS, g737 hS, g738 hS, g740 hS, g751 hS, g752 hS, e, subMax hs hd]
theorem beginC {N sc v s : Nat} {z : Hp} (hS : Sh z) (e : zF z 195 13 = nI sc) (hs : sc ≤ 100000000) (hv : v < 200) (e14 : zA z 14 v = nI s) (hs2 : s ≤ 100000000) : fX4_beginWeek N 13 (nI v) z = some (zsF (zsF z 195 13 (nI (min 100000000 (sc + s)))) 194 13 (zF z 194 13 - zA z 15 v)) := by
  have c1 : ¬ nI v < 0 := nI_pos (by omega)
  have c2 : ¬ (200 : Int32) ≤ nI v := by rw [show (200 : Int32) = nI 200 from rfl, nI_leI (by decide) (by omega)]; omega
  simp only [fX4_beginWeek, fX4_beginWeek_39, gdT, brTr, brFa, br_00, br_10, bd_e, bo_s, bp_s, cs_s, cs_n, lf_s, eF_zn, eF_zK, eF_zL, eF_s, eF_n, eF_zG, eF_zA, eF_zJ, eF_zR, eG_zn, eG_zK, eG_zL, eG_zF, eG_s, eG_n, eG_zA, eG_zJ, eG_zR, eA_zn, eA_zK, eA_zL, eA_zF, eA_zG, eA_s, eA_n, eA_zJ, eA_zR, eJ_zn, eJ_zK, eJ_zL, eJ_zF, eJ_zG, eJ_zA, eJ_s, eJ_n, eJ_zR, eR_zn, eR_zK, eR_zL, eR_zF, eR_zG, eR_zA, eR_zJ, eR_s, eR_n, ne_eq, not_false_eq_true, not_true_eq_false, reduceCtorEq, Nat.reduceEqDiff, o0 hS, o1 hS, o2 hS, o3 hS, o4 hS, o5 hS, o6 hS, o7 hS, o8 hS, o9 hS, o10 hS, o11 hS, o12 hS, o13 hS, o14 hS, o15 hS, o16 hS, o17 hS, o18 hS, o19 hS, o20 hS, o21 hS, o22 hS, o23 hS, o24 hS, o25 hS, o26 hS, o27 hS, o28 hS, o29 hS, o30 hS, o31 hS, o32 hS, o33 hS, o34 hS, o35 hS, o36 hS, o37 hS, o38 hS, o39 hS, o40 hS, o41 hS, o42 hS, o43 hS, o44 hS, o45 hS, o46 hS, o47 hS, l2 hS, l3 hS, l4 hS, l5 hS, l7 hS, l8 hS, l10 hS, l12 hS, l14 hS, l15 hS, l16 hS, l18 hS, l19 hS, l20 hS, l21 hS, l22 hS, l23 hS, l24 hS, l25 hS, l26 hS, l27 hS, l28 hS, l29 hS, l30 hS, l31 hS, l32 hS, l33 hS, l34 hS, l35 hS, l36 hS, l37 hS, l38 hS, l39 hS, l40 hS, l41 hS, l42 hS, l43 hS, l44 hS, l45 hS, l46 hS, l47 hS, g640 hS, g641 hS, g642 hS, g643 hS, g644 hS, g645 hS, g128 hS, g129 hS, g130 hS, g131 hS, g384 hS, g385 hS, g256 hS, g576 hS, g192 hS, g193 hS, g707 hS, g708 hS, g709 hS, g710 hS, g712 hS, g713 hS, g714 hS, g715 hS, g716 hS, g720 hS, g721 hS, g722 hS, g723 hS, g724 hS, g725 hS, g726 hS, g728 hS, g729 hS, g730 hS, g731 hS, g732 hS, g733 hS, g734 hS, g735 hS, g736 hS, g737 hS, g738 hS, g740 hS, g751 hS, g752 hS, e, withHarvest_e hS hv e14 hs hs2, br_n c1, br_n c2, inb hv (by decide), nI_clamp (show v < 2 ^ 31 by omega)]
theorem weekC {N : Nat} {z : Hp} {A14 A15 : Nat → Int32} {nw : Int32} {mo ea ra sc : Nat} {hc tc : Int32} {sm : Nat} {hm : Int32} {tm wm hr v s t nb nr ng gv nt : Nat} (hR : Rest z t nb nr ng gv nt) (hG : Gz z A14 A15 nw mo ea ra sc hc tc sm hm tm wm hr) (hmo : mo ≤ 10000) (hea : ea ≤ 1000) (hra : ra ≤ 100) (hs : sc ≤ 100000000) (hv : v < 200) (e14 : A14 v = nI s) (hs2 : s ≤ 100000000) :
    ∃ y z', fX4_endWeek N 13 z = some y ∧ Sh y ∧ fX4_beginWeek N 13 (nI v) y = some z' ∧ Rest z' t nb nr ng gv nt ∧ Gz z' A14 A15 nw mo ea ra (min 100000000 (sc - mo * ea * ra / 100 + s)) (if sc < mo * ea * ra / 100 then hc + 1 else hc) (tc - A15 v) sm hm tm wm hr ∧ zA z' 46 = zA z 46 ∧ zA z' 47 = zA z 47 := by
  have hb := mul3_le hmo hea hra
  have hS : Sh z := hR.1
  obtain ⟨⟨a1, a2⟩, bn, b0, b1, b2, b3, b4, b5, b6, b7, b8, -⟩ := id hG
  have hn := needWith_e (N := N) hS b3 b4 hmo hea hra
  generalize hd : mo * ea * ra / 100 = d at *
  have hd9 : d ≤ 1000000000 := by omega
  by_cases hh : sc < d
  · have c : ¬ nI d ≤ nI sc := nI_ge hh (by omega)
    have hS1 : Sh (zsF z 199 13 (hc + 1)) := hS.sF
    have q1 := (hG.s199 (x := hc + 1))
    have hE := endC (N := N) (d := d) hS1 (by rw [eFn (by decide)]; exact b6) hs hd9
    have hB := beginC (N := N) (v := v) (s := s) hS1.sF (sc := sc - d) eFs (by omega) hv ((congrFun (congrFun (eF_zA _ _ _ _) 14) v).trans ((congrFun (congrFun (eF_zA _ _ _ _) 14) v).trans (by rw [a1]; exact e14))) hs2
    refine ⟨_, _, ?_, hS1.sF, hB, ((hR.sF (by decide)).sF (by decide)).sF (by decide) |>.sF (by decide), ?_, rfl, rfl⟩
    · simp only [fX4_endWeek, gdT, brTr, brFa, br_00, br_10, bd_e, bo_s, bp_s, cs_s, cs_n, lf_s, o0 hS, o1 hS, o2 hS, o3 hS, o4 hS, o5 hS, o6 hS, o7 hS, o8 hS, o9 hS, o10 hS, o11 hS, o12 hS, o13 hS, o14 hS, o15 hS, o16 hS, o17 hS, o18 hS, o19 hS, o20 hS, o21 hS, o22 hS, o23 hS, o24 hS, o25 hS, o26 hS, o27 hS, o28 hS, o29 hS, o30 hS, o31 hS, o32 hS, o33 hS, o34 hS, o35 hS, o36 hS, o37 hS, o38 hS, o39 hS, o40 hS, o41 hS, o42 hS, o43 hS, o44 hS, o45 hS, o46 hS, o47 hS, l2 hS, l3 hS, l4 hS, l5 hS, l7 hS, l8 hS, l10 hS, l12 hS, l14 hS, l15 hS, l16 hS, l18 hS, l19 hS, l20 hS, l21 hS, l22 hS, l23 hS, l24 hS, l25 hS, l26 hS, l27 hS, l28 hS, l29 hS, l30 hS, l31 hS, l32 hS, l33 hS, l34 hS, l35 hS, l36 hS, l37 hS, l38 hS, l39 hS, l40 hS, l41 hS, l42 hS, l43 hS, l44 hS, l45 hS, l46 hS, l47 hS, g640 hS, g641 hS, g642 hS, g643 hS, g644 hS, g645 hS, g128 hS, g129 hS, g130 hS, g131 hS, g384 hS, g385 hS, g256 hS, g576 hS, g192 hS, g193 hS, g707 hS, g708 hS, g709 hS, g710 hS, g712 hS, g713 hS, g714 hS, g715 hS, g716 hS, g720 hS, g721 hS, g722 hS, g723 hS, g724 hS, g725 hS, g726 hS, g728 hS, g729 hS, g730 hS, g731 hS, g732 hS, g733 hS, g734 hS, g735 hS, g736 hS, g737 hS, g738 hS, g740 hS, g751 hS, g752 hS, b5, hn, b6, b7, br_n c, hE]
    · have q2 := (q1.s195 (x := sc - d)).s195 (x := min 100000000 (sc - d + s))
      have q3 := q2.s194 (x := tc - A15 v)
      rw [if_pos hh]
      have ev : zF (zsF (zsF z 199 13 (hc + 1)) 195 13 (nI (sc - d))) 194 13 - zA (zsF (zsF z 199 13 (hc + 1)) 195 13 (nI (sc - d))) 15 v = tc - A15 v := by
        rw [eFn (by decide), eFn (by decide), eF_zA, eF_zA, b8, a2]
      rw [ev]
      exact q3
  · have c : nI d ≤ nI sc := nI_le (by omega) (by omega)
    have hE := endC (N := N) (d := d) hS b6 hs hd9
    have hB := beginC (N := N) (v := v) (s := s) hS.sF (sc := sc - d) eFs (by omega) hv ((congrFun (congrFun (eF_zA _ _ _ _) 14) v).trans (by rw [a1]; exact e14)) hs2
    refine ⟨_, _, ?_, hS.sF, hB, ((hR.sF (by decide)).sF (by decide)).sF (by decide), ?_, rfl, rfl⟩
    · simp only [fX4_endWeek, gdT, brTr, brFa, br_00, br_10, bd_e, bo_s, bp_s, cs_s, cs_n, lf_s, o0 hS, o1 hS, o2 hS, o3 hS, o4 hS, o5 hS, o6 hS, o7 hS, o8 hS, o9 hS, o10 hS, o11 hS, o12 hS, o13 hS, o14 hS, o15 hS, o16 hS, o17 hS, o18 hS, o19 hS, o20 hS, o21 hS, o22 hS, o23 hS, o24 hS, o25 hS, o26 hS, o27 hS, o28 hS, o29 hS, o30 hS, o31 hS, o32 hS, o33 hS, o34 hS, o35 hS, o36 hS, o37 hS, o38 hS, o39 hS, o40 hS, o41 hS, o42 hS, o43 hS, o44 hS, o45 hS, o46 hS, o47 hS, l2 hS, l3 hS, l4 hS, l5 hS, l7 hS, l8 hS, l10 hS, l12 hS, l14 hS, l15 hS, l16 hS, l18 hS, l19 hS, l20 hS, l21 hS, l22 hS, l23 hS, l24 hS, l25 hS, l26 hS, l27 hS, l28 hS, l29 hS, l30 hS, l31 hS, l32 hS, l33 hS, l34 hS, l35 hS, l36 hS, l37 hS, l38 hS, l39 hS, l40 hS, l41 hS, l42 hS, l43 hS, l44 hS, l45 hS, l46 hS, l47 hS, g640 hS, g641 hS, g642 hS, g643 hS, g644 hS, g645 hS, g128 hS, g129 hS, g130 hS, g131 hS, g384 hS, g385 hS, g256 hS, g576 hS, g192 hS, g193 hS, g707 hS, g708 hS, g709 hS, g710 hS, g712 hS, g713 hS, g714 hS, g715 hS, g716 hS, g720 hS, g721 hS, g722 hS, g723 hS, g724 hS, g725 hS, g726 hS, g728 hS, g729 hS, g730 hS, g731 hS, g732 hS, g733 hS, g734 hS, g735 hS, g736 hS, g737 hS, g738 hS, g740 hS, g751 hS, g752 hS, b5, hn, b6, br_y c, hE]
    · have q2 := (hG.s195 (x := sc - d)).s195 (x := min 100000000 (sc - d + s))
      have q3 := q2.s194 (x := tc - A15 v)
      rw [if_neg hh]
      have ev : zF (zsF z 195 13 (nI (sc - d))) 194 13 - zA (zsF z 195 13 (nI (sc - d))) 15 v = tc - A15 v := by
        rw [eFn (by decide), eF_zA, b8, a2]
      rw [ev]
      exact q3
def hgF (A B : Nat → Int32) (nh st w d : Nat) (h0 : Int32) : Nat → Int32
  | 0 => h0
  | j + 1 => if caF A B nh st w d j < d then hgF A B nh st w d h0 j + 1 else hgF A B nh st w d h0 j
def tcF (A : Nat → Int32) (nh w : Nat) : Nat → Int32
  | 0 => nI nh
  | j + 1 => tcF A nh w j - nI (hvC A (w + j + 1) nh)
theorem goC {N : Nat} {A B A14 A15 : Nat → Int32} {nw : Int32} {mo ea ra st nh w last th : Nat} {h0 : Int32} {sm : Nat} {hm : Int32} {tm wm hr t nb nr ng gv nt : Nat} (hmo : mo ≤ 10000) (hea : ea ≤ 1000) (hra : ra ≤ 100) (hst : st ≤ 100000000) (hl : last < 200) (h14 : ∀ v, w < v → v < 200 → A14 v = nI (hvS A B v nh) ∧ A15 v = nI (hvC A v nh)) (hb : ∀ v, hvS A B v nh ≤ 100000000) :
    ∀ m j z, w + j + m = last → Rest z t nb nr ng gv nt → Gz z A14 A15 nw mo ea ra (caF A B nh st w (mo * ea * ra / 100) j) (hgF A B nh st w (mo * ea * ra / 100) h0 j) (tcF A nh w j) sm hm tm wm hr → zA z 46 = A → zA z 47 = B → ∀ M, m < M →
      ∃ z', wh (fun (u : Int32 × Hp) => fX11_go_44 N 0 (nI th) (nI last) u.1 u.2) M (nI (w + j + 1), z) = some (nI last, z') ∧ Rest z' t nb nr ng gv nt ∧ Gz z' A14 A15 (nI th) mo ea ra (caF A B nh st w (mo * ea * ra / 100) (j + m)) (hgF A B nh st w (mo * ea * ra / 100) h0 (j + m)) (tcF A nh w (j + m)) sm hm tm wm hr ∧ zA z' 46 = A ∧ zA z' 47 = B := by
  intro m
  induction m with
  | zero =>
    intro j z hm' hR hG e46 e47 M hM
    obtain ⟨M', rfl⟩ : ∃ M', M = M' + 1 := ⟨M - 1, by omega⟩
    have c : nI last < nI (w + j + 1) := nI_lt (by omega) (by omega)
    have hS : Sh z := hR.1
    refine ⟨zsF z 647 0 (nI th), wh_out ?_, hR.sF (by decide), hG.s647, e46, e47⟩
    simp only [fX11_go_44, br_y c, gdT, brTr, brFa, br_00, br_10, bd_e, bo_s, bp_s, cs_s, cs_n, lf_s, o0 hS, o1 hS, o2 hS, o3 hS, o4 hS, o5 hS, o6 hS, o7 hS, o8 hS, o9 hS, o10 hS, o11 hS, o12 hS, o13 hS, o14 hS, o15 hS, o16 hS, o17 hS, o18 hS, o19 hS, o20 hS, o21 hS, o22 hS, o23 hS, o24 hS, o25 hS, o26 hS, o27 hS, o28 hS, o29 hS, o30 hS, o31 hS, o32 hS, o33 hS, o34 hS, o35 hS, o36 hS, o37 hS, o38 hS, o39 hS, o40 hS, o41 hS, o42 hS, o43 hS, o44 hS, o45 hS, o46 hS, o47 hS, l2 hS, l3 hS, l4 hS, l5 hS, l7 hS, l8 hS, l10 hS, l12 hS, l14 hS, l15 hS, l16 hS, l18 hS, l19 hS, l20 hS, l21 hS, l22 hS, l23 hS, l24 hS, l25 hS, l26 hS, l27 hS, l28 hS, l29 hS, l30 hS, l31 hS, l32 hS, l33 hS, l34 hS, l35 hS, l36 hS, l37 hS, l38 hS, l39 hS, l40 hS, l41 hS, l42 hS, l43 hS, l44 hS, l45 hS, l46 hS, l47 hS, g640 hS, g641 hS, g642 hS, g643 hS, g644 hS, g645 hS, g128 hS, g129 hS, g130 hS, g131 hS, g384 hS, g385 hS, g256 hS, g576 hS, g192 hS, g193 hS, g707 hS, g708 hS, g709 hS, g710 hS, g712 hS, g713 hS, g714 hS, g715 hS, g716 hS, g720 hS, g721 hS, g722 hS, g723 hS, g724 hS, g725 hS, g726 hS, g728 hS, g729 hS, g730 hS, g731 hS, g732 hS, g733 hS, g734 hS, g735 hS, g736 hS, g737 hS, g738 hS, g740 hS, g751 hS, g752 hS]
  | succ m ih =>
    intro j z hm' hR hG e46 e47 M hM
    obtain ⟨M', rfl⟩ : ∃ M', M = M' + 1 := ⟨M - 1, by omega⟩
    have c : ¬ nI last < nI (w + j + 1) := nI_nlt (by omega) (by omega)
    have hS : Sh z := hR.1
    obtain ⟨q14, q15⟩ := h14 (w + j + 1) (by omega) (by omega)
    obtain ⟨y, z', f1, hSy, f2, hR', hG', e46', e47'⟩ := weekC (N := N) hR hG hmo hea hra (caF_le hst j) (show w + j + 1 < 200 by omega) q14 (hb _)
    rw [q15] at hG'
    obtain ⟨zf, g1, g2, g3, g4⟩ := ih (j + 1) z' (by omega) hR' (by simp only [caF, hgF, tcF, adv]; exact hG') (e46'.trans e46) (e47'.trans e47) M' (by omega)
    refine ⟨zf, ?_, g2, ?_, g4⟩
    · rw [show w + (j + 1) + 1 = w + j + 1 + 1 by omega] at g1
      rw [wh_in (s' := (nI (w + j + 1 + 1), z')) ?_]
      · exact g1
      · simp only [fX11_go_44, br_n c, gdT, brTr, brFa, br_00, br_10, bd_e, bo_s, bp_s, cs_s, cs_n, lf_s, o0 hS, o1 hS, o2 hS, o3 hS, o4 hS, o5 hS, o6 hS, o7 hS, o8 hS, o9 hS, o10 hS, o11 hS, o12 hS, o13 hS, o14 hS, o15 hS, o16 hS, o17 hS, o18 hS, o19 hS, o20 hS, o21 hS, o22 hS, o23 hS, o24 hS, o25 hS, o26 hS, o27 hS, o28 hS, o29 hS, o30 hS, o31 hS, o32 hS, o33 hS, o34 hS, o35 hS, o36 hS, o37 hS, o38 hS, o39 hS, o40 hS, o41 hS, o42 hS, o43 hS, o44 hS, o45 hS, o46 hS, o47 hS, l2 hS, l3 hS, l4 hS, l5 hS, l7 hS, l8 hS, l10 hS, l12 hS, l14 hS, l15 hS, l16 hS, l18 hS, l19 hS, l20 hS, l21 hS, l22 hS, l23 hS, l24 hS, l25 hS, l26 hS, l27 hS, l28 hS, l29 hS, l30 hS, l31 hS, l32 hS, l33 hS, l34 hS, l35 hS, l36 hS, l37 hS, l38 hS, l39 hS, l40 hS, l41 hS, l42 hS, l43 hS, l44 hS, l45 hS, l46 hS, l47 hS, g640 hS, g641 hS, g642 hS, g643 hS, g644 hS, g645 hS, g128 hS, g129 hS, g130 hS, g131 hS, g384 hS, g385 hS, g256 hS, g576 hS, g192 hS, g193 hS, g707 hS, g708 hS, g709 hS, g710 hS, g712 hS, g713 hS, g714 hS, g715 hS, g716 hS, g720 hS, g721 hS, g722 hS, g723 hS, g724 hS, g725 hS, g726 hS, g728 hS, g729 hS, g730 hS, g731 hS, g732 hS, g733 hS, g734 hS, g735 hS, g736 hS, g737 hS, g738 hS, g740 hS, g751 hS, g752 hS, o0 hSy, o1 hSy, o2 hSy, o3 hSy, o4 hSy, o5 hSy, o6 hSy, o7 hSy, o8 hSy, o9 hSy, o10 hSy, o11 hSy, o12 hSy, o13 hSy, o14 hSy, o15 hSy, o16 hSy, o17 hSy, o18 hSy, o19 hSy, o20 hSy, o21 hSy, o22 hSy, o23 hSy, o24 hSy, o25 hSy, o26 hSy, o27 hSy, o28 hSy, o29 hSy, o30 hSy, o31 hSy, o32 hSy, o33 hSy, o34 hSy, o35 hSy, o36 hSy, o37 hSy, o38 hSy, o39 hSy, o40 hSy, o41 hSy, o42 hSy, o43 hSy, o44 hSy, o45 hSy, o46 hSy, o47 hSy, l2 hSy, l3 hSy, l4 hSy, l5 hSy, l7 hSy, l8 hSy, l10 hSy, l12 hSy, l14 hSy, l15 hSy, l16 hSy, l18 hSy, l19 hSy, l20 hSy, l21 hSy, l22 hSy, l23 hSy, l24 hSy, l25 hSy, l26 hSy, l27 hSy, l28 hSy, l29 hSy, l30 hSy, l31 hSy, l32 hSy, l33 hSy, l34 hSy, l35 hSy, l36 hSy, l37 hSy, l38 hSy, l39 hSy, l40 hSy, l41 hSy, l42 hSy, l43 hSy, l44 hSy, l45 hSy, l46 hSy, l47 hSy, g640 hSy, g641 hSy, g642 hSy, g643 hSy, g644 hSy, g645 hSy, g128 hSy, g129 hSy, g130 hSy, g131 hSy, g384 hSy, g385 hSy, g256 hSy, g576 hSy, g192 hSy, g193 hSy, g707 hSy, g708 hSy, g709 hSy, g710 hSy, g712 hSy, g713 hSy, g714 hSy, g715 hSy, g716 hSy, g720 hSy, g721 hSy, g722 hSy, g723 hSy, g724 hSy, g725 hSy, g726 hSy, g728 hSy, g729 hSy, g730 hSy, g731 hSy, g732 hSy, g733 hSy, g734 hSy, g735 hSy, g736 hSy, g737 hSy, g738 hSy, g740 hSy, g751 hSy, g752 hSy, f1, f2, nI_1]
    · rw [show j + (m + 1) = j + 1 + m by omega]
      exact g3
/-- the harvests that the model still waits for -/
def hvOk (A B : Nat → Int32) (wm tm : Nat) : Prop := ∀ k, k < tm → ∃ wk ok, A k = nI wk ∧ B k = nI ok ∧ wm < wk ∧ wk < 200 ∧ 1 ≤ ok ∧ ok ≤ 10000000
def hvSame (A B A' B' : Nat → Int32) (wx n n' : Nat) : Prop := ∀ v, v < 200 → v ≠ wx → hvS A' B' v n' = hvS A B v n ∧ hvC A' v n' = hvC A v n
theorem compactM {N : Nat} {A B A14 A15 : Nat → Int32} {nw : Int32} {mo ea ra sc : Nat} {hc tc hm : Int32} {l tm wm t nb nr ng gv nt : Nat} (hl : l ≤ 100000000) (htm : tm ≤ 10) (hw : wm < 199) (hB : hvOk A B wm tm) :
    ∀ m i kp y, i + m = tm → kp + hvC A (wm + 1) i = i → Rest y t nb nr ng gv nt → Gz y A14 A15 nw mo ea ra sc hc tc (hvA A B (wm + 1) l i) hm tm (wm + 1) 0 → (∀ k, i ≤ k → zA y 46 k = A k ∧ zA y 47 k = B k) → hvSame A B (zA y 46) (zA y 47) (wm + 1) i kp → hvOk (zA y 46) (zA y 47) (wm + 1) kp → ∀ M, m < M →
      ∃ z' kp', wh (fun (u : Int32 × Int32 × Hp) => fX12_endWeek_75 N 17 u.1 u.2.1 u.2.2) M (nI kp, nI i, y) = some z' ∧ kp' + hvC A (wm + 1) tm = tm ∧ Rest z' t nb nr ng gv nt ∧ Gz z' A14 A15 nw mo ea ra sc hc tc (hvA A B (wm + 1) l tm) hm kp' (wm + 1) 0 ∧ hvSame A B (zA z' 46) (zA z' 47) (wm + 1) tm kp' ∧ hvOk (zA z' 46) (zA z' 47) (wm + 1) kp' := by
  intro m
  induction m with
  | zero =>
    intro i kp y hi hk hR hG hrest hsame hok M hM
    obtain ⟨M', rfl⟩ : ∃ M', M = M' + 1 := ⟨M - 1, by omega⟩
    have e : i = tm := by omega
    subst e
    have hS : Sh y := hR.1
    have b11 : zF y 753 17 = nI i := by obtain ⟨⟨a1, a2⟩, bn, b0, b1, b2, b3, b4, b5, b6, b7, b8, b9, b10, b11, -⟩ := id hG; exact b11
    refine ⟨zsF y 753 17 (nI kp), kp, wh_out ?_, hk, hR.sF (by decide), hG.s753, hsame, hok⟩
    simp only [fX12_endWeek_75, gdT, brTr, brFa, br_00, br_10, bd_e, bo_s, bp_s, cs_s, cs_n, lf_s, o0 hS, o1 hS, o2 hS, o3 hS, o4 hS, o5 hS, o6 hS, o7 hS, o8 hS, o9 hS, o10 hS, o11 hS, o12 hS, o13 hS, o14 hS, o15 hS, o16 hS, o17 hS, o18 hS, o19 hS, o20 hS, o21 hS, o22 hS, o23 hS, o24 hS, o25 hS, o26 hS, o27 hS, o28 hS, o29 hS, o30 hS, o31 hS, o32 hS, o33 hS, o34 hS, o35 hS, o36 hS, o37 hS, o38 hS, o39 hS, o40 hS, o41 hS, o42 hS, o43 hS, o44 hS, o45 hS, o46 hS, o47 hS, l2 hS, l3 hS, l4 hS, l5 hS, l7 hS, l8 hS, l10 hS, l12 hS, l14 hS, l15 hS, l16 hS, l18 hS, l19 hS, l20 hS, l21 hS, l22 hS, l23 hS, l24 hS, l25 hS, l26 hS, l27 hS, l28 hS, l29 hS, l30 hS, l31 hS, l32 hS, l33 hS, l34 hS, l35 hS, l36 hS, l37 hS, l38 hS, l39 hS, l40 hS, l41 hS, l42 hS, l43 hS, l44 hS, l45 hS, l46 hS, l47 hS, g640 hS, g641 hS, g642 hS, g643 hS, g644 hS, g645 hS, g128 hS, g129 hS, g130 hS, g131 hS, g384 hS, g385 hS, g256 hS, g576 hS, g192 hS, g193 hS, g707 hS, g708 hS, g709 hS, g710 hS, g712 hS, g713 hS, g714 hS, g715 hS, g716 hS, g720 hS, g721 hS, g722 hS, g723 hS, g724 hS, g725 hS, g726 hS, g728 hS, g729 hS, g730 hS, g731 hS, g732 hS, g733 hS, g734 hS, g735 hS, g736 hS, g737 hS, g738 hS, g740 hS, g751 hS, g752 hS, b11, br_y (Int32.le_refl (nI i))]
  | succ m ih =>
    intro i kp y hi hk hR hG hrest hsame hok M hM
    obtain ⟨M', rfl⟩ : ∃ M', M = M' + 1 := ⟨M - 1, by omega⟩
    have hS : Sh y := hR.1
    obtain ⟨⟨a1, a2⟩, bn, b0, b1, b2, b3, b4, b5, b6, b7, b8, b9, b10, b11, b12, b13⟩ := id hG
    have c : ¬ nI tm ≤ nI i := nI_ge (by omega) (by omega)
    obtain ⟨wk, ok, eA, eB, w1, w2, w3, w4⟩ := hB i (by omega)
    obtain ⟨rA, rB⟩ := hrest i (Nat.le_refl _)
    have hca : hvA A B (wm + 1) l i ≤ 100000000 := by rw [hvA_e hl]; exact Nat.min_le_left _ _
    have hcl : (B i).toNatClampNeg = ok := by rw [eB, nI_clamp (by omega)]
    by_cases hwk : wk = wm + 1
    · -- a harvest of this week: it comes in
      have c2 : nI wk = nI (wm + 1) := by rw [hwk]
      have eAi : A i = nI (wm + 1) := eA.trans c2
      have hCi : hvC A (wm + 1) (i + 1) = hvC A (wm + 1) i + 1 := by simp only [hvC, eAi, if_pos]
      have hAi : hvA A B (wm + 1) l (i + 1) = min 100000000 (hvA A B (wm + 1) l i + ok) := by simp only [hvA, eAi, if_pos, hcl]
      have hG2 := hG.s746 (x := hvA A B (wm + 1) l (i + 1))
      have hs2 : hvSame A B (zA (zsF y 746 17 (nI (hvA A B (wm + 1) l (i + 1)))) 46) (zA (zsF y 746 17 (nI (hvA A B (wm + 1) l (i + 1)))) 47) (wm + 1) (i + 1) kp := by
        intro v hv hne
        obtain ⟨s1, s2⟩ := hsame v hv hne
        have hne' : ¬ nI (wm + 1) = nI v := by rw [nI_eq (by omega) (by omega)]; omega
        simp only [hvS, hvC, eAi, if_neg hne', Nat.add_zero]
        exact ⟨s1, s2⟩
      obtain ⟨z', kp', g1, g2⟩ := ih (i + 1) kp (zsF y 746 17 (nI (hvA A B (wm + 1) l (i + 1)))) (by omega) (by omega) (hR.sF (by decide)) hG2 (fun k hk' => hrest k (by omega)) hs2 hok M' (by omega)
      · refine ⟨z', kp', ?_, g2⟩
        rw [wh_in (s' := (nI kp, nI (i + 1), zsF y 746 17 (nI (hvA A B (wm + 1) l (i + 1))))) ?_]
        · exact g1
        · simp only [fX12_endWeek_75, fX12_endWeek_129, fX12_endWeek_162, gdT, brTr, brFa, br_00, br_10, bd_e, bo_s, bp_s, cs_s, cs_n, lf_s, o0 hS, o1 hS, o2 hS, o3 hS, o4 hS, o5 hS, o6 hS, o7 hS, o8 hS, o9 hS, o10 hS, o11 hS, o12 hS, o13 hS, o14 hS, o15 hS, o16 hS, o17 hS, o18 hS, o19 hS, o20 hS, o21 hS, o22 hS, o23 hS, o24 hS, o25 hS, o26 hS, o27 hS, o28 hS, o29 hS, o30 hS, o31 hS, o32 hS, o33 hS, o34 hS, o35 hS, o36 hS, o37 hS, o38 hS, o39 hS, o40 hS, o41 hS, o42 hS, o43 hS, o44 hS, o45 hS, o46 hS, o47 hS, l2 hS, l3 hS, l4 hS, l5 hS, l7 hS, l8 hS, l10 hS, l12 hS, l14 hS, l15 hS, l16 hS, l18 hS, l19 hS, l20 hS, l21 hS, l22 hS, l23 hS, l24 hS, l25 hS, l26 hS, l27 hS, l28 hS, l29 hS, l30 hS, l31 hS, l32 hS, l33 hS, l34 hS, l35 hS, l36 hS, l37 hS, l38 hS, l39 hS, l40 hS, l41 hS, l42 hS, l43 hS, l44 hS, l45 hS, l46 hS, l47 hS, g640 hS, g641 hS, g642 hS, g643 hS, g644 hS, g645 hS, g128 hS, g129 hS, g130 hS, g131 hS, g384 hS, g385 hS, g256 hS, g576 hS, g192 hS, g193 hS, g707 hS, g708 hS, g709 hS, g710 hS, g712 hS, g713 hS, g714 hS, g715 hS, g716 hS, g720 hS, g721 hS, g722 hS, g723 hS, g724 hS, g725 hS, g726 hS, g728 hS, g729 hS, g730 hS, g731 hS, g732 hS, g733 hS, g734 hS, g735 hS, g736 hS, g737 hS, g738 hS, g740 hS, g751 hS, g752 hS, b11, b12, b9, br_n c, inb (show i < 10 by omega) (by decide), nI_clamp (show i < 2 ^ 31 by omega), rA, eAi, rB, eB, br_y trivial, nI_add, nI_1]
          by_cases c4 : hvA A B (wm + 1) l i + ok ≤ 100000000
          · have c5 : nI (hvA A B (wm + 1) l i + ok) ≤ 100000000 := by rw [show (100000000 : Int32) = nI 100000000 from rfl]; exact nI_le c4 (by decide)
            rw [br_y c5, hAi, show min 100000000 (hvA A B (wm + 1) l i + ok) = hvA A B (wm + 1) l i + ok by omega]
          · have c5 : ¬ nI (hvA A B (wm + 1) l i + ok) ≤ 100000000 := by rw [show (100000000 : Int32) = nI 100000000 from rfl]; exact nI_ge (by omega) (by omega)
            rw [br_n c5, hAi, show min 100000000 (hvA A B (wm + 1) l i + ok) = 100000000 by omega]
            rfl
    · -- a later one: it moves down
      have c2 : ¬ nI wk = nI (wm + 1) := by rw [nI_eq (by omega) (by omega)]; exact hwk
      have hCi : hvC A (wm + 1) (i + 1) = hvC A (wm + 1) i := by simp only [hvC, eA, if_neg c2, Nat.add_zero]
      have hAi : hvA A B (wm + 1) l (i + 1) = hvA A B (wm + 1) l i := by simp only [hvA, eA, if_neg c2]
      have hG2 := (hG.a46 (i := kp) (x := nI wk)).a47 (i := kp) (x := nI ok)
      have p1 : ∀ k, i + 1 ≤ k → zA (zsA (zsA y 46 kp (nI wk)) 47 kp (nI ok)) 46 k = A k ∧ zA (zsA (zsA y 46 kp (nI wk)) 47 kp (nI ok)) 47 k = B k := by
        intro k hk'
        simp only [eF_zn, eF_zK, eF_zL, eF_s, eF_n, eF_zG, eF_zA, eF_zJ, eF_zR, eG_zn, eG_zK, eG_zL, eG_zF, eG_s, eG_n, eG_zA, eG_zJ, eG_zR, eA_zn, eA_zK, eA_zL, eA_zF, eA_zG, eA_s, eA_n, eA_zJ, eA_zR, eJ_zn, eJ_zK, eJ_zL, eJ_zF, eJ_zG, eJ_zA, eJ_s, eJ_n, eJ_zR, eR_zn, eR_zK, eR_zL, eR_zF, eR_zG, eR_zA, eR_zJ, eR_s, eR_n, ne_eq, not_false_eq_true, not_true_eq_false, reduceCtorEq, Nat.reduceEqDiff]
        rw [va_up_ne _ _ (by omega), va_up_ne _ _ (by omega)]
        exact hrest k (by omega)
      have p2 : hvSame A B (zA (zsA (zsA y 46 kp (nI wk)) 47 kp (nI ok)) 46) (zA (zsA (zsA y 46 kp (nI wk)) 47 kp (nI ok)) 47) (wm + 1) (i + 1) (kp + 1) := by
        intro v hv hne
        simp only [eF_zn, eF_zK, eF_zL, eF_s, eF_n, eF_zG, eF_zA, eF_zJ, eF_zR, eG_zn, eG_zK, eG_zL, eG_zF, eG_s, eG_n, eG_zA, eG_zJ, eG_zR, eA_zn, eA_zK, eA_zL, eA_zF, eA_zG, eA_s, eA_n, eA_zJ, eA_zR, eJ_zn, eJ_zK, eJ_zL, eJ_zF, eJ_zG, eJ_zA, eJ_s, eJ_n, eJ_zR, eR_zn, eR_zK, eR_zL, eR_zF, eR_zG, eR_zA, eR_zJ, eR_s, eR_n, ne_eq, not_false_eq_true, not_true_eq_false, reduceCtorEq, Nat.reduceEqDiff]
        obtain ⟨s1, s2⟩ := hsame v hv hne
        have t1 : hvS (va_up (zA y 46) kp (nI wk)) (va_up (zA y 47) kp (nI ok)) v kp = hvS (zA y 46) (zA y 47) v kp := hvS_congr (fun k hk => ⟨up_old hk, up_old hk⟩)
        have t2 : hvC (va_up (zA y 46) kp (nI wk)) v kp = hvC (zA y 46) v kp := hvC_congr (fun k hk => up_old hk)
        simp only [hvS, hvC, t1, t2, va_up_self, s1, s2, eA, eB]
        exact ⟨trivial, trivial⟩
      have p3 : hvOk (zA (zsA (zsA y 46 kp (nI wk)) 47 kp (nI ok)) 46) (zA (zsA (zsA y 46 kp (nI wk)) 47 kp (nI ok)) 47) (wm + 1) (kp + 1) := by
        intro k hk'
        simp only [eF_zn, eF_zK, eF_zL, eF_s, eF_n, eF_zG, eF_zA, eF_zJ, eF_zR, eG_zn, eG_zK, eG_zL, eG_zF, eG_s, eG_n, eG_zA, eG_zJ, eG_zR, eA_zn, eA_zK, eA_zL, eA_zF, eA_zG, eA_s, eA_n, eA_zJ, eA_zR, eJ_zn, eJ_zK, eJ_zL, eJ_zF, eJ_zG, eJ_zA, eJ_s, eJ_n, eJ_zR, eR_zn, eR_zK, eR_zL, eR_zF, eR_zG, eR_zA, eR_zJ, eR_s, eR_n, ne_eq, not_false_eq_true, not_true_eq_false, reduceCtorEq, Nat.reduceEqDiff]
        rcases Nat.lt_or_ge k kp with hk2 | hk2
        · rw [up_old hk2, up_old hk2]
          exact hok k hk2
        · have e : k = kp := by omega
          subst e
          exact ⟨wk, ok, va_up_self _ _ _, va_up_self _ _ _, by omega, w2, w3, w4⟩
      obtain ⟨z', kp', g1, g2⟩ := ih (i + 1) (kp + 1) (zsA (zsA y 46 kp (nI wk)) 47 kp (nI ok)) (by omega) (by omega) ((hR.sA (Or.inl rfl)).sA (Or.inr rfl)) (by rw [hAi]; exact hG2) p1 p2 p3 M' (by omega)
      · refine ⟨z', kp', ?_, g2⟩
        rw [wh_in (s' := (nI (kp + 1), nI (i + 1), zsA (zsA y 46 kp (nI wk)) 47 kp (nI ok))) ?_]
        · exact g1
        · simp only [fX12_endWeek_75, fX12_endWeek_162, gdT, brTr, brFa, br_00, br_10, bd_e, bo_s, bp_s, cs_s, cs_n, lf_s, eF_zn, eF_zK, eF_zL, eF_s, eF_n, eF_zG, eF_zA, eF_zJ, eF_zR, eG_zn, eG_zK, eG_zL, eG_zF, eG_s, eG_n, eG_zA, eG_zJ, eG_zR, eA_zn, eA_zK, eA_zL, eA_zF, eA_zG, eA_s, eA_n, eA_zJ, eA_zR, eJ_zn, eJ_zK, eJ_zL, eJ_zF, eJ_zG, eJ_zA, eJ_s, eJ_n, eJ_zR, eR_zn, eR_zK, eR_zL, eR_zF, eR_zG, eR_zA, eR_zJ, eR_s, eR_n, ne_eq, not_false_eq_true, not_true_eq_false, reduceCtorEq, Nat.reduceEqDiff, o0 hS, o1 hS, o2 hS, o3 hS, o4 hS, o5 hS, o6 hS, o7 hS, o8 hS, o9 hS, o10 hS, o11 hS, o12 hS, o13 hS, o14 hS, o15 hS, o16 hS, o17 hS, o18 hS, o19 hS, o20 hS, o21 hS, o22 hS, o23 hS, o24 hS, o25 hS, o26 hS, o27 hS, o28 hS, o29 hS, o30 hS, o31 hS, o32 hS, o33 hS, o34 hS, o35 hS, o36 hS, o37 hS, o38 hS, o39 hS, o40 hS, o41 hS, o42 hS, o43 hS, o44 hS, o45 hS, o46 hS, o47 hS, l2 hS, l3 hS, l4 hS, l5 hS, l7 hS, l8 hS, l10 hS, l12 hS, l14 hS, l15 hS, l16 hS, l18 hS, l19 hS, l20 hS, l21 hS, l22 hS, l23 hS, l24 hS, l25 hS, l26 hS, l27 hS, l28 hS, l29 hS, l30 hS, l31 hS, l32 hS, l33 hS, l34 hS, l35 hS, l36 hS, l37 hS, l38 hS, l39 hS, l40 hS, l41 hS, l42 hS, l43 hS, l44 hS, l45 hS, l46 hS, l47 hS, g640 hS, g641 hS, g642 hS, g643 hS, g644 hS, g645 hS, g128 hS, g129 hS, g130 hS, g131 hS, g384 hS, g385 hS, g256 hS, g576 hS, g192 hS, g193 hS, g707 hS, g708 hS, g709 hS, g710 hS, g712 hS, g713 hS, g714 hS, g715 hS, g716 hS, g720 hS, g721 hS, g722 hS, g723 hS, g724 hS, g725 hS, g726 hS, g728 hS, g729 hS, g730 hS, g731 hS, g732 hS, g733 hS, g734 hS, g735 hS, g736 hS, g737 hS, g738 hS, g740 hS, g751 hS, g752 hS, b11, b12, br_n c, inb (show i < 10 by omega) (by decide), inb (show kp < 10 by omega) (by decide), nI_clamp (show i < 2 ^ 31 by omega), nI_clamp (show kp < 2 ^ 31 by omega), rA, eA, br_n c2, rB, eB, nI_1]
theorem endM {N : Nat} {z : Hp} {A14 A15 : Nat → Int32} {nw : Int32} {mo ea ra sc : Nat} {hc tc : Int32} {sm : Nat} {hm : Int32} {tm wm hr t nb nr ng gv nt : Nat} (hN : 6000 ≤ N) (hR : Rest z t nb nr ng gv nt) (hG : Gz z A14 A15 nw mo ea ra sc hc tc sm hm tm wm hr) (hmo : mo ≤ 10000) (hea : ea ≤ 1000) (hra : ra ≤ 100) (hs : sm ≤ 100000000) (htm : tm ≤ 10) (hw : wm < 199) (hB : hvOk (zA z 46) (zA z 47) wm tm) :
    ∃ z' kp, fX12_endWeek N 17 z = some z' ∧ kp + hvC (zA z 46) (wm + 1) tm = tm ∧ Rest z' t nb nr ng gv nt ∧ Gz z' A14 A15 nw mo ea ra sc hc tc (min 100000000 (sm - mo * ea * ra / 100 + hvS (zA z 46) (zA z 47) (wm + 1) tm)) (if sm < mo * ea * ra / 100 then hm + 1 else hm) kp (wm + 1) 0 ∧ hvSame (zA z 46) (zA z 47) (zA z' 46) (zA z' 47) (wm + 1) tm kp ∧ hvOk (zA z' 46) (zA z' 47) (wm + 1) kp := by
  have hb := mul3_le hmo hea hra
  have hS : Sh z := hR.1
  obtain ⟨⟨a1, a2⟩, bn, b0, b1, b2, b3, b4, b5, b6, b7, b8, b9, b10, b11, b12, b13⟩ := id hG
  have hn := needOf_e (N := N) hS b0 b1 hmo hea hra
  generalize hd : mo * ea * ra / 100 = d at *
  have hd9 : d ≤ 1000000000 := by omega
  -- the loop from a heap that has the week's end behind it
  have loop : ∀ y hm', Rest y t nb nr ng gv nt → Gz y A14 A15 nw mo ea ra sc hc tc (sm - d) hm' tm (wm + 1) 0 → zA y 46 = zA z 46 → zA y 47 = zA z 47 → ∃ z' kp, wh (fun (u : Int32 × Int32 × Hp) => fX12_endWeek_75 N 17 u.1 u.2.1 u.2.2) N ((0 : Int32), (0 : Int32), y) = some z' ∧ kp + hvC (zA z 46) (wm + 1) tm = tm ∧ Rest z' t nb nr ng gv nt ∧ Gz z' A14 A15 nw mo ea ra sc hc tc (min 100000000 (sm - d + hvS (zA z 46) (zA z 47) (wm + 1) tm)) hm' kp (wm + 1) 0 ∧ hvSame (zA z 46) (zA z 47) (zA z' 46) (zA z' 47) (wm + 1) tm kp ∧ hvOk (zA z' 46) (zA z' 47) (wm + 1) kp := by
    intro y hm' hRy hGy e46 e47
    have h := compactM (N := N) (l := sm - d) (by omega) htm hw hB tm 0 0 y (by omega) rfl hRy hGy (fun k _ => by rw [e46, e47]; exact ⟨rfl, rfl⟩) (fun v _ _ => ⟨rfl, rfl⟩) (fun k hk => by omega) N (by omega)
    rw [hvA_e (by omega)] at h
    exact h
  -- what comes ahead of it
  have last : ∀ y hm', Rest y t nb nr ng gv nt → Gz y A14 A15 nw mo ea ra sc hc tc sm hm' tm wm hr → zA y 46 = zA z 46 → zA y 47 = zA z 47 → ∃ z' kp, fX12_endWeek_52 N 17 (nI (min d sm)) (nI sm) 17 y = some z' ∧ kp + hvC (zA z 46) (wm + 1) tm = tm ∧ Rest z' t nb nr ng gv nt ∧ Gz z' A14 A15 nw mo ea ra sc hc tc (min 100000000 (sm - d + hvS (zA z 46) (zA z 47) (wm + 1) tm)) hm' kp (wm + 1) 0 ∧ hvSame (zA z 46) (zA z 47) (zA z' 46) (zA z' 47) (wm + 1) tm kp ∧ hvOk (zA z' 46) (zA z' 47) (wm + 1) kp := by
    intro y hm' hRy hGy e46 e47
    have hSy : Sh y := hRy.1
    have b12y : zF y 704 17 = nI wm := by obtain ⟨⟨a1, a2⟩, bn, b0, b1, b2, b3, b4, b5, b6, b7, b8, b9, b10, b11, b12, b13⟩ := id hGy; exact b12
    obtain ⟨z', kp, g1, g2⟩ := loop (zsF (zsF (zsF y 746 17 (nI (sm - d))) 704 17 (nI (wm + 1))) 705 17 (nI 0)) hm' (((hRy.sF (by decide)).sF (by decide)).sF (by decide)) (((hGy.s746 (x := sm - d)).s704 (x := wm + 1)).s705 (x := 0)) e46 e47
    refine ⟨z', kp, ?_, g2⟩
    rw [← g1]
    have e : sm - min d sm = sm - d := by omega
    simp only [fX12_endWeek_52, gdT, brTr, brFa, br_00, br_10, bd_e, bo_s, bp_s, cs_s, cs_n, lf_s, eF_zn, eF_zK, eF_zL, eF_s, eF_n, eF_zG, eF_zA, eF_zJ, eF_zR, eG_zn, eG_zK, eG_zL, eG_zF, eG_s, eG_n, eG_zA, eG_zJ, eG_zR, eA_zn, eA_zK, eA_zL, eA_zF, eA_zG, eA_s, eA_n, eA_zJ, eA_zR, eJ_zn, eJ_zK, eJ_zL, eJ_zF, eJ_zG, eJ_zA, eJ_s, eJ_n, eJ_zR, eR_zn, eR_zK, eR_zL, eR_zF, eR_zG, eR_zA, eR_zJ, eR_s, eR_n, ne_eq, not_false_eq_true, not_true_eq_false, reduceCtorEq, Nat.reduceEqDiff, o0 hSy, o1 hSy, o2 hSy, o3 hSy, o4 hSy, o5 hSy, o6 hSy, o7 hSy, o8 hSy, o9 hSy, o10 hSy, o11 hSy, o12 hSy, o13 hSy, o14 hSy, o15 hSy, o16 hSy, o17 hSy, o18 hSy, o19 hSy, o20 hSy, o21 hSy, o22 hSy, o23 hSy, o24 hSy, o25 hSy, o26 hSy, o27 hSy, o28 hSy, o29 hSy, o30 hSy, o31 hSy, o32 hSy, o33 hSy, o34 hSy, o35 hSy, o36 hSy, o37 hSy, o38 hSy, o39 hSy, o40 hSy, o41 hSy, o42 hSy, o43 hSy, o44 hSy, o45 hSy, o46 hSy, o47 hSy, l2 hSy, l3 hSy, l4 hSy, l5 hSy, l7 hSy, l8 hSy, l10 hSy, l12 hSy, l14 hSy, l15 hSy, l16 hSy, l18 hSy, l19 hSy, l20 hSy, l21 hSy, l22 hSy, l23 hSy, l24 hSy, l25 hSy, l26 hSy, l27 hSy, l28 hSy, l29 hSy, l30 hSy, l31 hSy, l32 hSy, l33 hSy, l34 hSy, l35 hSy, l36 hSy, l37 hSy, l38 hSy, l39 hSy, l40 hSy, l41 hSy, l42 hSy, l43 hSy, l44 hSy, l45 hSy, l46 hSy, l47 hSy, g640 hSy, g641 hSy, g642 hSy, g643 hSy, g644 hSy, g645 hSy, g128 hSy, g129 hSy, g130 hSy, g131 hSy, g384 hSy, g385 hSy, g256 hSy, g576 hSy, g192 hSy, g193 hSy, g707 hSy, g708 hSy, g709 hSy, g710 hSy, g712 hSy, g713 hSy, g714 hSy, g715 hSy, g716 hSy, g720 hSy, g721 hSy, g722 hSy, g723 hSy, g724 hSy, g725 hSy, g726 hSy, g728 hSy, g729 hSy, g730 hSy, g731 hSy, g732 hSy, g733 hSy, g734 hSy, g735 hSy, g736 hSy, g737 hSy, g738 hSy, g740 hSy, g751 hSy, g752 hSy, pk_sub (show min d sm ≤ sm by omega), e, b12y, nI_1]
    rfl
  by_cases hh : sm < d
  · have c : ¬ nI d ≤ nI sm := nI_ge hh (by omega)
    rw [if_pos hh]
    obtain ⟨z', kp, g1, g2⟩ := last (zsF z 750 17 (hm + 1)) (hm + 1) (hR.sF (by decide)) (hG.s750 (x := hm + 1)) rfl rfl
    refine ⟨z', kp, ?_, g2⟩
    rw [← g1, show min d sm = sm by omega]
    simp only [fX12_endWeek, fX12_endWeek_27, gdT, brTr, brFa, br_00, br_10, bd_e, bo_s, bp_s, cs_s, cs_n, lf_s, eF_zn, eF_zK, eF_zL, eF_s, eF_n, eF_zG, eF_zA, eF_zJ, eF_zR, eG_zn, eG_zK, eG_zL, eG_zF, eG_s, eG_n, eG_zA, eG_zJ, eG_zR, eA_zn, eA_zK, eA_zL, eA_zF, eA_zG, eA_s, eA_n, eA_zJ, eA_zR, eJ_zn, eJ_zK, eJ_zL, eJ_zF, eJ_zG, eJ_zA, eJ_s, eJ_n, eJ_zR, eR_zn, eR_zK, eR_zL, eR_zF, eR_zG, eR_zA, eR_zJ, eR_s, eR_n, ne_eq, not_false_eq_true, not_true_eq_false, reduceCtorEq, Nat.reduceEqDiff, o0 hS, o1 hS, o2 hS, o3 hS, o4 hS, o5 hS, o6 hS, o7 hS, o8 hS, o9 hS, o10 hS, o11 hS, o12 hS, o13 hS, o14 hS, o15 hS, o16 hS, o17 hS, o18 hS, o19 hS, o20 hS, o21 hS, o22 hS, o23 hS, o24 hS, o25 hS, o26 hS, o27 hS, o28 hS, o29 hS, o30 hS, o31 hS, o32 hS, o33 hS, o34 hS, o35 hS, o36 hS, o37 hS, o38 hS, o39 hS, o40 hS, o41 hS, o42 hS, o43 hS, o44 hS, o45 hS, o46 hS, o47 hS, l2 hS, l3 hS, l4 hS, l5 hS, l7 hS, l8 hS, l10 hS, l12 hS, l14 hS, l15 hS, l16 hS, l18 hS, l19 hS, l20 hS, l21 hS, l22 hS, l23 hS, l24 hS, l25 hS, l26 hS, l27 hS, l28 hS, l29 hS, l30 hS, l31 hS, l32 hS, l33 hS, l34 hS, l35 hS, l36 hS, l37 hS, l38 hS, l39 hS, l40 hS, l41 hS, l42 hS, l43 hS, l44 hS, l45 hS, l46 hS, l47 hS, g640 hS, g641 hS, g642 hS, g643 hS, g644 hS, g645 hS, g128 hS, g129 hS, g130 hS, g131 hS, g384 hS, g385 hS, g256 hS, g576 hS, g192 hS, g193 hS, g707 hS, g708 hS, g709 hS, g710 hS, g712 hS, g713 hS, g714 hS, g715 hS, g716 hS, g720 hS, g721 hS, g722 hS, g723 hS, g724 hS, g725 hS, g726 hS, g728 hS, g729 hS, g730 hS, g731 hS, g732 hS, g733 hS, g734 hS, g735 hS, g736 hS, g737 hS, g738 hS, g740 hS, g751 hS, g752 hS, b2, hn, b9, b10, br_n c]
  · have c : nI d ≤ nI sm := nI_le (by omega) (by omega)
    rw [if_neg hh]
    obtain ⟨z', kp, g1, g2⟩ := last (zsF z 750 17 (hm + 0)) (hm + 0) (hR.sF (by decide)) (hG.s750 (x := hm + 0)) rfl rfl
    rw [Int32.add_zero] at g2
    refine ⟨z', kp, ?_, g2⟩
    rw [← g1, show min d sm = d by omega]
    simp only [fX12_endWeek, fX12_endWeek_27, gdT, brTr, brFa, br_00, br_10, bd_e, bo_s, bp_s, cs_s, cs_n, lf_s, eF_zn, eF_zK, eF_zL, eF_s, eF_n, eF_zG, eF_zA, eF_zJ, eF_zR, eG_zn, eG_zK, eG_zL, eG_zF, eG_s, eG_n, eG_zA, eG_zJ, eG_zR, eA_zn, eA_zK, eA_zL, eA_zF, eA_zG, eA_s, eA_n, eA_zJ, eA_zR, eJ_zn, eJ_zK, eJ_zL, eJ_zF, eJ_zG, eJ_zA, eJ_s, eJ_n, eJ_zR, eR_zn, eR_zK, eR_zL, eR_zF, eR_zG, eR_zA, eR_zJ, eR_s, eR_n, ne_eq, not_false_eq_true, not_true_eq_false, reduceCtorEq, Nat.reduceEqDiff, o0 hS, o1 hS, o2 hS, o3 hS, o4 hS, o5 hS, o6 hS, o7 hS, o8 hS, o9 hS, o10 hS, o11 hS, o12 hS, o13 hS, o14 hS, o15 hS, o16 hS, o17 hS, o18 hS, o19 hS, o20 hS, o21 hS, o22 hS, o23 hS, o24 hS, o25 hS, o26 hS, o27 hS, o28 hS, o29 hS, o30 hS, o31 hS, o32 hS, o33 hS, o34 hS, o35 hS, o36 hS, o37 hS, o38 hS, o39 hS, o40 hS, o41 hS, o42 hS, o43 hS, o44 hS, o45 hS, o46 hS, o47 hS, l2 hS, l3 hS, l4 hS, l5 hS, l7 hS, l8 hS, l10 hS, l12 hS, l14 hS, l15 hS, l16 hS, l18 hS, l19 hS, l20 hS, l21 hS, l22 hS, l23 hS, l24 hS, l25 hS, l26 hS, l27 hS, l28 hS, l29 hS, l30 hS, l31 hS, l32 hS, l33 hS, l34 hS, l35 hS, l36 hS, l37 hS, l38 hS, l39 hS, l40 hS, l41 hS, l42 hS, l43 hS, l44 hS, l45 hS, l46 hS, l47 hS, g640 hS, g641 hS, g642 hS, g643 hS, g644 hS, g645 hS, g128 hS, g129 hS, g130 hS, g131 hS, g384 hS, g385 hS, g256 hS, g576 hS, g192 hS, g193 hS, g707 hS, g708 hS, g709 hS, g710 hS, g712 hS, g713 hS, g714 hS, g715 hS, g716 hS, g720 hS, g721 hS, g722 hS, g723 hS, g724 hS, g725 hS, g726 hS, g728 hS, g729 hS, g730 hS, g731 hS, g732 hS, g733 hS, g734 hS, g735 hS, g736 hS, g737 hS, g738 hS, g740 hS, g751 hS, g752 hS, b2, hn, b9, b10, br_y c]
/-- what holds after i hours of the model -/
def MI (z : Hp) (A B A14 A15 : Nat → Int32) (nw : Int32) (mo ea ra sc : Nat) (hc tc : Int32) (st nh w : Nat) (h0 : Int32) (t nb nr ng gv nt i : Nat) : Prop :=
  Rest z t nb nr ng gv nt ∧ ∃ tm, tm ≤ 10 ∧ Gz z A14 A15 nw mo ea ra sc hc tc (caF A B nh st w (mo * ea * ra / 100) ((t + i) / 168 - w)) (hgF A B nh st w (mo * ea * ra / 100) h0 ((t + i) / 168 - w)) tm ((t + i) / 168) ((t + i) % 168) ∧ nI tm = tcF A nh w ((t + i) / 168 - w) ∧ (∀ v, (t + i) / 168 < v → v < 200 → hvS (zA z 46) (zA z 47) v tm = hvS A B v nh ∧ hvC (zA z 46) v tm = hvC A v nh) ∧ hvOk (zA z 46) (zA z 47) ((t + i) / 168) tm
theorem hourM {N : Nat} {z : Hp} {A B A14 A15 : Nat → Int32} {nw : Int32} {mo ea ra sc : Nat} {hc tc : Int32} {st nh w : Nat} {h0 : Int32} {t nb nr ng gv nt i n : Nat} (hN : 6000 ≤ N) (hmo : mo ≤ 10000) (hea : ea ≤ 1000) (hra : ra ≤ 100) (hst : st ≤ 100000000) (hwt : w ≤ t / 168) (hi : i < n) (hn : n ≤ 5000) (ht : t + n < 33600) (h : MI z A B A14 A15 nw mo ea ra sc hc tc st nh w h0 t nb nr ng gv nt i) :
    ∃ z', fX12_go_40 N 17 (nI n) (nI i) z = some (.inl (nI (i + 1), z')) ∧ MI z' A B A14 A15 nw mo ea ra sc hc tc st nh w h0 t nb nr ng gv nt (i + 1) := by
  obtain ⟨hR, tm, htm, hG, htc, hsm, hok⟩ := h
  have hS : Sh z := hR.1
  obtain ⟨⟨a1, a2⟩, bn, b0, b1, b2, b3, b4, b5, b6, b7, b8, b9, b10, b11, b12, b13⟩ := id hG
  have c : ¬ nI n ≤ nI i := nI_ge hi (by omega)
  have hlt : (t + i) % 168 < 168 := Nat.mod_lt _ (by decide)
  have hG2 := hG.s705 (x := (t + i) % 168 + 1)
  by_cases he : (t + i) % 168 + 1 = 168
  · have c2 : nI ((t + i) % 168 + 1) = (168 : Int32) := by rw [he]; rfl
    have hw2 : (t + i) / 168 < 199 := by omega
    have d1 : (t + (i + 1)) / 168 = (t + i) / 168 + 1 := by omega
    have d2 : (t + (i + 1)) % 168 = 0 := by omega
    have d3 : (t + i) / 168 + 1 - w = (t + i) / 168 - w + 1 := by omega
    have d4 : w + ((t + i) / 168 - w) + 1 = (t + i) / 168 + 1 := by omega
    obtain ⟨z', kp, g1, g2, g3, g4, g5, g6⟩ := endM (N := N) hN (hR.sF (by decide)) hG2 hmo hea hra (caF_le hst _) htm hw2 hok
    have hS2 : Sh (zsF z 705 17 (nI ((t + i) % 168 + 1))) := hS.sF
    obtain ⟨u1, u2⟩ := hsm ((t + i) / 168 + 1) (by omega) (by omega)
    rw [eF_zA] at g2 g4 g5
    refine ⟨z', ?_, g3, kp, by omega, ?_, ?_, ?_, ?_⟩
    · simp only [fX12_go_40, fX12_go_69, br_n c, gdT, brTr, brFa, br_00, br_10, bd_e, bo_s, bp_s, cs_s, cs_n, lf_s, o0 hS, o1 hS, o2 hS, o3 hS, o4 hS, o5 hS, o6 hS, o7 hS, o8 hS, o9 hS, o10 hS, o11 hS, o12 hS, o13 hS, o14 hS, o15 hS, o16 hS, o17 hS, o18 hS, o19 hS, o20 hS, o21 hS, o22 hS, o23 hS, o24 hS, o25 hS, o26 hS, o27 hS, o28 hS, o29 hS, o30 hS, o31 hS, o32 hS, o33 hS, o34 hS, o35 hS, o36 hS, o37 hS, o38 hS, o39 hS, o40 hS, o41 hS, o42 hS, o43 hS, o44 hS, o45 hS, o46 hS, o47 hS, l2 hS, l3 hS, l4 hS, l5 hS, l7 hS, l8 hS, l10 hS, l12 hS, l14 hS, l15 hS, l16 hS, l18 hS, l19 hS, l20 hS, l21 hS, l22 hS, l23 hS, l24 hS, l25 hS, l26 hS, l27 hS, l28 hS, l29 hS, l30 hS, l31 hS, l32 hS, l33 hS, l34 hS, l35 hS, l36 hS, l37 hS, l38 hS, l39 hS, l40 hS, l41 hS, l42 hS, l43 hS, l44 hS, l45 hS, l46 hS, l47 hS, g640 hS, g641 hS, g642 hS, g643 hS, g644 hS, g645 hS, g128 hS, g129 hS, g130 hS, g131 hS, g384 hS, g385 hS, g256 hS, g576 hS, g192 hS, g193 hS, g707 hS, g708 hS, g709 hS, g710 hS, g712 hS, g713 hS, g714 hS, g715 hS, g716 hS, g720 hS, g721 hS, g722 hS, g723 hS, g724 hS, g725 hS, g726 hS, g728 hS, g729 hS, g730 hS, g731 hS, g732 hS, g733 hS, g734 hS, g735 hS, g736 hS, g737 hS, g738 hS, g740 hS, g751 hS, g752 hS, b13, nI_1, eFs, br_y c2, g1]
    · rw [d1, d2, d3]
      simp only [caF, hgF, adv, d4]
      rw [u1] at g4
      exact g4
    · rw [d1, d3]
      simp only [tcF, d4]
      rw [← htc, ← u2, pk_sub (by omega)]
      exact congrArg nI (by omega)
    · rw [d1]
      intro v v1 v2
      obtain ⟨p1, p2⟩ := g5 v v2 (by omega)
      obtain ⟨q1, q2⟩ := hsm v (by omega) v2
      exact ⟨p1.trans q1, p2.trans q2⟩
    · rw [d1]
      exact g6
  · have c2 : ¬ nI ((t + i) % 168 + 1) = (168 : Int32) := by rw [show (168 : Int32) = nI 168 from rfl, nI_eq (by omega) (by decide)]; exact he
    have d1 : (t + (i + 1)) / 168 = (t + i) / 168 := by omega
    have d2 : (t + (i + 1)) % 168 = (t + i) % 168 + 1 := by omega
    refine ⟨zsF z 705 17 (nI ((t + i) % 168 + 1)), ?_, hR.sF (by decide), tm, htm, ?_, ?_, ?_, ?_⟩
    · simp only [fX12_go_40, fX12_go_69, br_n c, gdT, brTr, brFa, br_00, br_10, bd_e, bo_s, bp_s, cs_s, cs_n, lf_s, o0 hS, o1 hS, o2 hS, o3 hS, o4 hS, o5 hS, o6 hS, o7 hS, o8 hS, o9 hS, o10 hS, o11 hS, o12 hS, o13 hS, o14 hS, o15 hS, o16 hS, o17 hS, o18 hS, o19 hS, o20 hS, o21 hS, o22 hS, o23 hS, o24 hS, o25 hS, o26 hS, o27 hS, o28 hS, o29 hS, o30 hS, o31 hS, o32 hS, o33 hS, o34 hS, o35 hS, o36 hS, o37 hS, o38 hS, o39 hS, o40 hS, o41 hS, o42 hS, o43 hS, o44 hS, o45 hS, o46 hS, o47 hS, l2 hS, l3 hS, l4 hS, l5 hS, l7 hS, l8 hS, l10 hS, l12 hS, l14 hS, l15 hS, l16 hS, l18 hS, l19 hS, l20 hS, l21 hS, l22 hS, l23 hS, l24 hS, l25 hS, l26 hS, l27 hS, l28 hS, l29 hS, l30 hS, l31 hS, l32 hS, l33 hS, l34 hS, l35 hS, l36 hS, l37 hS, l38 hS, l39 hS, l40 hS, l41 hS, l42 hS, l43 hS, l44 hS, l45 hS, l46 hS, l47 hS, g640 hS, g641 hS, g642 hS, g643 hS, g644 hS, g645 hS, g128 hS, g129 hS, g130 hS, g131 hS, g384 hS, g385 hS, g256 hS, g576 hS, g192 hS, g193 hS, g707 hS, g708 hS, g709 hS, g710 hS, g712 hS, g713 hS, g714 hS, g715 hS, g716 hS, g720 hS, g721 hS, g722 hS, g723 hS, g724 hS, g725 hS, g726 hS, g728 hS, g729 hS, g730 hS, g731 hS, g732 hS, g733 hS, g734 hS, g735 hS, g736 hS, g737 hS, g738 hS, g740 hS, g751 hS, g752 hS, b13, nI_1, eFs, br_n c2]
    · rw [d1, d2]; exact hG2
    · rw [d1]; exact htc
    · rw [d1]; exact hsm
    · rw [d1]; exact hok
theorem hoursM {N : Nat} {A B A14 A15 : Nat → Int32} {nw : Int32} {mo ea ra sc : Nat} {hc tc : Int32} {st nh w : Nat} {h0 : Int32} {t nb nr ng gv nt n : Nat} (hN : 6000 ≤ N) (hmo : mo ≤ 10000) (hea : ea ≤ 1000) (hra : ra ≤ 100) (hst : st ≤ 100000000) (hwt : w ≤ t / 168) (hn : n ≤ 5000) (ht : t + n < 33600) :
    ∀ m i z, i + m = n → MI z A B A14 A15 nw mo ea ra sc hc tc st nh w h0 t nb nr ng gv nt i → ∀ M, m < M → ∃ z', wh (fun (u : Int32 × Hp) => fX12_go_40 N 17 (nI n) u.1 u.2) M (nI i, z) = some (nI ((t + n) / 168), z') ∧ MI z' A B A14 A15 nw mo ea ra sc hc tc st nh w h0 t nb nr ng gv nt n := by
  intro m
  induction m with
  | zero =>
    intro i z hm h M hM
    obtain ⟨M', rfl⟩ : ∃ M', M = M' + 1 := ⟨M - 1, by omega⟩
    have e : i = n := by omega
    subst e
    refine ⟨z, wh_out ?_, h⟩
    obtain ⟨hR, tm, htm, hG, htc, hsm, hok⟩ := h
    have hS : Sh z := hR.1
    obtain ⟨⟨a1, a2⟩, bn, b0, b1, b2, b3, b4, b5, b6, b7, b8, b9, b10, b11, b12, b13⟩ := id hG
    simp only [fX12_go_40, br_y (Int32.le_refl (nI i)), gdT, brTr, brFa, br_00, br_10, bd_e, bo_s, bp_s, cs_s, cs_n, lf_s, o0 hS, o1 hS, o2 hS, o3 hS, o4 hS, o5 hS, o6 hS, o7 hS, o8 hS, o9 hS, o10 hS, o11 hS, o12 hS, o13 hS, o14 hS, o15 hS, o16 hS, o17 hS, o18 hS, o19 hS, o20 hS, o21 hS, o22 hS, o23 hS, o24 hS, o25 hS, o26 hS, o27 hS, o28 hS, o29 hS, o30 hS, o31 hS, o32 hS, o33 hS, o34 hS, o35 hS, o36 hS, o37 hS, o38 hS, o39 hS, o40 hS, o41 hS, o42 hS, o43 hS, o44 hS, o45 hS, o46 hS, o47 hS, l2 hS, l3 hS, l4 hS, l5 hS, l7 hS, l8 hS, l10 hS, l12 hS, l14 hS, l15 hS, l16 hS, l18 hS, l19 hS, l20 hS, l21 hS, l22 hS, l23 hS, l24 hS, l25 hS, l26 hS, l27 hS, l28 hS, l29 hS, l30 hS, l31 hS, l32 hS, l33 hS, l34 hS, l35 hS, l36 hS, l37 hS, l38 hS, l39 hS, l40 hS, l41 hS, l42 hS, l43 hS, l44 hS, l45 hS, l46 hS, l47 hS, g640 hS, g641 hS, g642 hS, g643 hS, g644 hS, g645 hS, g128 hS, g129 hS, g130 hS, g131 hS, g384 hS, g385 hS, g256 hS, g576 hS, g192 hS, g193 hS, g707 hS, g708 hS, g709 hS, g710 hS, g712 hS, g713 hS, g714 hS, g715 hS, g716 hS, g720 hS, g721 hS, g722 hS, g723 hS, g724 hS, g725 hS, g726 hS, g728 hS, g729 hS, g730 hS, g731 hS, g732 hS, g733 hS, g734 hS, g735 hS, g736 hS, g737 hS, g738 hS, g740 hS, g751 hS, g752 hS, b12]
  | succ m ih =>
    intro i z hm h M hM
    obtain ⟨M', rfl⟩ : ∃ M', M = M' + 1 := ⟨M - 1, by omega⟩
    obtain ⟨z1, g1, g2⟩ := hourM (n := n) hN hmo hea hra hst hwt (by omega) hn ht h
    obtain ⟨z', k1, k2⟩ := ih (i + 1) z1 (by omega) g2 M' (by omega)
    refine ⟨z', ?_, k2⟩
    rw [wh_in (s' := (nI (i + 1), z1)) g1]
    exact k1
theorem op_go (N : Nat) (hN : 6000 ≤ N) : Op_go N Inv := by
  intro z a1 hI
  obtain ⟨hS, hsc, hst, w, h, nb, nr, ng, gv, nt, nh, hn, hhv, hrec, hbk, hgr, hgf, hmk, htx, htn⟩ := id hI
  have hwk := weekNow_e (N := N) hS hn
  obtain ⟨⟨n1, n2, n3, n4, n5⟩, m2, m3, m4, m5, m6, ⟨n17, n18, n19⟩⟩ := id hn
  obtain ⟨⟨st, s1, s2⟩, ⟨mo, s3, s4⟩, ⟨ea, s5, s6⟩, ⟨ra, s10, s11, s12⟩, s7, s8, s9, s13, s14⟩ := id hst
  by_cases ho : a1 < 1 ∨ 5000 < a1
  · refine ⟨-2, z, z, ?_, of_eq_true (o17 hS), ?_, hI⟩
    · simp only [fX11_go, out_1 ho, gdT, brTr, brFa, br_00, br_10, bd_e, bo_s, bp_s, cs_s, cs_n, lf_s]
    · simp only [fX12_go, in_0 (A := 1) (B := 5000) (a := 1) (b := 5000) rfl rfl ho, gdT, brTr, brFa, br_00, br_10, bd_e, bo_s, bp_s, cs_s, cs_n, lf_s]
  obtain ⟨n, rfl, hn1, hn2⟩ := nI_rng (a := 1) (b := 5000) (by decide) (by decide) ho
  have ew : nI (168 * w + h) + nI n = nI (168 * w + h + n) := nI_add _ _
  have em : (168 : Int32) * nI w + nI h + nI n = nI (168 * w + h + n) := by rw [show (168 : Int32) = nI 168 from rfl, pk_mul, nI_add, nI_add]
  by_cases hT : 168 * w + h + n < 33600
  · have c1 : nI (168 * w + h + n) < (33600 : Int32) := by rw [show (33600 : Int32) = nI 33600 from rfl]; exact nI_lt hT (by decide)
    have c2 : nI (168 * w + h + n) ≤ (33599 : Int32) := by rw [show (33599 : Int32) = nI 33599 from rfl]; exact nI_le (by omega) (by decide)
    have ed : nI (168 * w + h + n) / (168 : Int32) = nI ((168 * w + h + n) / 168) := by rw [show (168 : Int32) = nI 168 from rfl, pk_div (by omega) (by decide) (by decide)]
    have hR : Rest z (168 * w + h) nb nr ng gv nt := ⟨hS, hsc, ⟨m2, m3, m4, m5, m6⟩, hrec, hbk, hgr, hgf, hmk, htx, htn⟩
    have hG : Gz z (zA z 14) (zA z 15) (nI (168 * w + h)) mo ea ra st (zF z 750 17) (nI nh) st (zF z 750 17) nh w h := ⟨⟨rfl, rfl⟩, n5, s3, s5, s10, s8.trans s3, s9.trans s5, s13.trans s10, s7.trans s1, s14, n18, s1, rfl, n17, n1, n2⟩
    obtain ⟨z1, g1, g2, g3, g4, g5⟩ := goC (N := N) (A := zA z 46) (B := zA z 47) (st := st) (nh := nh) (w := w) (last := (168 * w + h + n) / 168) (th := 168 * w + h + n) s4 s6 s12 s2 (by omega) hhv.2 (fun v => hhv.b n19) ((168 * w + h + n) / 168 - w) 0 z (by omega) hR hG rfl rfl N (by omega)
    have hMI : MI z1 (zA z 46) (zA z 47) (zA z 14) (zA z 15) (nI (168 * w + h + n)) mo ea ra (caF (zA z 46) (zA z 47) nh st w (mo * ea * ra / 100) (0 + ((168 * w + h + n) / 168 - w))) (hgF (zA z 46) (zA z 47) nh st w (mo * ea * ra / 100) (zF z 750 17) (0 + ((168 * w + h + n) / 168 - w))) (tcF (zA z 46) nh w (0 + ((168 * w + h + n) / 168 - w))) st nh w (zF z 750 17) (168 * w + h) nb nr ng gv nt 0 := by
      have d1 : (168 * w + h + 0) / 168 = w := by omega
      have d2 : (168 * w + h + 0) % 168 = h := by omega
      refine ⟨g2, nh, n19, ?_, ?_, ?_, ?_⟩
      · rw [d1, d2, Nat.sub_self]; exact g3
      · rw [d1, Nat.sub_self]; rfl
      · intro v _ _; rw [g4, g5]; exact ⟨rfl, rfl⟩
      · rw [d1, g4, g5]; exact hhv.1
    obtain ⟨z2, k1, hR2, tm, htm, hG2, htc, hsm, hok⟩ := hoursM (n := n) hN s4 s6 s12 s2 (by omega) hn2 (by omega) n 0 z1 (by omega) hMI N (by omega)
    refine ⟨nI ((168 * w + h + n) / 168), z1, z2, ?_, of_eq_true (o17 g2.1), ?_, ?_⟩
    · simp only [fX11_go, out_0 ho, gdT, brTr, brFa, br_00, br_10, bd_e, bo_s, bp_s, cs_s, cs_n, lf_s, o0 hS, o1 hS, o2 hS, o3 hS, o4 hS, o5 hS, o6 hS, o7 hS, o8 hS, o9 hS, o10 hS, o11 hS, o12 hS, o13 hS, o14 hS, o15 hS, o16 hS, o17 hS, o18 hS, o19 hS, o20 hS, o21 hS, o22 hS, o23 hS, o24 hS, o25 hS, o26 hS, o27 hS, o28 hS, o29 hS, o30 hS, o31 hS, o32 hS, o33 hS, o34 hS, o35 hS, o36 hS, o37 hS, o38 hS, o39 hS, o40 hS, o41 hS, o42 hS, o43 hS, o44 hS, o45 hS, o46 hS, o47 hS, l2 hS, l3 hS, l4 hS, l5 hS, l7 hS, l8 hS, l10 hS, l12 hS, l14 hS, l15 hS, l16 hS, l18 hS, l19 hS, l20 hS, l21 hS, l22 hS, l23 hS, l24 hS, l25 hS, l26 hS, l27 hS, l28 hS, l29 hS, l30 hS, l31 hS, l32 hS, l33 hS, l34 hS, l35 hS, l36 hS, l37 hS, l38 hS, l39 hS, l40 hS, l41 hS, l42 hS, l43 hS, l44 hS, l45 hS, l46 hS, l47 hS, g640 hS, g641 hS, g642 hS, g643 hS, g644 hS, g645 hS, g128 hS, g129 hS, g130 hS, g131 hS, g384 hS, g385 hS, g256 hS, g576 hS, g192 hS, g193 hS, g707 hS, g708 hS, g709 hS, g710 hS, g712 hS, g713 hS, g714 hS, g715 hS, g716 hS, g720 hS, g721 hS, g722 hS, g723 hS, g724 hS, g725 hS, g726 hS, g728 hS, g729 hS, g730 hS, g731 hS, g732 hS, g733 hS, g734 hS, g735 hS, g736 hS, g737 hS, g738 hS, g740 hS, g751 hS, g752 hS, n5, ew, br_y c1, ed, hwk, nI_1]
      exact g1
    · have hS1 : Sh z1 := g2.1
      obtain ⟨⟨a1, a2⟩, bn, b0, b1, b2, b3, b4, b5, b6, b7, b8, b9, b10, b11, b12, b13⟩ := id g3
      simp only [fX12_go, in_1 (A := 1) (B := 5000) (a := 1) (b := 5000) rfl rfl ho, gdT, brTr, brFa, br_00, br_10, bd_e, bo_s, bp_s, cs_s, cs_n, lf_s, o0 hS1, o1 hS1, o2 hS1, o3 hS1, o4 hS1, o5 hS1, o6 hS1, o7 hS1, o8 hS1, o9 hS1, o10 hS1, o11 hS1, o12 hS1, o13 hS1, o14 hS1, o15 hS1, o16 hS1, o17 hS1, o18 hS1, o19 hS1, o20 hS1, o21 hS1, o22 hS1, o23 hS1, o24 hS1, o25 hS1, o26 hS1, o27 hS1, o28 hS1, o29 hS1, o30 hS1, o31 hS1, o32 hS1, o33 hS1, o34 hS1, o35 hS1, o36 hS1, o37 hS1, o38 hS1, o39 hS1, o40 hS1, o41 hS1, o42 hS1, o43 hS1, o44 hS1, o45 hS1, o46 hS1, o47 hS1, l2 hS1, l3 hS1, l4 hS1, l5 hS1, l7 hS1, l8 hS1, l10 hS1, l12 hS1, l14 hS1, l15 hS1, l16 hS1, l18 hS1, l19 hS1, l20 hS1, l21 hS1, l22 hS1, l23 hS1, l24 hS1, l25 hS1, l26 hS1, l27 hS1, l28 hS1, l29 hS1, l30 hS1, l31 hS1, l32 hS1, l33 hS1, l34 hS1, l35 hS1, l36 hS1, l37 hS1, l38 hS1, l39 hS1, l40 hS1, l41 hS1, l42 hS1, l43 hS1, l44 hS1, l45 hS1, l46 hS1, l47 hS1, g640 hS1, g641 hS1, g642 hS1, g643 hS1, g644 hS1, g645 hS1, g128 hS1, g129 hS1, g130 hS1, g131 hS1, g384 hS1, g385 hS1, g256 hS1, g576 hS1, g192 hS1, g193 hS1, g707 hS1, g708 hS1, g709 hS1, g710 hS1, g712 hS1, g713 hS1, g714 hS1, g715 hS1, g716 hS1, g720 hS1, g721 hS1, g722 hS1, g723 hS1, g724 hS1, g725 hS1, g726 hS1, g728 hS1, g729 hS1, g730 hS1, g731 hS1, g732 hS1, g733 hS1, g734 hS1, g735 hS1, g736 hS1, g737 hS1, g738 hS1, g740 hS1, g751 hS1, g752 hS1, b12, b13, em, br_y c2]
      exact k1
    · obtain ⟨hS2, hsc2, ⟨p2, p3, p4, p5, p6⟩, hrec2, hbk2, hgr2, hgf2, hmk2, htx2, htn2⟩ := hR2
      obtain ⟨⟨a1, a2⟩, bn, b0, b1, b2, b3, b4, b5, b6, b7, b8, b9, b10, b11, b12, b13⟩ := id hG2
      have e0 : 0 + ((168 * w + h + n) / 168 - w) = (168 * w + h + n) / 168 - w := by omega
      rw [e0] at b6 b7 b8
      have hdm : 168 * ((168 * w + h + n) / 168) + (168 * w + h + n) % 168 = 168 * w + h + n := Nat.div_add_mod _ _
      refine ⟨hS2, hsc2, ⟨⟨_, b9, caF_le s2 _⟩, ⟨_, b0, s4⟩, ⟨_, b1, s6⟩, ⟨_, b2, s11, s12⟩, b6.trans b9.symm, b3.trans b0.symm, b4.trans b1.symm, b5.trans b2.symm, b7.trans b10.symm⟩, (168 * w + h + n) / 168, (168 * w + h + n) % 168, nb, nr, ng, gv, nt, tm, ⟨⟨b12, b13, by omega, by omega, by rw [hdm]; exact bn⟩, p2, p3, p4, p5, p6, ⟨b11, b8.trans htc.symm, htm⟩⟩, ⟨hok, fun v v1 v2 => ?_⟩, ?_, hbk2, hgr2, hgf2, hmk2, htx2, htn2⟩
      · obtain ⟨q1, q2⟩ := hhv.2 v (by omega) v2
        obtain ⟨r1, r2⟩ := hsm v v1 v2
        rw [a1, a2, q1, q2, r1, r2]
        exact ⟨rfl, rfl⟩
      · rw [hdm]
        exact hrec2.up (by omega)
  · have c1 : ¬ nI (168 * w + h + n) < (33600 : Int32) := by rw [show (33600 : Int32) = nI 33600 from rfl]; exact nI_nlt (by omega) (by omega)
    have c2 : ¬ nI (168 * w + h + n) ≤ (33599 : Int32) := by rw [show (33599 : Int32) = nI 33599 from rfl]; exact nI_ge (by omega) (by omega)
    refine ⟨-3, z, z, ?_, of_eq_true (o17 hS), ?_, hI⟩
    · simp only [fX11_go, out_0 ho, gdT, brTr, brFa, br_00, br_10, bd_e, bo_s, bp_s, cs_s, cs_n, lf_s, o0 hS, o1 hS, o2 hS, o3 hS, o4 hS, o5 hS, o6 hS, o7 hS, o8 hS, o9 hS, o10 hS, o11 hS, o12 hS, o13 hS, o14 hS, o15 hS, o16 hS, o17 hS, o18 hS, o19 hS, o20 hS, o21 hS, o22 hS, o23 hS, o24 hS, o25 hS, o26 hS, o27 hS, o28 hS, o29 hS, o30 hS, o31 hS, o32 hS, o33 hS, o34 hS, o35 hS, o36 hS, o37 hS, o38 hS, o39 hS, o40 hS, o41 hS, o42 hS, o43 hS, o44 hS, o45 hS, o46 hS, o47 hS, l2 hS, l3 hS, l4 hS, l5 hS, l7 hS, l8 hS, l10 hS, l12 hS, l14 hS, l15 hS, l16 hS, l18 hS, l19 hS, l20 hS, l21 hS, l22 hS, l23 hS, l24 hS, l25 hS, l26 hS, l27 hS, l28 hS, l29 hS, l30 hS, l31 hS, l32 hS, l33 hS, l34 hS, l35 hS, l36 hS, l37 hS, l38 hS, l39 hS, l40 hS, l41 hS, l42 hS, l43 hS, l44 hS, l45 hS, l46 hS, l47 hS, g640 hS, g641 hS, g642 hS, g643 hS, g644 hS, g645 hS, g128 hS, g129 hS, g130 hS, g131 hS, g384 hS, g385 hS, g256 hS, g576 hS, g192 hS, g193 hS, g707 hS, g708 hS, g709 hS, g710 hS, g712 hS, g713 hS, g714 hS, g715 hS, g716 hS, g720 hS, g721 hS, g722 hS, g723 hS, g724 hS, g725 hS, g726 hS, g728 hS, g729 hS, g730 hS, g731 hS, g732 hS, g733 hS, g734 hS, g735 hS, g736 hS, g737 hS, g738 hS, g740 hS, g751 hS, g752 hS, n5, ew, br_n c1]
    · simp only [fX12_go, in_1 (A := 1) (B := 5000) (a := 1) (b := 5000) rfl rfl ho, gdT, brTr, brFa, br_00, br_10, bd_e, bo_s, bp_s, cs_s, cs_n, lf_s, o0 hS, o1 hS, o2 hS, o3 hS, o4 hS, o5 hS, o6 hS, o7 hS, o8 hS, o9 hS, o10 hS, o11 hS, o12 hS, o13 hS, o14 hS, o15 hS, o16 hS, o17 hS, o18 hS, o19 hS, o20 hS, o21 hS, o22 hS, o23 hS, o24 hS, o25 hS, o26 hS, o27 hS, o28 hS, o29 hS, o30 hS, o31 hS, o32 hS, o33 hS, o34 hS, o35 hS, o36 hS, o37 hS, o38 hS, o39 hS, o40 hS, o41 hS, o42 hS, o43 hS, o44 hS, o45 hS, o46 hS, o47 hS, l2 hS, l3 hS, l4 hS, l5 hS, l7 hS, l8 hS, l10 hS, l12 hS, l14 hS, l15 hS, l16 hS, l18 hS, l19 hS, l20 hS, l21 hS, l22 hS, l23 hS, l24 hS, l25 hS, l26 hS, l27 hS, l28 hS, l29 hS, l30 hS, l31 hS, l32 hS, l33 hS, l34 hS, l35 hS, l36 hS, l37 hS, l38 hS, l39 hS, l40 hS, l41 hS, l42 hS, l43 hS, l44 hS, l45 hS, l46 hS, l47 hS, g640 hS, g641 hS, g642 hS, g643 hS, g644 hS, g645 hS, g128 hS, g129 hS, g130 hS, g131 hS, g384 hS, g385 hS, g256 hS, g576 hS, g192 hS, g193 hS, g707 hS, g708 hS, g709 hS, g710 hS, g712 hS, g713 hS, g714 hS, g715 hS, g716 hS, g720 hS, g721 hS, g722 hS, g723 hS, g724 hS, g725 hS, g726 hS, g728 hS, g729 hS, g730 hS, g731 hS, g732 hS, g733 hS, g734 hS, g735 hS, g736 hS, g737 hS, g738 hS, g740 hS, g751 hS, g752 hS, n1, n2, em, br_n c2]
