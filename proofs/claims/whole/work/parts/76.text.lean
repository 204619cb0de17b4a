/-- all but the numbers and the texts -/
def Oth (z : Hp) (t w nh nb nr ng gv : Nat) : Prop := Sh z ∧ I_sc z ∧ I_st z ∧ I_hv z w nh ∧ I_rec z t nb nr gv ∧ I_bk z nb nr ∧ I_gr z nr ng ∧ I_gf z nr gv ∧ I_mk z nr ∧ I_tn z nb
theorem Oth.al {z : Hp} {k n : Nat} {t w nh nb nr ng gv : Nat} (h : Oth z t w nh nb nr ng gv)  : Oth (zal z k n) t w nh nb nr ng gv := by
  obtain ⟨hS, hsc, hst, hhv, hrec, hbk, hgr, hgf, hmk, htn⟩ := h
  exact ⟨hS.al, hsc.al hS, hst.al hS, hhv.al hS, hrec.al hS, hbk.al hS, hgr.al hS, hgf.al hS, hmk.al hS, htn.al hS⟩
theorem Oth.sF {z : Hp} {f a : Nat} {v : Int32} {t w nh nb nr ng gv : Nat} (h : Oth z t w nh nb nr ng gv) (hf : f ∈ [512, 513, 514, 518, 257, 739]) : Oth (zsF z f a v) t w nh nb nr ng gv := by
  obtain ⟨hS, hsc, hst, hhv, hrec, hbk, hgr, hgf, hmk, htn⟩ := h
  have dI_sc : ∀ f : Nat, f ∈ [512, 513, 514, 518, 257, 739] → f ∉ [718, 648, 651, 719, 649, 744, 650, 745, 579, 743] := by decide
  have dI_st : ∀ f : Nat, f ∈ [512, 513, 514, 518, 257, 739] → f ∉ [746, 747, 748, 749, 195, 196, 197, 198, 199, 750] := by decide
  have dI_rec : ∀ f : Nat, f ∈ [512, 513, 514, 518, 257, 739] → f ∉ [768, 769, 770, 771, 324, 325, 326, 327, 68, 69, 70, 71, 72, 452, 453, 454, 455, 456, 457] := by decide
  have dI_bk : ∀ f : Nat, f ∈ [512, 513, 514, 518, 257, 739] → f ∉ [0, 1, 2, 3, 4, 5, 6] := by decide
  have dI_tn : ∀ f : Nat, f ∈ [512, 513, 514, 518, 257, 739] → f ∉ [741, 742, 577, 578] := by decide
  exact ⟨hS.sF, hsc.sF (dI_sc f hf), hst.sF (dI_st f hf), hhv.sF, hrec.sF (dI_rec f hf), hbk.sF (dI_bk f hf), hgr.sF, hgf.sF, hmk.sF, htn.sF (dI_tn f hf)⟩
theorem Oth.sG {z : Hp} {f a : Nat} {v : Option Nat} {t w nh nb nr ng gv : Nat} (h : Oth z t w nh nb nr ng gv) (hf : f ∈ [515, 516, 517]) (ha : 48 ≤ a) : Oth (zsG z f a v) t w nh nb nr ng gv := by
  obtain ⟨hS, hsc, hst, hhv, hrec, hbk, hgr, hgf, hmk, htn⟩ := h
  have dI_bk : ∀ f : Nat, f ∈ [515, 516, 517] → f ∉ [7] := by decide
  exact ⟨hS.sG ha, hsc.sG, hst.sG, hhv.sG, hrec.sG, hbk.sG (dI_bk f hf), hgr.sG, hgf.sG, hmk.sG, htn.sG⟩
theorem Oth.sA {z : Hp} {f a : Nat} {v : Int32} {t w nh nb nr ng gv : Nat} (h : Oth z t w nh nb nr ng gv) (hf : f ∈ [39, 40, 41, 42, 43, 44] ∨ 48 ≤ f) : Oth (zsA z f a v) t w nh nb nr ng gv := by
  obtain ⟨hS, hsc, hst, hhv, hrec, hbk, hgr, hgf, hmk, htn⟩ := h
  have dI_hv : ∀ f : Nat, (f ∈ [39, 40, 41, 42, 43, 44] ∨ 48 ≤ f) → f ∉ [46, 47, 14, 15] := by
    intro f hf q
    simp only [List.mem_cons, List.not_mem_nil, or_false] at hf q
    omega
  have dI_rec : ∀ f : Nat, (f ∈ [39, 40, 41, 42, 43, 44] ∨ 48 ≤ f) → f ∉ [18, 19, 20, 21, 22, 23, 24, 25, 27, 28, 29, 30, 31, 34] := by
    intro f hf q
    simp only [List.mem_cons, List.not_mem_nil, or_false] at hf q
    omega
  have dI_bk : ∀ f : Nat, (f ∈ [39, 40, 41, 42, 43, 44] ∨ 48 ≤ f) → f ∉ [18, 21, 25, 35, 36, 37, 38] := by
    intro f hf q
    simp only [List.mem_cons, List.not_mem_nil, or_false] at hf q
    omega
  have dI_gr : ∀ f : Nat, (f ∈ [39, 40, 41, 42, 43, 44] ∨ 48 ≤ f) → f ∉ [26, 18, 24] := by
    intro f hf q
    simp only [List.mem_cons, List.not_mem_nil, or_false] at hf q
    omega
  have dI_gf : ∀ f : Nat, (f ∈ [39, 40, 41, 42, 43, 44] ∨ 48 ≤ f) → f ∉ [18, 24, 25, 4, 5, 32, 33] := by
    intro f hf q
    simp only [List.mem_cons, List.not_mem_nil, or_false] at hf q
    omega
  have dI_mk : ∀ f : Nat, (f ∈ [39, 40, 41, 42, 43, 44] ∨ 48 ≤ f) → f ∉ [18, 19, 22, 23] := by
    intro f hf q
    simp only [List.mem_cons, List.not_mem_nil, or_false] at hf q
    omega
  have dI_tn : ∀ f : Nat, (f ∈ [39, 40, 41, 42, 43, 44] ∨ 48 ≤ f) → f ∉ [12, 45] := by
    intro f hf q
    simp only [List.mem_cons, List.not_mem_nil, or_false] at hf q
    omega
  exact ⟨hS.sA, hsc.sA, hst.sA, hhv.sA (dI_hv f hf), hrec.sA (dI_rec f hf), hbk.sA (dI_bk f hf), hgr.sA (dI_gr f hf), hgf.sA (dI_gf f hf), hmk.sA (dI_mk f hf), htn.sA (dI_tn f hf)⟩
theorem Oth.sR {z : Hp} {a : Nat} {v : Option Nat} {t w nh nb nr ng gv : Nat} (h : Oth z t w nh nb nr ng gv)  : Oth (zsR z 10 a v) t w nh nb nr ng gv := by
  obtain ⟨hS, hsc, hst, hhv, hrec, hbk, hgr, hgf, hmk, htn⟩ := h
  exact ⟨hS.sR, hsc.sR, hst.sR, hhv.sR, hrec.sR (by decide), hbk.sR (by decide), hgr.sR (by decide), hgf.sR, hmk.sR, htn.sR⟩
/-- cells that stay, with their rows -/
def PF (z z' : Hp) (S : Nat → Prop) : Prop := zn z ≤ zn z' ∧ ∀ c, S c → Sm z z' c ∧ zL z' c = zL z c ∧ zA z' c = zA z c
theorem PF.refl (z : Hp) (S : Nat → Prop) : PF z z S := ⟨Nat.le_refl _, fun c _ => ⟨Sm.refl z c, rfl, rfl⟩⟩
theorem PF.sF {z y : Hp} {S : Nat → Prop} {f d : Nat} {v : Int32} (h : PF z y S) (hd : ∀ c, S c → c ≠ d) : PF z (zsF y f d v) S := ⟨h.1, fun c hc => ⟨(h.2 c hc).1.sF (hd c hc), (h.2 c hc).2⟩⟩
theorem PF.sG {z y : Hp} {S : Nat → Prop} {f d : Nat} {v : Option Nat} (h : PF z y S) (hd : ∀ c, S c → c ≠ d) : PF z (zsG y f d v) S := ⟨h.1, fun c hc => ⟨(h.2 c hc).1.sG (hd c hc), (h.2 c hc).2⟩⟩
theorem PF.sA {z y : Hp} {S : Nat → Prop} {d i : Nat} {v : Int32} (h : PF z y S) (hd : ∀ c, S c → c ≠ d) : PF z (zsA y d i v) S := ⟨h.1, fun c hc => ⟨(h.2 c hc).1.sA, (h.2 c hc).2.1, by rw [eA_n _ _ _ _ (hd c hc)]; exact (h.2 c hc).2.2⟩⟩
theorem PF.sR {z y : Hp} {S : Nat → Prop} {d i : Nat} {v : Option Nat} (h : PF z y S) : PF z (zsR y d i v) S := h
theorem PF.al {z y : Hp} {S : Nat → Prop} {k n : Nat} (h : PF z y S) (hd : ∀ c, S c → c < zn z) : PF z (zal y k n) S := by
  refine ⟨by rw [al_n]; have := h.1; omega, fun c hc => ?_⟩
  have hne : c ≠ zn y := by have := hd c hc; have := h.1; omega
  exact ⟨(h.2 c hc).1.al hne, by rw [al_L, va_up_ne _ _ hne]; exact (h.2 c hc).2.1, by rw [al_A _ _ _ hne]; exact (h.2 c hc).2.2⟩
theorem txtOf.cg {z z' : Hp} {t a : Nat} {S : Nat → Prop} (h : txtOf z t a) (hp : PF z z' S) (s0 : S a) (s1 : S (a + 1)) (s2 : S (a + 2)) (s3 : S (a + 3)) (h39 : zA z' 39 t = zA z 39 t) (h41 : zA z' 41 t = zA z 41 t) (h44 : zA z' 44 t = zA z 44 t) (h42 : ∀ j, j < 8 → zA z' 42 (8 * t + j) = zA z 42 (8 * t + j)) (h43 : ∀ j, j < 8 → zA z' 43 (8 * t + j) = zA z 43 (8 * t + j)) (h40 : ∀ k, k < 3 → zA z' 40 (3 * t + k) = zA z 40 (3 * t + k)) : txtOf z' t a := by
  obtain ⟨hn, hp⟩ := hp
  obtain ⟨⟨k0, f0, g0⟩, -, -⟩ := hp a s0
  obtain ⟨⟨k1, -, -⟩, l1, a1⟩ := hp _ s1
  obtain ⟨⟨k2, -, -⟩, l2, a2⟩ := hp _ s2
  obtain ⟨⟨k3, -, -⟩, l3, a3⟩ := hp _ s3
  unfold txtOf at h ⊢
  rw [k0, k1, k2, k3, l1, l2, l3, g0 515, g0 516, g0 517, f0 512, f0 513, f0 514, f0 518, a1, a2, a3, h39, h41, h44]
  obtain ⟨p1, p2, p3, p4, p5, p6, p7, p8, p9, p10, p11, ⟨ns, q1, q2, q3⟩, p13⟩ := h
  refine ⟨p1, by omega, p3, p4, p5, p6, p7, p8, p9, p10, p11, ⟨ns, q1, q2, fun j hj => ?_⟩, fun k hk => ?_⟩
  · rw [h42 j (by omega), h43 j (by omega)]
    exact q3 j hj
  · rw [h40 k hk]
    exact p13 k hk
def tyA (y : Hp) (n0 nt : Nat) (x1 x6 : Int32) : Hp := zsF (zsF (zsF y 512 n0 (nI nt)) 513 n0 x1) 514 n0 x6
def tyB (y : Hp) (n0 : Nat) (s0 s1 s2 : Int32) : Hp := zsA (zsA (zsA (zsG (zal y 12 3) 515 n0 (some (n0 + 1))) (n0 + 1) 0 s0) (n0 + 1) 1 s1) (n0 + 1) 2 s2
def tyC (y : Hp) (n0 : Nat) : Hp := zsG (zal y 12 8) 516 n0 (some (n0 + 2))
def tyD (y : Hp) (n0 : Nat) : Hp := zsG (zal y 12 8) 517 n0 (some (n0 + 3))
def tyE (y : Hp) (n0 nt : Nat) : Hp := zsF (zsR y 10 nt (some n0)) 257 9 (nI (nt + 1))
def tyM (x : Hp) (nt : Nat) (x1 s0 s1 s2 x6 : Int32) : Hp := zsF (zsA (zsA (zsA (zsA (zsA x 39 nt x1) 40 (3 * nt) s0) 40 (3 * nt + 1) s1) 40 (3 * nt + 2) s2) 41 nt x6) 739 17 (nI (nt + 1))
/-- what a new text's cells hold -/
def NwT (y : Hp) (n0 : Nat) (x0 x1 s0 s1 s2 x6 : Int32) : Prop := (zK y n0 = 8 ∧ zK y (n0 + 1) = 12 ∧ zK y (n0 + 2) = 12 ∧ zK y (n0 + 3) = 12) ∧ (zL y (n0 + 1) = 3 ∧ zL y (n0 + 2) = 8 ∧ zL y (n0 + 3) = 8) ∧ (zG y 515 n0 = some (n0 + 1) ∧ zG y 516 n0 = some (n0 + 2) ∧ zG y 517 n0 = some (n0 + 3)) ∧ (zF y 512 n0 = x0 ∧ zF y 513 n0 = x1 ∧ zF y 514 n0 = x6 ∧ zF y 518 n0 = 0) ∧ (zA y (n0 + 1) 0 = s0 ∧ zA y (n0 + 1) 1 = s1 ∧ zA y (n0 + 1) 2 = s2)
theorem al_Am {z : Hp} {k n a m : Nat} (hm : zn z = m) (h : a ≠ m) : zA (zal z k n) a = zA z a := al_A z k n (by rw [hm]; exact h)
theorem tx_new {N : Nat} {y : Hp} {n0 nt : Nat} {x1 s0 s1 s2 x6 : Int32} (hS : Sh y) (h48 : 48 ≤ n0) (hz : zn y = n0 + 1) (hK : zK y n0 = 8) (hF : zF y 518 n0 = 0) : fX9_init N n0 (nI nt) x1 s0 s1 s2 x6 y = some (tyD (tyC (tyB (tyA y n0 nt x1 x6) n0 s0 s1 s2) n0) n0) ∧ NwT (tyD (tyC (tyB (tyA y n0 nt x1 x6) n0 s0 s1 s2) n0) n0) n0 (nI nt) x1 s0 s1 s2 x6 ∧ zn (tyD (tyC (tyB (tyA y n0 nt x1 x6) n0 s0 s1 s2) n0) n0) = n0 + 4 := by
  have e1 : zn (tyA y n0 nt x1 x6) = n0 + 1 := by simp only [tyA, eF_zn, eF_zK, eF_zL, eF_s, eF_n, eF_zG, eF_zA, eF_zJ, eF_zR, eG_zn, eG_zK, eG_zL, eG_zF, eG_s, eG_n, eG_zA, eG_zJ, eG_zR, eA_zn, eA_zK, eA_zL, eA_zF, eA_zG, eA_s, eA_n, eA_zJ, eA_zR, eJ_zn, eJ_zK, eJ_zL, eJ_zF, eJ_zG, eJ_zA, eJ_s, eJ_n, eJ_zR, eR_zn, eR_zK, eR_zL, eR_zF, eR_zG, eR_zA, eR_zJ, eR_s, eR_n]; exact hz
  have k1 : zK (tyA y n0 nt x1 x6) n0 = 8 := by simp only [tyA, eF_zn, eF_zK, eF_zL, eF_s, eF_n, eF_zG, eF_zA, eF_zJ, eF_zR, eG_zn, eG_zK, eG_zL, eG_zF, eG_s, eG_n, eG_zA, eG_zJ, eG_zR, eA_zn, eA_zK, eA_zL, eA_zF, eA_zG, eA_s, eA_n, eA_zJ, eA_zR, eJ_zn, eJ_zK, eJ_zL, eJ_zF, eJ_zG, eJ_zA, eJ_s, eJ_n, eJ_zR, eR_zn, eR_zK, eR_zL, eR_zF, eR_zG, eR_zA, eR_zJ, eR_s, eR_n]; exact hK
  have f512 : zF (tyA y n0 nt x1 x6) 512 n0 = nI nt := by simp only [tyA, eF_zn, eF_zK, eF_zL, eF_s, eF_n, eF_zG, eF_zA, eF_zJ, eF_zR, eG_zn, eG_zK, eG_zL, eG_zF, eG_s, eG_n, eG_zA, eG_zJ, eG_zR, eA_zn, eA_zK, eA_zL, eA_zF, eA_zG, eA_s, eA_n, eA_zJ, eA_zR, eJ_zn, eJ_zK, eJ_zL, eJ_zF, eJ_zG, eJ_zA, eJ_s, eJ_n, eJ_zR, eR_zn, eR_zK, eR_zL, eR_zF, eR_zG, eR_zA, eR_zJ, eR_s, eR_n, ne_eq, not_false_eq_true, not_true_eq_false, reduceCtorEq, Nat.reduceEqDiff, va_up_self]
  have f513 : zF (tyA y n0 nt x1 x6) 513 n0 = x1 := by simp only [tyA, eF_zn, eF_zK, eF_zL, eF_s, eF_n, eF_zG, eF_zA, eF_zJ, eF_zR, eG_zn, eG_zK, eG_zL, eG_zF, eG_s, eG_n, eG_zA, eG_zJ, eG_zR, eA_zn, eA_zK, eA_zL, eA_zF, eA_zG, eA_s, eA_n, eA_zJ, eA_zR, eJ_zn, eJ_zK, eJ_zL, eJ_zF, eJ_zG, eJ_zA, eJ_s, eJ_n, eJ_zR, eR_zn, eR_zK, eR_zL, eR_zF, eR_zG, eR_zA, eR_zJ, eR_s, eR_n, ne_eq, not_false_eq_true, not_true_eq_false, reduceCtorEq, Nat.reduceEqDiff, va_up_self]
  have f514 : zF (tyA y n0 nt x1 x6) 514 n0 = x6 := by simp only [tyA, eF_zn, eF_zK, eF_zL, eF_s, eF_n, eF_zG, eF_zA, eF_zJ, eF_zR, eG_zn, eG_zK, eG_zL, eG_zF, eG_s, eG_n, eG_zA, eG_zJ, eG_zR, eA_zn, eA_zK, eA_zL, eA_zF, eA_zG, eA_s, eA_n, eA_zJ, eA_zR, eJ_zn, eJ_zK, eJ_zL, eJ_zF, eJ_zG, eJ_zA, eJ_s, eJ_n, eJ_zR, eR_zn, eR_zK, eR_zL, eR_zF, eR_zG, eR_zA, eR_zJ, eR_s, eR_n, ne_eq, not_false_eq_true, not_true_eq_false, reduceCtorEq, Nat.reduceEqDiff, va_up_self]
  have f518 : zF (tyA y n0 nt x1 x6) 518 n0 = 0 := by simp only [tyA, eF_zn, eF_zK, eF_zL, eF_s, eF_n, eF_zG, eF_zA, eF_zJ, eF_zR, eG_zn, eG_zK, eG_zL, eG_zF, eG_s, eG_n, eG_zA, eG_zJ, eG_zR, eA_zn, eA_zK, eA_zL, eA_zF, eA_zG, eA_s, eA_n, eA_zJ, eA_zR, eJ_zn, eJ_zK, eJ_zL, eJ_zF, eJ_zG, eJ_zA, eJ_s, eJ_n, eJ_zR, eR_zn, eR_zK, eR_zL, eR_zF, eR_zG, eR_zA, eR_zJ, eR_s, eR_n, ne_eq, not_false_eq_true, not_true_eq_false, reduceCtorEq, Nat.reduceEqDiff]; exact hF
  have hA : zsF (zsF (zsF y 512 n0 (nI nt)) 513 n0 x1) 514 n0 x6 = tyA y n0 nt x1 x6 := rfl
  have g8 : (n0 < zn y ∧ zK y n0 = 8) = True := okE (by omega) hK
  generalize tyA y n0 nt x1 x6 = y1 at *
  have e2 : zn (tyB y1 n0 s0 s1 s2) = n0 + 2 := by simp only [tyB, eF_zn, eF_zK, eF_zL, eF_s, eF_n, eF_zG, eF_zA, eF_zJ, eF_zR, eG_zn, eG_zK, eG_zL, eG_zF, eG_s, eG_n, eG_zA, eG_zJ, eG_zR, eA_zn, eA_zK, eA_zL, eA_zF, eA_zG, eA_s, eA_n, eA_zJ, eA_zR, eJ_zn, eJ_zK, eJ_zL, eJ_zF, eJ_zG, eJ_zA, eJ_s, eJ_n, eJ_zR, eR_zn, eR_zK, eR_zL, eR_zF, eR_zG, eR_zA, eR_zJ, eR_s, eR_n, al_n, e1]
  have k2 : zK (tyB y1 n0 s0 s1 s2) n0 = 8 := by simp only [tyB, eF_zn, eF_zK, eF_zL, eF_s, eF_n, eF_zG, eF_zA, eF_zJ, eF_zR, eG_zn, eG_zK, eG_zL, eG_zF, eG_s, eG_n, eG_zA, eG_zJ, eG_zR, eA_zn, eA_zK, eA_zL, eA_zF, eA_zG, eA_s, eA_n, eA_zJ, eA_zR, eJ_zn, eJ_zK, eJ_zL, eJ_zF, eJ_zG, eJ_zA, eJ_s, eJ_n, eJ_zR, eR_zn, eR_zK, eR_zL, eR_zF, eR_zG, eR_zA, eR_zJ, eR_s, eR_n, al_K, e1]; rw [va_up_ne _ _ (by omega)]; exact k1
  have k2' : zK (tyB y1 n0 s0 s1 s2) (n0 + 1) = 12 := by simp only [tyB, eF_zn, eF_zK, eF_zL, eF_s, eF_n, eF_zG, eF_zA, eF_zJ, eF_zR, eG_zn, eG_zK, eG_zL, eG_zF, eG_s, eG_n, eG_zA, eG_zJ, eG_zR, eA_zn, eA_zK, eA_zL, eA_zF, eA_zG, eA_s, eA_n, eA_zJ, eA_zR, eJ_zn, eJ_zK, eJ_zL, eJ_zF, eJ_zG, eJ_zA, eJ_s, eJ_n, eJ_zR, eR_zn, eR_zK, eR_zL, eR_zF, eR_zG, eR_zA, eR_zJ, eR_s, eR_n, al_K, e1, va_up_self]
  have l2' : zL (tyB y1 n0 s0 s1 s2) (n0 + 1) = 3 := by simp only [tyB, eF_zn, eF_zK, eF_zL, eF_s, eF_n, eF_zG, eF_zA, eF_zJ, eF_zR, eG_zn, eG_zK, eG_zL, eG_zF, eG_s, eG_n, eG_zA, eG_zJ, eG_zR, eA_zn, eA_zK, eA_zL, eA_zF, eA_zG, eA_s, eA_n, eA_zJ, eA_zR, eJ_zn, eJ_zK, eJ_zL, eJ_zF, eJ_zG, eJ_zA, eJ_s, eJ_n, eJ_zR, eR_zn, eR_zK, eR_zL, eR_zF, eR_zG, eR_zA, eR_zJ, eR_s, eR_n, al_L, e1, va_up_self]
  have g2 : zG (tyB y1 n0 s0 s1 s2) 515 n0 = some (n0 + 1) := by simp only [tyB, eF_zn, eF_zK, eF_zL, eF_s, eF_n, eF_zG, eF_zA, eF_zJ, eF_zR, eG_zn, eG_zK, eG_zL, eG_zF, eG_s, eG_n, eG_zA, eG_zJ, eG_zR, eA_zn, eA_zK, eA_zL, eA_zF, eA_zG, eA_s, eA_n, eA_zJ, eA_zR, eJ_zn, eJ_zK, eJ_zL, eJ_zF, eJ_zG, eJ_zA, eJ_s, eJ_n, eJ_zR, eR_zn, eR_zK, eR_zL, eR_zF, eR_zG, eR_zA, eR_zJ, eR_s, eR_n, va_up_self]
  have f2 : ∀ f, zF (tyB y1 n0 s0 s1 s2) f n0 = zF y1 f n0 := by intro f; simp only [tyB, eF_zn, eF_zK, eF_zL, eF_s, eF_n, eF_zG, eF_zA, eF_zJ, eF_zR, eG_zn, eG_zK, eG_zL, eG_zF, eG_s, eG_n, eG_zA, eG_zJ, eG_zR, eA_zn, eA_zK, eA_zL, eA_zF, eA_zG, eA_s, eA_n, eA_zJ, eA_zR, eJ_zn, eJ_zK, eJ_zL, eJ_zF, eJ_zG, eJ_zA, eJ_s, eJ_n, eJ_zR, eR_zn, eR_zK, eR_zL, eR_zF, eR_zG, eR_zA, eR_zJ, eR_s, eR_n, al_F, e1]; rw [va_up_ne _ _ (by omega)]
  have a20 : zA (tyB y1 n0 s0 s1 s2) (n0 + 1) 0 = s0 := by simp only [tyB, eA_s]; rw [va_up_ne _ _ (by decide), va_up_ne _ _ (by decide), va_up_self]
  have a21 : zA (tyB y1 n0 s0 s1 s2) (n0 + 1) 1 = s1 := by simp only [tyB, eA_s]; rw [va_up_ne _ _ (by decide), va_up_self]
  have a22 : zA (tyB y1 n0 s0 s1 s2) (n0 + 1) 2 = s2 := by simp only [tyB, eA_s]; rw [va_up_self]
  have gg : (n0 + 1 < zn (zal y1 12 3) ∧ zK (zal y1 12 3) (n0 + 1) = 12) = True := okE (by rw [al_n]; omega) (by rw [al_K, e1, va_up_self])
  have gl : zL (zal y1 12 3) (n0 + 1) = 3 := by rw [al_L, e1, va_up_self]
  have hB : zsA (zsA (zsA (zsG (zal y1 12 3) 515 n0 (some (n0 + 1))) (n0 + 1) 0 s0) (n0 + 1) 1 s1) (n0 + 1) 2 s2 = tyB y1 n0 s0 s1 s2 := rfl
  generalize tyB y1 n0 s0 s1 s2 = y2 at *
  have e3 : zn (tyC y2 n0) = n0 + 3 := by simp only [tyC, eF_zn, eF_zK, eF_zL, eF_s, eF_n, eF_zG, eF_zA, eF_zJ, eF_zR, eG_zn, eG_zK, eG_zL, eG_zF, eG_s, eG_n, eG_zA, eG_zJ, eG_zR, eA_zn, eA_zK, eA_zL, eA_zF, eA_zG, eA_s, eA_n, eA_zJ, eA_zR, eJ_zn, eJ_zK, eJ_zL, eJ_zF, eJ_zG, eJ_zA, eJ_s, eJ_n, eJ_zR, eR_zn, eR_zK, eR_zL, eR_zF, eR_zG, eR_zA, eR_zJ, eR_s, eR_n, al_n, e2]
  have k3 : zK (tyC y2 n0) n0 = 8 := by simp only [tyC, eF_zn, eF_zK, eF_zL, eF_s, eF_n, eF_zG, eF_zA, eF_zJ, eF_zR, eG_zn, eG_zK, eG_zL, eG_zF, eG_s, eG_n, eG_zA, eG_zJ, eG_zR, eA_zn, eA_zK, eA_zL, eA_zF, eA_zG, eA_s, eA_n, eA_zJ, eA_zR, eJ_zn, eJ_zK, eJ_zL, eJ_zF, eJ_zG, eJ_zA, eJ_s, eJ_n, eJ_zR, eR_zn, eR_zK, eR_zL, eR_zF, eR_zG, eR_zA, eR_zJ, eR_s, eR_n, al_K, e2]; rw [va_up_ne _ _ (by omega)]; exact k2
  have k3' : zK (tyC y2 n0) (n0 + 1) = 12 := by simp only [tyC, eF_zn, eF_zK, eF_zL, eF_s, eF_n, eF_zG, eF_zA, eF_zJ, eF_zR, eG_zn, eG_zK, eG_zL, eG_zF, eG_s, eG_n, eG_zA, eG_zJ, eG_zR, eA_zn, eA_zK, eA_zL, eA_zF, eA_zG, eA_s, eA_n, eA_zJ, eA_zR, eJ_zn, eJ_zK, eJ_zL, eJ_zF, eJ_zG, eJ_zA, eJ_s, eJ_n, eJ_zR, eR_zn, eR_zK, eR_zL, eR_zF, eR_zG, eR_zA, eR_zJ, eR_s, eR_n, al_K, e2]; rw [va_up_ne _ _ (by omega)]; exact k2'
  have k3'' : zK (tyC y2 n0) (n0 + 2) = 12 := by simp only [tyC, eF_zn, eF_zK, eF_zL, eF_s, eF_n, eF_zG, eF_zA, eF_zJ, eF_zR, eG_zn, eG_zK, eG_zL, eG_zF, eG_s, eG_n, eG_zA, eG_zJ, eG_zR, eA_zn, eA_zK, eA_zL, eA_zF, eA_zG, eA_s, eA_n, eA_zJ, eA_zR, eJ_zn, eJ_zK, eJ_zL, eJ_zF, eJ_zG, eJ_zA, eJ_s, eJ_n, eJ_zR, eR_zn, eR_zK, eR_zL, eR_zF, eR_zG, eR_zA, eR_zJ, eR_s, eR_n, al_K, e2, va_up_self]
  have l3' : zL (tyC y2 n0) (n0 + 1) = 3 := by simp only [tyC, eF_zn, eF_zK, eF_zL, eF_s, eF_n, eF_zG, eF_zA, eF_zJ, eF_zR, eG_zn, eG_zK, eG_zL, eG_zF, eG_s, eG_n, eG_zA, eG_zJ, eG_zR, eA_zn, eA_zK, eA_zL, eA_zF, eA_zG, eA_s, eA_n, eA_zJ, eA_zR, eJ_zn, eJ_zK, eJ_zL, eJ_zF, eJ_zG, eJ_zA, eJ_s, eJ_n, eJ_zR, eR_zn, eR_zK, eR_zL, eR_zF, eR_zG, eR_zA, eR_zJ, eR_s, eR_n, al_L, e2]; rw [va_up_ne _ _ (by omega)]; exact l2'
  have l3'' : zL (tyC y2 n0) (n0 + 2) = 8 := by simp only [tyC, eF_zn, eF_zK, eF_zL, eF_s, eF_n, eF_zG, eF_zA, eF_zJ, eF_zR, eG_zn, eG_zK, eG_zL, eG_zF, eG_s, eG_n, eG_zA, eG_zJ, eG_zR, eA_zn, eA_zK, eA_zL, eA_zF, eA_zG, eA_s, eA_n, eA_zJ, eA_zR, eJ_zn, eJ_zK, eJ_zL, eJ_zF, eJ_zG, eJ_zA, eJ_s, eJ_n, eJ_zR, eR_zn, eR_zK, eR_zL, eR_zF, eR_zG, eR_zA, eR_zJ, eR_s, eR_n, al_L, e2, va_up_self]
  have g3 : zG (tyC y2 n0) 515 n0 = some (n0 + 1) := by simp only [tyC, eF_zn, eF_zK, eF_zL, eF_s, eF_n, eF_zG, eF_zA, eF_zJ, eF_zR, eG_zn, eG_zK, eG_zL, eG_zF, eG_s, eG_n, eG_zA, eG_zJ, eG_zR, eA_zn, eA_zK, eA_zL, eA_zF, eA_zG, eA_s, eA_n, eA_zJ, eA_zR, eJ_zn, eJ_zK, eJ_zL, eJ_zF, eJ_zG, eJ_zA, eJ_s, eJ_n, eJ_zR, eR_zn, eR_zK, eR_zL, eR_zF, eR_zG, eR_zA, eR_zJ, eR_s, eR_n, ne_eq, not_false_eq_true, not_true_eq_false, reduceCtorEq, Nat.reduceEqDiff, al_G, e2]; rw [va_up_ne _ _ (by omega)]; exact g2
  have g3' : zG (tyC y2 n0) 516 n0 = some (n0 + 2) := by simp only [tyC, eF_zn, eF_zK, eF_zL, eF_s, eF_n, eF_zG, eF_zA, eF_zJ, eF_zR, eG_zn, eG_zK, eG_zL, eG_zF, eG_s, eG_n, eG_zA, eG_zJ, eG_zR, eA_zn, eA_zK, eA_zL, eA_zF, eA_zG, eA_s, eA_n, eA_zJ, eA_zR, eJ_zn, eJ_zK, eJ_zL, eJ_zF, eJ_zG, eJ_zA, eJ_s, eJ_n, eJ_zR, eR_zn, eR_zK, eR_zL, eR_zF, eR_zG, eR_zA, eR_zJ, eR_s, eR_n, va_up_self]
  have f3 : ∀ f, zF (tyC y2 n0) f n0 = zF y2 f n0 := by intro f; simp only [tyC, eF_zn, eF_zK, eF_zL, eF_s, eF_n, eF_zG, eF_zA, eF_zJ, eF_zR, eG_zn, eG_zK, eG_zL, eG_zF, eG_s, eG_n, eG_zA, eG_zJ, eG_zR, eA_zn, eA_zK, eA_zL, eA_zF, eA_zG, eA_s, eA_n, eA_zJ, eA_zR, eJ_zn, eJ_zK, eJ_zL, eJ_zF, eJ_zG, eJ_zA, eJ_s, eJ_n, eJ_zR, eR_zn, eR_zK, eR_zL, eR_zF, eR_zG, eR_zA, eR_zJ, eR_s, eR_n, al_F, e2]; rw [va_up_ne _ _ (by omega)]
  have a3 : zA (tyC y2 n0) (n0 + 1) = zA y2 (n0 + 1) := by simp only [tyC, eF_zn, eF_zK, eF_zL, eF_s, eF_n, eF_zG, eF_zA, eF_zJ, eF_zR, eG_zn, eG_zK, eG_zL, eG_zF, eG_s, eG_n, eG_zA, eG_zJ, eG_zR, eA_zn, eA_zK, eA_zL, eA_zF, eA_zG, eA_s, eA_n, eA_zJ, eA_zR, eJ_zn, eJ_zK, eJ_zL, eJ_zF, eJ_zG, eJ_zA, eJ_s, eJ_n, eJ_zR, eR_zn, eR_zK, eR_zL, eR_zF, eR_zG, eR_zA, eR_zJ, eR_s, eR_n]; rw [al_Am e2 (by omega)]
  have hC : zsG (zal y2 12 8) 516 n0 (some (n0 + 2)) = tyC y2 n0 := rfl
  generalize tyC y2 n0 = y3 at *
  have e4 : zn (tyD y3 n0) = n0 + 4 := by simp only [tyD, eF_zn, eF_zK, eF_zL, eF_s, eF_n, eF_zG, eF_zA, eF_zJ, eF_zR, eG_zn, eG_zK, eG_zL, eG_zF, eG_s, eG_n, eG_zA, eG_zJ, eG_zR, eA_zn, eA_zK, eA_zL, eA_zF, eA_zG, eA_s, eA_n, eA_zJ, eA_zR, eJ_zn, eJ_zK, eJ_zL, eJ_zF, eJ_zG, eJ_zA, eJ_s, eJ_n, eJ_zR, eR_zn, eR_zK, eR_zL, eR_zF, eR_zG, eR_zA, eR_zJ, eR_s, eR_n, al_n, e3]
  have k4 : zK (tyD y3 n0) n0 = 8 := by simp only [tyD, eF_zn, eF_zK, eF_zL, eF_s, eF_n, eF_zG, eF_zA, eF_zJ, eF_zR, eG_zn, eG_zK, eG_zL, eG_zF, eG_s, eG_n, eG_zA, eG_zJ, eG_zR, eA_zn, eA_zK, eA_zL, eA_zF, eA_zG, eA_s, eA_n, eA_zJ, eA_zR, eJ_zn, eJ_zK, eJ_zL, eJ_zF, eJ_zG, eJ_zA, eJ_s, eJ_n, eJ_zR, eR_zn, eR_zK, eR_zL, eR_zF, eR_zG, eR_zA, eR_zJ, eR_s, eR_n, al_K, e3]; rw [va_up_ne _ _ (by omega)]; exact k3
  have k4' : zK (tyD y3 n0) (n0 + 1) = 12 := by simp only [tyD, eF_zn, eF_zK, eF_zL, eF_s, eF_n, eF_zG, eF_zA, eF_zJ, eF_zR, eG_zn, eG_zK, eG_zL, eG_zF, eG_s, eG_n, eG_zA, eG_zJ, eG_zR, eA_zn, eA_zK, eA_zL, eA_zF, eA_zG, eA_s, eA_n, eA_zJ, eA_zR, eJ_zn, eJ_zK, eJ_zL, eJ_zF, eJ_zG, eJ_zA, eJ_s, eJ_n, eJ_zR, eR_zn, eR_zK, eR_zL, eR_zF, eR_zG, eR_zA, eR_zJ, eR_s, eR_n, al_K, e3]; rw [va_up_ne _ _ (by omega)]; exact k3'
  have k4'' : zK (tyD y3 n0) (n0 + 2) = 12 := by simp only [tyD, eF_zn, eF_zK, eF_zL, eF_s, eF_n, eF_zG, eF_zA, eF_zJ, eF_zR, eG_zn, eG_zK, eG_zL, eG_zF, eG_s, eG_n, eG_zA, eG_zJ, eG_zR, eA_zn, eA_zK, eA_zL, eA_zF, eA_zG, eA_s, eA_n, eA_zJ, eA_zR, eJ_zn, eJ_zK, eJ_zL, eJ_zF, eJ_zG, eJ_zA, eJ_s, eJ_n, eJ_zR, eR_zn, eR_zK, eR_zL, eR_zF, eR_zG, eR_zA, eR_zJ, eR_s, eR_n, al_K, e3]; rw [va_up_ne _ _ (by omega)]; exact k3''
  have k4''' : zK (tyD y3 n0) (n0 + 3) = 12 := by simp only [tyD, eF_zn, eF_zK, eF_zL, eF_s, eF_n, eF_zG, eF_zA, eF_zJ, eF_zR, eG_zn, eG_zK, eG_zL, eG_zF, eG_s, eG_n, eG_zA, eG_zJ, eG_zR, eA_zn, eA_zK, eA_zL, eA_zF, eA_zG, eA_s, eA_n, eA_zJ, eA_zR, eJ_zn, eJ_zK, eJ_zL, eJ_zF, eJ_zG, eJ_zA, eJ_s, eJ_n, eJ_zR, eR_zn, eR_zK, eR_zL, eR_zF, eR_zG, eR_zA, eR_zJ, eR_s, eR_n, al_K, e3, va_up_self]
  have l4' : zL (tyD y3 n0) (n0 + 1) = 3 := by simp only [tyD, eF_zn, eF_zK, eF_zL, eF_s, eF_n, eF_zG, eF_zA, eF_zJ, eF_zR, eG_zn, eG_zK, eG_zL, eG_zF, eG_s, eG_n, eG_zA, eG_zJ, eG_zR, eA_zn, eA_zK, eA_zL, eA_zF, eA_zG, eA_s, eA_n, eA_zJ, eA_zR, eJ_zn, eJ_zK, eJ_zL, eJ_zF, eJ_zG, eJ_zA, eJ_s, eJ_n, eJ_zR, eR_zn, eR_zK, eR_zL, eR_zF, eR_zG, eR_zA, eR_zJ, eR_s, eR_n, al_L, e3]; rw [va_up_ne _ _ (by omega)]; exact l3'
  have l4'' : zL (tyD y3 n0) (n0 + 2) = 8 := by simp only [tyD, eF_zn, eF_zK, eF_zL, eF_s, eF_n, eF_zG, eF_zA, eF_zJ, eF_zR, eG_zn, eG_zK, eG_zL, eG_zF, eG_s, eG_n, eG_zA, eG_zJ, eG_zR, eA_zn, eA_zK, eA_zL, eA_zF, eA_zG, eA_s, eA_n, eA_zJ, eA_zR, eJ_zn, eJ_zK, eJ_zL, eJ_zF, eJ_zG, eJ_zA, eJ_s, eJ_n, eJ_zR, eR_zn, eR_zK, eR_zL, eR_zF, eR_zG, eR_zA, eR_zJ, eR_s, eR_n, al_L, e3]; rw [va_up_ne _ _ (by omega)]; exact l3''
  have l4''' : zL (tyD y3 n0) (n0 + 3) = 8 := by simp only [tyD, eF_zn, eF_zK, eF_zL, eF_s, eF_n, eF_zG, eF_zA, eF_zJ, eF_zR, eG_zn, eG_zK, eG_zL, eG_zF, eG_s, eG_n, eG_zA, eG_zJ, eG_zR, eA_zn, eA_zK, eA_zL, eA_zF, eA_zG, eA_s, eA_n, eA_zJ, eA_zR, eJ_zn, eJ_zK, eJ_zL, eJ_zF, eJ_zG, eJ_zA, eJ_s, eJ_n, eJ_zR, eR_zn, eR_zK, eR_zL, eR_zF, eR_zG, eR_zA, eR_zJ, eR_s, eR_n, al_L, e3, va_up_self]
  have g4 : zG (tyD y3 n0) 515 n0 = some (n0 + 1) := by simp only [tyD, eF_zn, eF_zK, eF_zL, eF_s, eF_n, eF_zG, eF_zA, eF_zJ, eF_zR, eG_zn, eG_zK, eG_zL, eG_zF, eG_s, eG_n, eG_zA, eG_zJ, eG_zR, eA_zn, eA_zK, eA_zL, eA_zF, eA_zG, eA_s, eA_n, eA_zJ, eA_zR, eJ_zn, eJ_zK, eJ_zL, eJ_zF, eJ_zG, eJ_zA, eJ_s, eJ_n, eJ_zR, eR_zn, eR_zK, eR_zL, eR_zF, eR_zG, eR_zA, eR_zJ, eR_s, eR_n, ne_eq, not_false_eq_true, not_true_eq_false, reduceCtorEq, Nat.reduceEqDiff, al_G, e3]; rw [va_up_ne _ _ (by omega)]; exact g3
  have g4' : zG (tyD y3 n0) 516 n0 = some (n0 + 2) := by simp only [tyD, eF_zn, eF_zK, eF_zL, eF_s, eF_n, eF_zG, eF_zA, eF_zJ, eF_zR, eG_zn, eG_zK, eG_zL, eG_zF, eG_s, eG_n, eG_zA, eG_zJ, eG_zR, eA_zn, eA_zK, eA_zL, eA_zF, eA_zG, eA_s, eA_n, eA_zJ, eA_zR, eJ_zn, eJ_zK, eJ_zL, eJ_zF, eJ_zG, eJ_zA, eJ_s, eJ_n, eJ_zR, eR_zn, eR_zK, eR_zL, eR_zF, eR_zG, eR_zA, eR_zJ, eR_s, eR_n, ne_eq, not_false_eq_true, not_true_eq_false, reduceCtorEq, Nat.reduceEqDiff, al_G, e3]; rw [va_up_ne _ _ (by omega)]; exact g3'
  have g4'' : zG (tyD y3 n0) 517 n0 = some (n0 + 3) := by simp only [tyD, eF_zn, eF_zK, eF_zL, eF_s, eF_n, eF_zG, eF_zA, eF_zJ, eF_zR, eG_zn, eG_zK, eG_zL, eG_zF, eG_s, eG_n, eG_zA, eG_zJ, eG_zR, eA_zn, eA_zK, eA_zL, eA_zF, eA_zG, eA_s, eA_n, eA_zJ, eA_zR, eJ_zn, eJ_zK, eJ_zL, eJ_zF, eJ_zG, eJ_zA, eJ_s, eJ_n, eJ_zR, eR_zn, eR_zK, eR_zL, eR_zF, eR_zG, eR_zA, eR_zJ, eR_s, eR_n, va_up_self]
  have f4 : ∀ f, zF (tyD y3 n0) f n0 = zF y3 f n0 := by intro f; simp only [tyD, eF_zn, eF_zK, eF_zL, eF_s, eF_n, eF_zG, eF_zA, eF_zJ, eF_zR, eG_zn, eG_zK, eG_zL, eG_zF, eG_s, eG_n, eG_zA, eG_zJ, eG_zR, eA_zn, eA_zK, eA_zL, eA_zF, eA_zG, eA_s, eA_n, eA_zJ, eA_zR, eJ_zn, eJ_zK, eJ_zL, eJ_zF, eJ_zG, eJ_zA, eJ_s, eJ_n, eJ_zR, eR_zn, eR_zK, eR_zL, eR_zF, eR_zG, eR_zA, eR_zJ, eR_s, eR_n, al_F, e3]; rw [va_up_ne _ _ (by omega)]
  have a4 : zA (tyD y3 n0) (n0 + 1) = zA y3 (n0 + 1) := by simp only [tyD, eF_zn, eF_zK, eF_zL, eF_s, eF_n, eF_zG, eF_zA, eF_zJ, eF_zR, eG_zn, eG_zK, eG_zL, eG_zF, eG_s, eG_n, eG_zA, eG_zJ, eG_zR, eA_zn, eA_zK, eA_zL, eA_zF, eA_zG, eA_s, eA_n, eA_zJ, eA_zR, eJ_zn, eJ_zK, eJ_zL, eJ_zF, eJ_zG, eJ_zA, eJ_s, eJ_n, eJ_zR, eR_zn, eR_zK, eR_zL, eR_zF, eR_zG, eR_zA, eR_zJ, eR_s, eR_n]; rw [al_Am e3 (by omega)]
  have hD : zsG (zal y3 12 8) 517 n0 (some (n0 + 3)) = tyD y3 n0 := rfl
  have i0 : (¬ ((0 : Int32) < 0 ∨ 3 ≤ 0)) = True := eq_true (by decide)
  have i1 : (¬ ((1 : Int32) < 0 ∨ 3 ≤ 1)) = True := eq_true (by decide)
  have i2 : (¬ ((2 : Int32) < 0 ∨ 3 ≤ 2)) = True := eq_true (by decide)
  have j0 : Int32.toNatClampNeg (0 : Int32) = 0 := by decide
  have j1 : Int32.toNatClampNeg (1 : Int32) = 1 := by decide
  have j2 : Int32.toNatClampNeg (2 : Int32) = 2 := by decide
  refine ⟨?_, ⟨⟨k4, k4', k4'', k4'''⟩, ⟨l4', l4'', l4'''⟩, ⟨g4, g4', g4''⟩, ⟨by rw [f4, f3, f2]; exact f512, by rw [f4, f3, f2]; exact f513, by rw [f4, f3, f2]; exact f514, by rw [f4, f3, f2]; exact f518⟩, by rw [a4, a3]; exact a20, by rw [a4, a3]; exact a21, by rw [a4, a3]; exact a22⟩, e4⟩
  have gg2 : (n0 + 1 < n0 + 2 ∧ zK (zal y1 12 3) (n0 + 1) = 12) = True := eq_true ⟨by omega, by rw [al_K, e1, va_up_self]⟩
  have g8' : (n0 < n0 + 1 ∧ zK y n0 = 8) = True := eq_true ⟨by omega, hK⟩
  simp only [fX9_init, g8', gdT, bd_e, hA, hz, al_n, e1, eF_zn, eF_zK, eF_zL, eF_s, eF_n, eF_zG, eF_zA, eF_zJ, eF_zR, eG_zn, eG_zK, eG_zL, eG_zF, eG_s, eG_n, eG_zA, eG_zJ, eG_zR, eA_zn, eA_zK, eA_zL, eA_zF, eA_zG, eA_s, eA_n, eA_zJ, eA_zR, eJ_zn, eJ_zK, eJ_zL, eJ_zF, eJ_zG, eJ_zA, eJ_s, eJ_n, eJ_zR, eR_zn, eR_zK, eR_zL, eR_zF, eR_zG, eR_zA, eR_zJ, eR_s, eR_n, va_up_self, bo_s, gg2, gl, i0, i1, i2, j0, j1, j2, hB, e2, hC, e3, hD, Nat.add_assoc, Nat.reduceAdd]
theorem Oth.tx {z : Hp} {t w nh nb nr ng gv n0 nt : Nat} {x1 s0 s1 s2 x6 : Int32} (h : Oth z t w nh nb nr ng gv) (h48 : 48 ≤ n0) : Oth (tyD (tyC (tyB (tyA (zal z 8 0) n0 nt x1 x6) n0 s0 s1 s2) n0) n0) t w nh nb nr ng gv := by
  have a1 : Oth (tyA (zal z 8 0) n0 nt x1 x6) t w nh nb nr ng gv := (((h.al).sF (by decide)).sF (by decide)).sF (by decide)
  generalize tyA (zal z 8 0) n0 nt x1 x6 = y1 at *
  have a2 : Oth (tyB y1 n0 s0 s1 s2) t w nh nb nr ng gv := (((((a1.al).sG (by decide) h48).sA (Or.inr (by omega))).sA (Or.inr (by omega))).sA (Or.inr (by omega)))
  generalize tyB y1 n0 s0 s1 s2 = y2 at *
  have a3 : Oth (tyC y2 n0) t w nh nb nr ng gv := (a2.al).sG (by decide) h48
  generalize tyC y2 n0 = y3 at *
  exact (a3.al).sG (by decide) h48
theorem Oth.txe {y : Hp} {t w nh nb nr ng gv n0 nt : Nat} (h : Oth y t w nh nb nr ng gv) : Oth (tyE y n0 nt) t w nh nb nr ng gv := (h.sR).sF (by decide)
theorem Oth.txm {y : Hp} {t w nh nb nr ng gv nt : Nat} {x1 s0 s1 s2 x6 : Int32} (h : Oth y t w nh nb nr ng gv) : Oth (tyM y nt x1 s0 s1 s2 x6) t w nh nb nr ng gv := (((((h.sA (Or.inl (by decide))).sA (Or.inl (by decide))).sA (Or.inl (by decide))).sA (Or.inl (by decide))).sA (Or.inl (by decide))).sF (by decide)
theorem PF.tx {z : Hp} {S : Nat → Prop} {n0 nt : Nat} {x1 s0 s1 s2 x6 : Int32} (hd : ∀ c, S c → c < n0) (hz : zn z = n0) : PF z (tyD (tyC (tyB (tyA (zal z 8 0) n0 nt x1 x6) n0 s0 s1 s2) n0) n0) S := by
  have hl : ∀ c, S c → c < zn z := fun c hc => by rw [hz]; exact hd c hc
  have a1 : PF z (tyA (zal z 8 0) n0 nt x1 x6) S := ((((PF.refl z S).al hl).sF (fun c hc => by have := hd c hc; omega)).sF (fun c hc => by have := hd c hc; omega)).sF (fun c hc => by have := hd c hc; omega)
  generalize tyA (zal z 8 0) n0 nt x1 x6 = y1 at *
  have a2 : PF z (tyB y1 n0 s0 s1 s2) S := (((((a1.al hl).sG (fun c hc => by have := hd c hc; omega)).sA (fun c hc => by have := hd c hc; omega)).sA (fun c hc => by have := hd c hc; omega)).sA (fun c hc => by have := hd c hc; omega))
  generalize tyB y1 n0 s0 s1 s2 = y2 at *
  have a3 : PF z (tyC y2 n0) S := (a2.al hl).sG (fun c hc => by have := hd c hc; omega)
  generalize tyC y2 n0 = y3 at *
  exact (a3.al hl).sG (fun c hc => by have := hd c hc; omega)
/-- the fixed rows and fields that a new text leaves -/
theorem tx_fix {z : Hp} {n0 nt : Nat} {x1 s0 s1 s2 x6 : Int32} (h48 : 48 ≤ n0) (hz : zn z = n0) : (∀ f c, c < 48 → zF (tyD (tyC (tyB (tyA (zal z 8 0) n0 nt x1 x6) n0 s0 s1 s2) n0) n0) f c = zF z f c) ∧ (∀ c, c < 48 → zA (tyD (tyC (tyB (tyA (zal z 8 0) n0 nt x1 x6) n0 s0 s1 s2) n0) n0) c = zA z c) ∧ (∀ c, c < 48 → zR (tyD (tyC (tyB (tyA (zal z 8 0) n0 nt x1 x6) n0 s0 s1 s2) n0) n0) c = zR z c) := by
  have p := PF.tx (z := z) (S := fun c => c < 48) (n0 := n0) (nt := nt) (x1 := x1) (s0 := s0) (s1 := s1) (s2 := s2) (x6 := x6) (fun c hc => by omega) hz
  refine ⟨fun f c hc => (p.2 c hc).1.2.1 f, fun c hc => (p.2 c hc).2.2, fun c hc => ?_⟩
  have e1 : zn (tyA (zal z 8 0) n0 nt x1 x6) = n0 + 1 := by simp only [tyA, eF_zn, eF_zK, eF_zL, eF_s, eF_n, eF_zG, eF_zA, eF_zJ, eF_zR, eG_zn, eG_zK, eG_zL, eG_zF, eG_s, eG_n, eG_zA, eG_zJ, eG_zR, eA_zn, eA_zK, eA_zL, eA_zF, eA_zG, eA_s, eA_n, eA_zJ, eA_zR, eJ_zn, eJ_zK, eJ_zL, eJ_zF, eJ_zG, eJ_zA, eJ_s, eJ_n, eJ_zR, eR_zn, eR_zK, eR_zL, eR_zF, eR_zG, eR_zA, eR_zJ, eR_s, eR_n, al_n, hz]
  have r1 : zR (tyA (zal z 8 0) n0 nt x1 x6) c = zR z c := by simp only [tyA, eF_zn, eF_zK, eF_zL, eF_s, eF_n, eF_zG, eF_zA, eF_zJ, eF_zR, eG_zn, eG_zK, eG_zL, eG_zF, eG_s, eG_n, eG_zA, eG_zJ, eG_zR, eA_zn, eA_zK, eA_zL, eA_zF, eA_zG, eA_s, eA_n, eA_zJ, eA_zR, eJ_zn, eJ_zK, eJ_zL, eJ_zF, eJ_zG, eJ_zA, eJ_s, eJ_n, eJ_zR, eR_zn, eR_zK, eR_zL, eR_zF, eR_zG, eR_zA, eR_zJ, eR_s, eR_n]; exact al_R _ _ _ (by omega)
  rw [← r1]
  generalize tyA (zal z 8 0) n0 nt x1 x6 = y1 at *
  have e2 : zn (tyB y1 n0 s0 s1 s2) = n0 + 2 := by simp only [tyB, eF_zn, eF_zK, eF_zL, eF_s, eF_n, eF_zG, eF_zA, eF_zJ, eF_zR, eG_zn, eG_zK, eG_zL, eG_zF, eG_s, eG_n, eG_zA, eG_zJ, eG_zR, eA_zn, eA_zK, eA_zL, eA_zF, eA_zG, eA_s, eA_n, eA_zJ, eA_zR, eJ_zn, eJ_zK, eJ_zL, eJ_zF, eJ_zG, eJ_zA, eJ_s, eJ_n, eJ_zR, eR_zn, eR_zK, eR_zL, eR_zF, eR_zG, eR_zA, eR_zJ, eR_s, eR_n, al_n, e1]
  have r2 : zR (tyB y1 n0 s0 s1 s2) c = zR y1 c := by simp only [tyB, eF_zn, eF_zK, eF_zL, eF_s, eF_n, eF_zG, eF_zA, eF_zJ, eF_zR, eG_zn, eG_zK, eG_zL, eG_zF, eG_s, eG_n, eG_zA, eG_zJ, eG_zR, eA_zn, eA_zK, eA_zL, eA_zF, eA_zG, eA_s, eA_n, eA_zJ, eA_zR, eJ_zn, eJ_zK, eJ_zL, eJ_zF, eJ_zG, eJ_zA, eJ_s, eJ_n, eJ_zR, eR_zn, eR_zK, eR_zL, eR_zF, eR_zG, eR_zA, eR_zJ, eR_s, eR_n]; exact al_R _ _ _ (by omega)
  rw [← r2]
  generalize tyB y1 n0 s0 s1 s2 = y2 at *
  have e3 : zn (tyC y2 n0) = n0 + 3 := by simp only [tyC, eF_zn, eF_zK, eF_zL, eF_s, eF_n, eF_zG, eF_zA, eF_zJ, eF_zR, eG_zn, eG_zK, eG_zL, eG_zF, eG_s, eG_n, eG_zA, eG_zJ, eG_zR, eA_zn, eA_zK, eA_zL, eA_zF, eA_zG, eA_s, eA_n, eA_zJ, eA_zR, eJ_zn, eJ_zK, eJ_zL, eJ_zF, eJ_zG, eJ_zA, eJ_s, eJ_n, eJ_zR, eR_zn, eR_zK, eR_zL, eR_zF, eR_zG, eR_zA, eR_zJ, eR_s, eR_n, al_n, e2]
  have r3 : zR (tyC y2 n0) c = zR y2 c := by simp only [tyC, eF_zn, eF_zK, eF_zL, eF_s, eF_n, eF_zG, eF_zA, eF_zJ, eF_zR, eG_zn, eG_zK, eG_zL, eG_zF, eG_s, eG_n, eG_zA, eG_zJ, eG_zR, eA_zn, eA_zK, eA_zL, eA_zF, eA_zG, eA_s, eA_n, eA_zJ, eA_zR, eJ_zn, eJ_zK, eJ_zL, eJ_zF, eJ_zG, eJ_zA, eJ_s, eJ_n, eJ_zR, eR_zn, eR_zK, eR_zL, eR_zF, eR_zG, eR_zA, eR_zJ, eR_s, eR_n]; exact al_R _ _ _ (by omega)
  rw [← r3]
  generalize tyC y2 n0 = y3 at *
  simp only [tyD, eF_zn, eF_zK, eF_zL, eF_s, eF_n, eF_zG, eF_zA, eF_zJ, eF_zR, eG_zn, eG_zK, eG_zL, eG_zF, eG_s, eG_n, eG_zA, eG_zJ, eG_zR, eA_zn, eA_zK, eA_zL, eA_zF, eA_zG, eA_s, eA_n, eA_zJ, eA_zR, eJ_zn, eJ_zK, eJ_zL, eJ_zF, eJ_zG, eJ_zA, eJ_s, eJ_n, eJ_zR, eR_zn, eR_zK, eR_zL, eR_zF, eR_zG, eR_zA, eR_zJ, eR_s, eR_n]
  exact al_R _ _ _ (by omega)
theorem text_keep {z y : Hp} {n0 w h nb nr ng gv nt nh wk q6 s0 s1 s2 : Nat} (hO : Oth y (168 * w + h) w nh nb nr ng gv) (hn : I_num z w h nb nr ng gv nt nh) (htx : I_tx z nt) (h48 : 48 ≤ n0) (hz : zn z = n0) (hzy : zn y = n0 + 4) (hnt : nt < 6) (hp : PF z y (fun c => 48 ≤ c ∧ c < n0)) (hF : ∀ f c, c < 48 → zF y f c = zF z f c) (hA : ∀ c, c < 48 → zA y c = zA z c) (hR : ∀ c, c < 48 → zR y c = zR z c) (hnw : NwT y n0 (nI nt) (nI wk) (nI s0) (nI s1) (nI s2) (nI q6)) (hw : wk ≤ 199) (hq : q6 ≤ 5) (h0 : 10 ≤ s0 ∧ s0 ≤ 300) (h1 : 10 ≤ s1 ∧ s1 ≤ 300) (h2 : 10 ≤ s2 ∧ s2 ≤ 300) : Inv (tyM (tyE y n0 nt) nt (nI wk) (nI s0) (nI s1) (nI s2) (nI q6)) := by
  have hO2 := (hO.txe (n0 := n0) (nt := nt)).txm (nt := nt) (x1 := nI wk) (s0 := nI s0) (s1 := nI s1) (s2 := nI s2) (x6 := nI q6)
  obtain ⟨hS, hsc, hst, hhv, hrec, hbk, hgr, hgf, hmk, htn⟩ := hO2
  generalize hzf : tyM (tyE y n0 nt) nt (nI wk) (nI s0) (nI s1) (nI s2) (nI q6) = zf at *
  have hp2 : PF z zf (fun c => 48 ≤ c ∧ c < n0) := by
    rw [← hzf]
    unfold tyM tyE
    exact hp |>.sR |>.sF (fun c hc => by omega) |>.sA (fun c hc => by omega) |>.sA (fun c hc => by omega) |>.sA (fun c hc => by omega) |>.sA (fun c hc => by omega) |>.sA (fun c hc => by omega) |>.sF (fun c hc => by omega)
  have en : zn zf = n0 + 4 := by rw [← hzf]; simp only [tyM, tyE, eF_zn, eF_zK, eF_zL, eF_s, eF_n, eF_zG, eF_zA, eF_zJ, eF_zR, eG_zn, eG_zK, eG_zL, eG_zF, eG_s, eG_n, eG_zA, eG_zJ, eG_zR, eA_zn, eA_zK, eA_zL, eA_zF, eA_zG, eA_s, eA_n, eA_zJ, eA_zR, eJ_zn, eJ_zK, eJ_zL, eJ_zF, eJ_zG, eJ_zA, eJ_s, eJ_n, eJ_zR, eR_zn, eR_zK, eR_zL, eR_zF, eR_zG, eR_zA, eR_zJ, eR_s, eR_n]; exact hzy
  have a39 : zA zf 39 = va_up (zA z 39) nt (nI wk) := by rw [← hzf, ← hA 39 (by decide)]; simp only [tyM, tyE, eF_zn, eF_zK, eF_zL, eF_s, eF_n, eF_zG, eF_zA, eF_zJ, eF_zR, eG_zn, eG_zK, eG_zL, eG_zF, eG_s, eG_n, eG_zA, eG_zJ, eG_zR, eA_zn, eA_zK, eA_zL, eA_zF, eA_zG, eA_s, eA_n, eA_zJ, eA_zR, eJ_zn, eJ_zK, eJ_zL, eJ_zF, eJ_zG, eJ_zA, eJ_s, eJ_n, eJ_zR, eR_zn, eR_zK, eR_zL, eR_zF, eR_zG, eR_zA, eR_zJ, eR_s, eR_n, ne_eq, not_false_eq_true, not_true_eq_false, reduceCtorEq, Nat.reduceEqDiff]
  have a41 : zA zf 41 = va_up (zA z 41) nt (nI q6) := by rw [← hzf, ← hA 41 (by decide)]; simp only [tyM, tyE, eF_zn, eF_zK, eF_zL, eF_s, eF_n, eF_zG, eF_zA, eF_zJ, eF_zR, eG_zn, eG_zK, eG_zL, eG_zF, eG_s, eG_n, eG_zA, eG_zJ, eG_zR, eA_zn, eA_zK, eA_zL, eA_zF, eA_zG, eA_s, eA_n, eA_zJ, eA_zR, eJ_zn, eJ_zK, eJ_zL, eJ_zF, eJ_zG, eJ_zA, eJ_s, eJ_n, eJ_zR, eR_zn, eR_zK, eR_zL, eR_zF, eR_zG, eR_zA, eR_zJ, eR_s, eR_n, ne_eq, not_false_eq_true, not_true_eq_false, reduceCtorEq, Nat.reduceEqDiff]
  have a40 : zA zf 40 = va_up (va_up (va_up (zA z 40) (3 * nt) (nI s0)) (3 * nt + 1) (nI s1)) (3 * nt + 2) (nI s2) := by rw [← hzf, ← hA 40 (by decide)]; simp only [tyM, tyE, eF_zn, eF_zK, eF_zL, eF_s, eF_n, eF_zG, eF_zA, eF_zJ, eF_zR, eG_zn, eG_zK, eG_zL, eG_zF, eG_s, eG_n, eG_zA, eG_zJ, eG_zR, eA_zn, eA_zK, eA_zL, eA_zF, eA_zG, eA_s, eA_n, eA_zJ, eA_zR, eJ_zn, eJ_zK, eJ_zL, eJ_zF, eJ_zG, eJ_zA, eJ_s, eJ_n, eJ_zR, eR_zn, eR_zK, eR_zL, eR_zF, eR_zG, eR_zA, eR_zJ, eR_s, eR_n, ne_eq, not_false_eq_true, not_true_eq_false, reduceCtorEq, Nat.reduceEqDiff]
  have a42 : zA zf 42 = zA z 42 := by rw [← hzf, ← hA 42 (by decide)]; simp only [tyM, tyE, eF_zn, eF_zK, eF_zL, eF_s, eF_n, eF_zG, eF_zA, eF_zJ, eF_zR, eG_zn, eG_zK, eG_zL, eG_zF, eG_s, eG_n, eG_zA, eG_zJ, eG_zR, eA_zn, eA_zK, eA_zL, eA_zF, eA_zG, eA_s, eA_n, eA_zJ, eA_zR, eJ_zn, eJ_zK, eJ_zL, eJ_zF, eJ_zG, eJ_zA, eJ_s, eJ_n, eJ_zR, eR_zn, eR_zK, eR_zL, eR_zF, eR_zG, eR_zA, eR_zJ, eR_s, eR_n, ne_eq, not_false_eq_true, not_true_eq_false, reduceCtorEq, Nat.reduceEqDiff]
  have a43 : zA zf 43 = zA z 43 := by rw [← hzf, ← hA 43 (by decide)]; simp only [tyM, tyE, eF_zn, eF_zK, eF_zL, eF_s, eF_n, eF_zG, eF_zA, eF_zJ, eF_zR, eG_zn, eG_zK, eG_zL, eG_zF, eG_s, eG_n, eG_zA, eG_zJ, eG_zR, eA_zn, eA_zK, eA_zL, eA_zF, eA_zG, eA_s, eA_n, eA_zJ, eA_zR, eJ_zn, eJ_zK, eJ_zL, eJ_zF, eJ_zG, eJ_zA, eJ_s, eJ_n, eJ_zR, eR_zn, eR_zK, eR_zL, eR_zF, eR_zG, eR_zA, eR_zJ, eR_s, eR_n, ne_eq, not_false_eq_true, not_true_eq_false, reduceCtorEq, Nat.reduceEqDiff]
  have a44 : zA zf 44 = zA z 44 := by rw [← hzf, ← hA 44 (by decide)]; simp only [tyM, tyE, eF_zn, eF_zK, eF_zL, eF_s, eF_n, eF_zG, eF_zA, eF_zJ, eF_zR, eG_zn, eG_zK, eG_zL, eG_zF, eG_s, eG_n, eG_zA, eG_zJ, eG_zR, eA_zn, eA_zK, eA_zL, eA_zF, eA_zG, eA_s, eA_n, eA_zJ, eA_zR, eJ_zn, eJ_zK, eJ_zL, eJ_zF, eJ_zG, eJ_zA, eJ_s, eJ_n, eJ_zR, eR_zn, eR_zK, eR_zL, eR_zF, eR_zG, eR_zA, eR_zJ, eR_s, eR_n, ne_eq, not_false_eq_true, not_true_eq_false, reduceCtorEq, Nat.reduceEqDiff]
  have r10 : zR zf 10 = va_up (zR z 10) nt (some n0) := by rw [← hzf, ← hR 10 (by decide)]; simp only [tyM, tyE, eF_zn, eF_zK, eF_zL, eF_s, eF_n, eF_zG, eF_zA, eF_zJ, eF_zR, eG_zn, eG_zK, eG_zL, eG_zF, eG_s, eG_n, eG_zA, eG_zJ, eG_zR, eA_zn, eA_zK, eA_zL, eA_zF, eA_zG, eA_s, eA_n, eA_zJ, eA_zR, eJ_zn, eJ_zK, eJ_zL, eJ_zF, eJ_zG, eJ_zA, eJ_s, eJ_n, eJ_zR, eR_zn, eR_zK, eR_zL, eR_zF, eR_zG, eR_zA, eR_zJ, eR_s, eR_n, ne_eq, not_false_eq_true, not_true_eq_false, reduceCtorEq, Nat.reduceEqDiff]
  have b1 : zA zf (n0 + 1) = zA y (n0 + 1) := by
    rw [← hzf]
    unfold tyM tyE
    rw [eF_zA, eA_n _ _ _ _ (by omega), eA_n _ _ _ _ (by omega), eA_n _ _ _ _ (by omega), eA_n _ _ _ _ (by omega), eA_n _ _ _ _ (by omega), eF_zA, eR_zA]
  have eK : zK zf = zK y := by rw [← hzf]; simp only [tyM, tyE, eF_zn, eF_zK, eF_zL, eF_s, eF_n, eF_zG, eF_zA, eF_zJ, eF_zR, eG_zn, eG_zK, eG_zL, eG_zF, eG_s, eG_n, eG_zA, eG_zJ, eG_zR, eA_zn, eA_zK, eA_zL, eA_zF, eA_zG, eA_s, eA_n, eA_zJ, eA_zR, eJ_zn, eJ_zK, eJ_zL, eJ_zF, eJ_zG, eJ_zA, eJ_s, eJ_n, eJ_zR, eR_zn, eR_zK, eR_zL, eR_zF, eR_zG, eR_zA, eR_zJ, eR_s, eR_n]
  have eL : zL zf = zL y := by rw [← hzf]; simp only [tyM, tyE, eF_zn, eF_zK, eF_zL, eF_s, eF_n, eF_zG, eF_zA, eF_zJ, eF_zR, eG_zn, eG_zK, eG_zL, eG_zF, eG_s, eG_n, eG_zA, eG_zJ, eG_zR, eA_zn, eA_zK, eA_zL, eA_zF, eA_zG, eA_s, eA_n, eA_zJ, eA_zR, eJ_zn, eJ_zK, eJ_zL, eJ_zF, eJ_zG, eJ_zA, eJ_s, eJ_n, eJ_zR, eR_zn, eR_zK, eR_zL, eR_zF, eR_zG, eR_zA, eR_zJ, eR_s, eR_n]
  have eG : zG zf = zG y := by rw [← hzf]; simp only [tyM, tyE, eF_zn, eF_zK, eF_zL, eF_s, eF_n, eF_zG, eF_zA, eF_zJ, eF_zR, eG_zn, eG_zK, eG_zL, eG_zF, eG_s, eG_n, eG_zA, eG_zJ, eG_zR, eA_zn, eA_zK, eA_zL, eA_zF, eA_zG, eA_s, eA_n, eA_zJ, eA_zR, eJ_zn, eJ_zK, eJ_zL, eJ_zF, eJ_zG, eJ_zA, eJ_s, eJ_n, eJ_zR, eR_zn, eR_zK, eR_zL, eR_zF, eR_zG, eR_zA, eR_zJ, eR_s, eR_n]
  have fx : ∀ g, g ≠ 257 → g ≠ 739 → zF zf g = zF y g := by
    intro g q1 q2
    simp only [← hzf, tyM, tyE, eA_zF, eR_zF, eF_n _ _ _ _ q1, eF_n _ _ _ _ q2]
  have f257 : zF zf 257 9 = nI (nt + 1) := by rw [← hzf]; simp only [tyM, tyE, eF_zn, eF_zK, eF_zL, eF_s, eF_n, eF_zG, eF_zA, eF_zJ, eF_zR, eG_zn, eG_zK, eG_zL, eG_zF, eG_s, eG_n, eG_zA, eG_zJ, eG_zR, eA_zn, eA_zK, eA_zL, eA_zF, eA_zG, eA_s, eA_n, eA_zJ, eA_zR, eJ_zn, eJ_zK, eJ_zL, eJ_zF, eJ_zG, eJ_zA, eJ_s, eJ_n, eJ_zR, eR_zn, eR_zK, eR_zL, eR_zF, eR_zG, eR_zA, eR_zJ, eR_s, eR_n, ne_eq, not_false_eq_true, not_true_eq_false, reduceCtorEq, Nat.reduceEqDiff, va_up_self]
  have f739 : zF zf 739 17 = nI (nt + 1) := by rw [← hzf]; simp only [tyM, tyE, eF_zn, eF_zK, eF_zL, eF_s, eF_n, eF_zG, eF_zA, eF_zJ, eF_zR, eG_zn, eG_zK, eG_zL, eG_zF, eG_s, eG_n, eG_zA, eG_zJ, eG_zR, eA_zn, eA_zK, eA_zL, eA_zF, eA_zG, eA_s, eA_n, eA_zJ, eA_zR, eJ_zn, eJ_zK, eJ_zL, eJ_zF, eJ_zG, eJ_zA, eJ_s, eJ_n, eJ_zR, eR_zn, eR_zK, eR_zL, eR_zF, eR_zG, eR_zA, eR_zJ, eR_s, eR_n, ne_eq, not_false_eq_true, not_true_eq_false, reduceCtorEq, Nat.reduceEqDiff, va_up_self]
  have hnum : I_num zf w h nb nr ng gv (nt + 1) nh := by
    obtain ⟨n1, n2, n3, n4, n5, n6, n7⟩ := id hn
    unfold I_num
    rw [fx 704 (by decide) (by decide), fx 705 (by decide) (by decide), fx 647 (by decide) (by decide), fx 706 (by decide) (by decide), fx 646 (by decide) (by decide), fx 711 (by decide) (by decide), fx 132 (by decide) (by decide), fx 717 (by decide) (by decide), fx 133 (by decide) (by decide), fx 727 (by decide) (by decide), fx 134 (by decide) (by decide), fx 753 (by decide) (by decide), fx 194 (by decide) (by decide), hF 704 17 (by decide), hF 705 17 (by decide), hF 647 0 (by decide), hF 706 17 (by decide), hF 646 0 (by decide), hF 711 17 (by decide), hF 132 1 (by decide), hF 717 17 (by decide), hF 133 1 (by decide), hF 727 17 (by decide), hF 134 1 (by decide), hF 753 17 (by decide), hF 194 13 (by decide)]
    exact ⟨n1, n2, n3, n4, n5, ⟨f739, f257, by omega⟩, n7⟩
  have htx' : I_tx zf (nt + 1) := by
    obtain ⟨t1, t2, t3⟩ := htx
    refine ⟨fun t ht => ?_, fun i j a b hij hj ha hb => ?_, fun t ht => ?_⟩
    · rw [r10]
      rcases Nat.lt_or_ge t nt with q | q
      · obtain ⟨a, e, p⟩ := t1 t q
        have p1 := p.1
        have p2 := p.2.1
        refine ⟨a, by rw [up_old q]; exact e, p.cg hp2 ⟨p1, by omega⟩ ⟨by omega, by omega⟩ ⟨by omega, by omega⟩ ⟨by omega, by omega⟩ (by rw [a39, up_old q]) (by rw [a41, up_old q]) (by rw [a44]) (fun j _ => by rw [a42]) (fun j _ => by rw [a43]) (fun k hk => by rw [a40, va_up_ne _ _ (by omega), va_up_ne _ _ (by omega), va_up_ne _ _ (by omega)])⟩
      · have e : t = nt := by omega
        subst e
        obtain ⟨c1, c2, c3, ⟨d1, d2, d3, d4⟩, g1, g2, g3⟩ := hnw
        have z44 := t3 t (Nat.le_refl _)
        refine ⟨n0, va_up_self _ _ _, h48, by rw [en]; omega, by rw [eK]; exact c1, by rw [eL]; exact c2, by rw [eG]; exact c3, by rw [fx 512 (by decide) (by decide)]; exact d1, by rw [fx 513 (by decide) (by decide), a39, va_up_self]; exact d2, by rw [fx 514 (by decide) (by decide), a41, va_up_self]; exact d3, by rw [fx 518 (by decide) (by decide), a44, z44]; exact d4, ⟨wk, by rw [a39, va_up_self], by omega⟩, ⟨q6, by rw [a41, va_up_self], hq⟩, ⟨0, by omega, by rw [a44, z44]; rfl, fun j hj => by omega⟩, fun k hk => ?_⟩
        rw [b1, a40]
        rcases (show k = 0 ∨ k = 1 ∨ k = 2 by omega) with rfl | rfl | rfl
        · rw [va_up_ne _ _ (by omega), va_up_ne _ _ (by omega), show 3 * t + 0 = 3 * t from rfl, va_up_self]
          exact ⟨g1, s0, rfl, h0⟩
        · rw [va_up_ne _ _ (by omega), va_up_self]
          exact ⟨g2, s1, rfl, h1⟩
        · rw [va_up_self]
          exact ⟨g3, s2, rfl, h2⟩
    · rw [r10] at ha hb
      rcases Nat.lt_or_ge j nt with q | q
      · rw [up_old (show i < nt by omega)] at ha
        rw [up_old q] at hb
        exact t2 i j a b hij q ha hb
      · have e : j = nt := by omega
        subst e
        rw [va_up_self] at hb
        rw [up_old hij] at ha
        cases hb
        obtain ⟨a', e', p⟩ := t1 i hij
        rw [e'] at ha
        cases ha
        have p2 := p.2.1
        omega
    · rw [a44]
      exact t3 t (by omega)
  exact ⟨hS, hsc, hst, w, h, nb, nr, ng, gv, nt + 1, nh, hnum, hhv, hrec, hbk, hgr, hgf, hmk, htx', htn⟩
theorem textC_e {N : Nat} {z : Hp} {n0 nt wk s0 s1 s2 q6 : Nat} (hS : Sh z) (hz : zn z = n0) (hnt : nt < 6) (n9 : zF z 257 9 = nI nt) (hw : wk ≤ 199) (hq : q6 ≤ 5) (h0 : 10 ≤ s0 ∧ s0 ≤ 300) (h1 : 10 ≤ s1 ∧ s1 ≤ 300) (h2 : 10 ≤ s2 ∧ s2 ≤ 300) (hSy : Sh (tyD (tyC (tyB (tyA (zal z 8 0) n0 nt (nI wk) (nI q6)) n0 (nI s0) (nI s1) (nI s2)) n0) n0)) : fX11_text N 0 (nI wk) (nI s0) (nI s1) (nI s2) (nI q6) z = some (nI nt, tyE (tyD (tyC (tyB (tyA (zal z 8 0) n0 nt (nI wk) (nI q6)) n0 (nI s0) (nI s1) (nI s2)) n0) n0) n0 nt) := by
  have h48 : 48 ≤ n0 := by rw [← hz]; exact hS.1
  have hS0 : Sh (zal z 8 0) := hS.al
  have e257 : zF (zal z 8 0) 257 9 = nI nt := (al_F0 hS (by decide)).trans n9
  obtain ⟨t1, t2, t3⟩ := tx_new (N := N) (nt := nt) (x1 := nI wk) (s0 := nI s0) (s1 := nI s1) (s2 := nI s2) (x6 := nI q6) hS0 h48 (by rw [al_n, hz]) (by rw [al_K, hz, va_up_self]) (by rw [al_F, hz, va_up_self])
  have f257 := (tx_fix (z := z) (nt := nt) (x1 := nI wk) (s0 := nI s0) (s1 := nI s1) (s2 := nI s2) (x6 := nI q6) h48 hz).1 257 9 (by decide)
  rw [n9] at f257
  generalize tyD (tyC (tyB (tyA (zal z 8 0) n0 nt (nI wk) (nI q6)) n0 (nI s0) (nI s1) (nI s2)) n0) n0 = y at *
  have u0 : ¬ (nI wk < 0 ∨ 199 < nI wk) := nout (x := wk) (a := 0) (b := 199) (by omega) hw (by decide)
  have u1 : ¬ (nI q6 < 0 ∨ 5 < nI q6) := nout (x := q6) (a := 0) (b := 5) (by omega) hq (by decide)
  have u2 : ¬ (nI s0 < 10 ∨ 300 < nI s0) := nout (x := s0) (a := 10) (b := 300) h0.1 h0.2 (by decide)
  have u3 : ¬ (nI s1 < 10 ∨ 300 < nI s1) := nout (x := s1) (a := 10) (b := 300) h1.1 h1.2 (by decide)
  have u4 : ¬ (nI s2 < 10 ∨ 300 < nI s2) := nout (x := s2) (a := 10) (b := 300) h2.1 h2.2 (by decide)
  have c : nI nt < 6 := by rw [show (6 : Int32) = nI 6 from rfl]; exact nI_lt hnt (by decide)
  have v0 : (9 < n0 ∧ zK z 9 = 4) = True := by rw [← hz]; exact o9 hS
  have v1 : (0 < n0 ∧ zK z 0 = 10) = True := by rw [← hz]; exact o0 hS
  have v8 : (n0 < zn y ∧ zK y n0 = 8) = True := okE (by omega) t2.1.1
  have v512 : zF y 512 n0 = nI nt := t2.2.2.2.1.1
  simp only [fX11_text_21, fX11_text_61, fX11_text, fX5_isFull, fX5_enact_27, fX5_enact, out_0 u0, out_0 u1, out_0 u2, out_0 u3, out_0 u4, gdT, brTr, brFa, br_00, br_10, bd_e, bo_s, bp_s, cs_s, cs_n, lf_s, eF_zn, eF_zK, eF_zL, eF_s, eF_n, eF_zG, eF_zA, eF_zJ, eF_zR, eG_zn, eG_zK, eG_zL, eG_zF, eG_s, eG_n, eG_zA, eG_zJ, eG_zR, eA_zn, eA_zK, eA_zL, eA_zF, eA_zG, eA_s, eA_n, eA_zJ, eA_zR, eJ_zn, eJ_zK, eJ_zL, eJ_zF, eJ_zG, eJ_zA, eJ_s, eJ_n, eJ_zR, eR_zn, eR_zK, eR_zL, eR_zF, eR_zG, eR_zA, eR_zJ, eR_s, eR_n, ne_eq, not_false_eq_true, not_true_eq_false, reduceCtorEq, Nat.reduceEqDiff, hz, v0, v1, o0 hS, o1 hS, o2 hS, o3 hS, o4 hS, o5 hS, o6 hS, o7 hS, o8 hS, o9 hS, o10 hS, o11 hS, o12 hS, o13 hS, o14 hS, o15 hS, o16 hS, o17 hS, o18 hS, o19 hS, o20 hS, o21 hS, o22 hS, o23 hS, o24 hS, o25 hS, o26 hS, o27 hS, o28 hS, o29 hS, o30 hS, o31 hS, o32 hS, o33 hS, o34 hS, o35 hS, o36 hS, o37 hS, o38 hS, o39 hS, o40 hS, o41 hS, o42 hS, o43 hS, o44 hS, o45 hS, o46 hS, o47 hS, l2 hS, l3 hS, l4 hS, l5 hS, l7 hS, l8 hS, l10 hS, l12 hS, l14 hS, l15 hS, l16 hS, l18 hS, l19 hS, l20 hS, l21 hS, l22 hS, l23 hS, l24 hS, l25 hS, l26 hS, l27 hS, l28 hS, l29 hS, l30 hS, l31 hS, l32 hS, l33 hS, l34 hS, l35 hS, l36 hS, l37 hS, l38 hS, l39 hS, l40 hS, l41 hS, l42 hS, l43 hS, l44 hS, l45 hS, l46 hS, l47 hS, g640 hS, g641 hS, g642 hS, g643 hS, g644 hS, g645 hS, g128 hS, g129 hS, g130 hS, g131 hS, g384 hS, g385 hS, g256 hS, g576 hS, g192 hS, g193 hS, g707 hS, g708 hS, g709 hS, g710 hS, g712 hS, g713 hS, g714 hS, g715 hS, g716 hS, g720 hS, g721 hS, g722 hS, g723 hS, g724 hS, g725 hS, g726 hS, g728 hS, g729 hS, g730 hS, g731 hS, g732 hS, g733 hS, g734 hS, g735 hS, g736 hS, g737 hS, g738 hS, g740 hS, g751 hS, g752 hS, n9, br_y c, o0 hS0, o1 hS0, o2 hS0, o3 hS0, o4 hS0, o5 hS0, o6 hS0, o7 hS0, o8 hS0, o9 hS0, o10 hS0, o11 hS0, o12 hS0, o13 hS0, o14 hS0, o15 hS0, o16 hS0, o17 hS0, o18 hS0, o19 hS0, o20 hS0, o21 hS0, o22 hS0, o23 hS0, o24 hS0, o25 hS0, o26 hS0, o27 hS0, o28 hS0, o29 hS0, o30 hS0, o31 hS0, o32 hS0, o33 hS0, o34 hS0, o35 hS0, o36 hS0, o37 hS0, o38 hS0, o39 hS0, o40 hS0, o41 hS0, o42 hS0, o43 hS0, o44 hS0, o45 hS0, o46 hS0, o47 hS0, l2 hS0, l3 hS0, l4 hS0, l5 hS0, l7 hS0, l8 hS0, l10 hS0, l12 hS0, l14 hS0, l15 hS0, l16 hS0, l18 hS0, l19 hS0, l20 hS0, l21 hS0, l22 hS0, l23 hS0, l24 hS0, l25 hS0, l26 hS0, l27 hS0, l28 hS0, l29 hS0, l30 hS0, l31 hS0, l32 hS0, l33 hS0, l34 hS0, l35 hS0, l36 hS0, l37 hS0, l38 hS0, l39 hS0, l40 hS0, l41 hS0, l42 hS0, l43 hS0, l44 hS0, l45 hS0, l46 hS0, l47 hS0, g640 hS0, g641 hS0, g642 hS0, g643 hS0, g644 hS0, g645 hS0, g128 hS0, g129 hS0, g130 hS0, g131 hS0, g384 hS0, g385 hS0, g256 hS0, g576 hS0, g192 hS0, g193 hS0, g707 hS0, g708 hS0, g709 hS0, g710 hS0, g712 hS0, g713 hS0, g714 hS0, g715 hS0, g716 hS0, g720 hS0, g721 hS0, g722 hS0, g723 hS0, g724 hS0, g725 hS0, g726 hS0, g728 hS0, g729 hS0, g730 hS0, g731 hS0, g732 hS0, g733 hS0, g734 hS0, g735 hS0, g736 hS0, g737 hS0, g738 hS0, g740 hS0, g751 hS0, g752 hS0, e257, t1, o0 hSy, o1 hSy, o2 hSy, o3 hSy, o4 hSy, o5 hSy, o6 hSy, o7 hSy, o8 hSy, o9 hSy, o10 hSy, o11 hSy, o12 hSy, o13 hSy, o14 hSy, o15 hSy, o16 hSy, o17 hSy, o18 hSy, o19 hSy, o20 hSy, o21 hSy, o22 hSy, o23 hSy, o24 hSy, o25 hSy, o26 hSy, o27 hSy, o28 hSy, o29 hSy, o30 hSy, o31 hSy, o32 hSy, o33 hSy, o34 hSy, o35 hSy, o36 hSy, o37 hSy, o38 hSy, o39 hSy, o40 hSy, o41 hSy, o42 hSy, o43 hSy, o44 hSy, o45 hSy, o46 hSy, o47 hSy, l2 hSy, l3 hSy, l4 hSy, l5 hSy, l7 hSy, l8 hSy, l10 hSy, l12 hSy, l14 hSy, l15 hSy, l16 hSy, l18 hSy, l19 hSy, l20 hSy, l21 hSy, l22 hSy, l23 hSy, l24 hSy, l25 hSy, l26 hSy, l27 hSy, l28 hSy, l29 hSy, l30 hSy, l31 hSy, l32 hSy, l33 hSy, l34 hSy, l35 hSy, l36 hSy, l37 hSy, l38 hSy, l39 hSy, l40 hSy, l41 hSy, l42 hSy, l43 hSy, l44 hSy, l45 hSy, l46 hSy, l47 hSy, g640 hSy, g641 hSy, g642 hSy, g643 hSy, g644 hSy, g645 hSy, g128 hSy, g129 hSy, g130 hSy, g131 hSy, g384 hSy, g385 hSy, g256 hSy, g576 hSy, g192 hSy, g193 hSy, g707 hSy, g708 hSy, g709 hSy, g710 hSy, g712 hSy, g713 hSy, g714 hSy, g715 hSy, g716 hSy, g720 hSy, g721 hSy, g722 hSy, g723 hSy, g724 hSy, g725 hSy, g726 hSy, g728 hSy, g729 hSy, g730 hSy, g731 hSy, g732 hSy, g733 hSy, g734 hSy, g735 hSy, g736 hSy, g737 hSy, g738 hSy, g740 hSy, g751 hSy, g752 hSy, f257, v8, inb hnt (by decide), nI_clamp (show nt < 2 ^ 31 by omega), nI_1, v512, tyE]
theorem textM_e {N : Nat} {x : Hp} {nt wk s0 s1 s2 q6 : Nat} (hS : Sh x) (hnt : nt < 6) (n9 : zF x 739 17 = nI nt) (hw : wk ≤ 199) (hq : q6 ≤ 5) (h0 : 10 ≤ s0 ∧ s0 ≤ 300) (h1 : 10 ≤ s1 ∧ s1 ≤ 300) (h2 : 10 ≤ s2 ∧ s2 ≤ 300) : fX12_text N 17 (nI wk) (nI s0) (nI s1) (nI s2) (nI q6) x = some (nI nt, tyM x nt (nI wk) (nI s0) (nI s1) (nI s2) (nI q6)) := by
  have u0 : ¬ (nI wk < 0 ∨ 199 < nI wk) := nout (x := wk) (a := 0) (b := 199) (by omega) hw (by decide)
  have u1 : ¬ (nI q6 < 0 ∨ 5 < nI q6) := nout (x := q6) (a := 0) (b := 5) (by omega) hq (by decide)
  have u2 : ¬ (nI s0 < 10 ∨ 300 < nI s0) := nout (x := s0) (a := 10) (b := 300) h0.1 h0.2 (by decide)
  have u3 : ¬ (nI s1 < 10 ∨ 300 < nI s1) := nout (x := s1) (a := 10) (b := 300) h1.1 h1.2 (by decide)
  have u4 : ¬ (nI s2 < 10 ∨ 300 < nI s2) := nout (x := s2) (a := 10) (b := 300) h2.1 h2.2 (by decide)
  have c : ¬ nI nt = 6 := by rw [show (6 : Int32) = nI 6 from rfl, nI_eq (by omega) (by decide)]; omega
  have m3 : (3 : Int32) * nI nt = nI (3 * nt) := by rw [show (3 : Int32) = nI 3 from rfl, pk_mul]
  have m31 : nI (3 * nt) + 1 = nI (3 * nt + 1) := nI_1 _
  have m32 : nI (3 * nt) + 2 = nI (3 * nt + 2) := by rw [show (2 : Int32) = nI 2 from rfl, nI_add]
  simp only [fX12_text_68, fX12_text, in_1 (A := 0) (B := 199) (a := 0) (b := 199) rfl rfl u0, in_1 (A := 10) (B := 300) (a := 10) (b := 300) rfl rfl u2, in_1 (A := 10) (B := 300) (a := 10) (b := 300) rfl rfl u3, in_1 (A := 10) (B := 300) (a := 10) (b := 300) rfl rfl u4, in_1 (A := 0) (B := 5) (a := 0) (b := 5) rfl rfl u1, gdT, brTr, brFa, br_00, br_10, bd_e, bo_s, bp_s, cs_s, cs_n, lf_s, eF_zn, eF_zK, eF_zL, eF_s, eF_n, eF_zG, eF_zA, eF_zJ, eF_zR, eG_zn, eG_zK, eG_zL, eG_zF, eG_s, eG_n, eG_zA, eG_zJ, eG_zR, eA_zn, eA_zK, eA_zL, eA_zF, eA_zG, eA_s, eA_n, eA_zJ, eA_zR, eJ_zn, eJ_zK, eJ_zL, eJ_zF, eJ_zG, eJ_zA, eJ_s, eJ_n, eJ_zR, eR_zn, eR_zK, eR_zL, eR_zF, eR_zG, eR_zA, eR_zJ, eR_s, eR_n, ne_eq, not_false_eq_true, not_true_eq_false, reduceCtorEq, Nat.reduceEqDiff, o0 hS, o1 hS, o2 hS, o3 hS, o4 hS, o5 hS, o6 hS, o7 hS, o8 hS, o9 hS, o10 hS, o11 hS, o12 hS, o13 hS, o14 hS, o15 hS, o16 hS, o17 hS, o18 hS, o19 hS, o20 hS, o21 hS, o22 hS, o23 hS, o24 hS, o25 hS, o26 hS, o27 hS, o28 hS, o29 hS, o30 hS, o31 hS, o32 hS, o33 hS, o34 hS, o35 hS, o36 hS, o37 hS, o38 hS, o39 hS, o40 hS, o41 hS, o42 hS, o43 hS, o44 hS, o45 hS, o46 hS, o47 hS, l2 hS, l3 hS, l4 hS, l5 hS, l7 hS, l8 hS, l10 hS, l12 hS, l14 hS, l15 hS, l16 hS, l18 hS, l19 hS, l20 hS, l21 hS, l22 hS, l23 hS, l24 hS, l25 hS, l26 hS, l27 hS, l28 hS, l29 hS, l30 hS, l31 hS, l32 hS, l33 hS, l34 hS, l35 hS, l36 hS, l37 hS, l38 hS, l39 hS, l40 hS, l41 hS, l42 hS, l43 hS, l44 hS, l45 hS, l46 hS, l47 hS, g640 hS, g641 hS, g642 hS, g643 hS, g644 hS, g645 hS, g128 hS, g129 hS, g130 hS, g131 hS, g384 hS, g385 hS, g256 hS, g576 hS, g192 hS, g193 hS, g707 hS, g708 hS, g709 hS, g710 hS, g712 hS, g713 hS, g714 hS, g715 hS, g716 hS, g720 hS, g721 hS, g722 hS, g723 hS, g724 hS, g725 hS, g726 hS, g728 hS, g729 hS, g730 hS, g731 hS, g732 hS, g733 hS, g734 hS, g735 hS, g736 hS, g737 hS, g738 hS, g740 hS, g751 hS, g752 hS, n9, br_n c, m3, m31, m32, inb hnt (by decide), inb (show 3 * nt < 18 by omega) (by decide), inb (show 3 * nt + 1 < 18 by omega) (by decide), inb (show 3 * nt + 2 < 18 by omega) (by decide), nI_clamp (show nt < 2 ^ 31 by omega), nI_clamp (show 3 * nt < 2 ^ 31 by omega), nI_clamp (show 3 * nt + 1 < 2 ^ 31 by omega), nI_clamp (show 3 * nt + 2 < 2 ^ 31 by omega), nI_1, va_up_self, nI_pred, tyM]
theorem op_text (N : Nat) : Op_text N Inv := by
  intro z a1 a2 a3 a4 a5 hI
  obtain ⟨hS, hsc, hst, w, h, nb, nr, ng, gv, nt, nh, hn, hhv, hrec, hbk, hgr, hgf, hmk, htx, htn⟩ := id hI
  obtain ⟨-, -, -, -, -, ⟨n1, n2, n3⟩, -⟩ := id hn
  by_cases ov1 : a1 < 0 ∨ 199 < a1
  · refine ⟨-2, z, z, ?_, of_eq_true (o17 hS), ?_, hI⟩
    · simp only [fX11_text_21, fX11_text_61, fX11_text, out_1 ov1, gdT, brTr, brFa, br_00, br_10, bd_e, bo_s, bp_s, cs_s, cs_n, lf_s]
    · simp only [fX12_text_68, fX12_text, in_0 (A := 0) (B := 199) (a := 0) (b := 199) rfl rfl ov1, gdT, brTr, brFa, br_00, br_10, bd_e, bo_s, bp_s, cs_s, cs_n, lf_s]
  by_cases ov2 : a2 < 10 ∨ 300 < a2
  · refine ⟨-2, z, z, ?_, of_eq_true (o17 hS), ?_, hI⟩
    · by_cases ov5 : a5 < 0 ∨ 5 < a5
      · simp only [fX11_text_21, fX11_text_61, fX11_text, out_0 ov1, out_1 ov5, gdT, brTr, brFa, br_00, br_10, bd_e, bo_s, bp_s, cs_s, cs_n, lf_s]
      · simp only [fX11_text_21, fX11_text_61, fX11_text, out_0 ov1, out_0 ov5, out_1 ov2, gdT, brTr, brFa, br_00, br_10, bd_e, bo_s, bp_s, cs_s, cs_n, lf_s]
    · simp only [fX12_text_68, fX12_text, in_1 (A := 0) (B := 199) (a := 0) (b := 199) rfl rfl ov1, in_0 (A := 10) (B := 300) (a := 10) (b := 300) rfl rfl ov2, gdT, brTr, brFa, br_00, br_10, bd_e, bo_s, bp_s, cs_s, cs_n, lf_s]
  by_cases ov3 : a3 < 10 ∨ 300 < a3
  · refine ⟨-2, z, z, ?_, of_eq_true (o17 hS), ?_, hI⟩
    · by_cases ov5 : a5 < 0 ∨ 5 < a5
      · simp only [fX11_text_21, fX11_text_61, fX11_text, out_0 ov1, out_1 ov5, gdT, brTr, brFa, br_00, br_10, bd_e, bo_s, bp_s, cs_s, cs_n, lf_s]
      · simp only [fX11_text_21, fX11_text_61, fX11_text, out_0 ov1, out_0 ov5, out_0 ov2, out_1 ov3, gdT, brTr, brFa, br_00, br_10, bd_e, bo_s, bp_s, cs_s, cs_n, lf_s]
    · simp only [fX12_text_68, fX12_text, in_1 (A := 0) (B := 199) (a := 0) (b := 199) rfl rfl ov1, in_1 (A := 10) (B := 300) (a := 10) (b := 300) rfl rfl ov2, in_0 (A := 10) (B := 300) (a := 10) (b := 300) rfl rfl ov3, gdT, brTr, brFa, br_00, br_10, bd_e, bo_s, bp_s, cs_s, cs_n, lf_s]
  by_cases ov4 : a4 < 10 ∨ 300 < a4
  · refine ⟨-2, z, z, ?_, of_eq_true (o17 hS), ?_, hI⟩
    · by_cases ov5 : a5 < 0 ∨ 5 < a5
      · simp only [fX11_text_21, fX11_text_61, fX11_text, out_0 ov1, out_1 ov5, gdT, brTr, brFa, br_00, br_10, bd_e, bo_s, bp_s, cs_s, cs_n, lf_s]
      · simp only [fX11_text_21, fX11_text_61, fX11_text, out_0 ov1, out_0 ov5, out_0 ov2, out_0 ov3, out_1 ov4, gdT, brTr, brFa, br_00, br_10, bd_e, bo_s, bp_s, cs_s, cs_n, lf_s]
    · simp only [fX12_text_68, fX12_text, in_1 (A := 0) (B := 199) (a := 0) (b := 199) rfl rfl ov1, in_1 (A := 10) (B := 300) (a := 10) (b := 300) rfl rfl ov2, in_1 (A := 10) (B := 300) (a := 10) (b := 300) rfl rfl ov3, in_0 (A := 10) (B := 300) (a := 10) (b := 300) rfl rfl ov4, gdT, brTr, brFa, br_00, br_10, bd_e, bo_s, bp_s, cs_s, cs_n, lf_s]
  by_cases ov5 : a5 < 0 ∨ 5 < a5
  · refine ⟨-2, z, z, ?_, of_eq_true (o17 hS), ?_, hI⟩
    · simp only [fX11_text_21, fX11_text_61, fX11_text, out_0 ov1, out_1 ov5, gdT, brTr, brFa, br_00, br_10, bd_e, bo_s, bp_s, cs_s, cs_n, lf_s]
    · simp only [fX12_text_68, fX12_text, in_1 (A := 0) (B := 199) (a := 0) (b := 199) rfl rfl ov1, in_1 (A := 10) (B := 300) (a := 10) (b := 300) rfl rfl ov2, in_1 (A := 10) (B := 300) (a := 10) (b := 300) rfl rfl ov3, in_1 (A := 10) (B := 300) (a := 10) (b := 300) rfl rfl ov4, in_0 (A := 0) (B := 5) (a := 0) (b := 5) rfl rfl ov5, gdT, brTr, brFa, br_00, br_10, bd_e, bo_s, bp_s, cs_s, cs_n, lf_s]
  by_cases h6 : nt = 6
  · have c : ¬ nI nt < 6 := by rw [h6]; decide
    have c2 : nI nt = 6 := by rw [h6]; rfl
    refine ⟨-4, z, z, ?_, of_eq_true (o17 hS), ?_, hI⟩
    · simp only [fX11_text_21, fX11_text_61, fX11_text, fX5_isFull, out_0 ov1, out_0 ov2, out_0 ov3, out_0 ov4, out_0 ov5, gdT, brTr, brFa, br_00, br_10, bd_e, bo_s, bp_s, cs_s, cs_n, lf_s, o0 hS, o1 hS, o2 hS, o3 hS, o4 hS, o5 hS, o6 hS, o7 hS, o8 hS, o9 hS, o10 hS, o11 hS, o12 hS, o13 hS, o14 hS, o15 hS, o16 hS, o17 hS, o18 hS, o19 hS, o20 hS, o21 hS, o22 hS, o23 hS, o24 hS, o25 hS, o26 hS, o27 hS, o28 hS, o29 hS, o30 hS, o31 hS, o32 hS, o33 hS, o34 hS, o35 hS, o36 hS, o37 hS, o38 hS, o39 hS, o40 hS, o41 hS, o42 hS, o43 hS, o44 hS, o45 hS, o46 hS, o47 hS, l2 hS, l3 hS, l4 hS, l5 hS, l7 hS, l8 hS, l10 hS, l12 hS, l14 hS, l15 hS, l16 hS, l18 hS, l19 hS, l20 hS, l21 hS, l22 hS, l23 hS, l24 hS, l25 hS, l26 hS, l27 hS, l28 hS, l29 hS, l30 hS, l31 hS, l32 hS, l33 hS, l34 hS, l35 hS, l36 hS, l37 hS, l38 hS, l39 hS, l40 hS, l41 hS, l42 hS, l43 hS, l44 hS, l45 hS, l46 hS, l47 hS, g640 hS, g641 hS, g642 hS, g643 hS, g644 hS, g645 hS, g128 hS, g129 hS, g130 hS, g131 hS, g384 hS, g385 hS, g256 hS, g576 hS, g192 hS, g193 hS, g707 hS, g708 hS, g709 hS, g710 hS, g712 hS, g713 hS, g714 hS, g715 hS, g716 hS, g720 hS, g721 hS, g722 hS, g723 hS, g724 hS, g725 hS, g726 hS, g728 hS, g729 hS, g730 hS, g731 hS, g732 hS, g733 hS, g734 hS, g735 hS, g736 hS, g737 hS, g738 hS, g740 hS, g751 hS, g752 hS, n2, br_n c]
    · simp only [fX12_text_68, fX12_text, in_1 (A := 0) (B := 199) (a := 0) (b := 199) rfl rfl ov1, in_1 (A := 10) (B := 300) (a := 10) (b := 300) rfl rfl ov2, in_1 (A := 10) (B := 300) (a := 10) (b := 300) rfl rfl ov3, in_1 (A := 10) (B := 300) (a := 10) (b := 300) rfl rfl ov4, in_1 (A := 0) (B := 5) (a := 0) (b := 5) rfl rfl ov5, gdT, brTr, brFa, br_00, br_10, bd_e, bo_s, bp_s, cs_s, cs_n, lf_s, o0 hS, o1 hS, o2 hS, o3 hS, o4 hS, o5 hS, o6 hS, o7 hS, o8 hS, o9 hS, o10 hS, o11 hS, o12 hS, o13 hS, o14 hS, o15 hS, o16 hS, o17 hS, o18 hS, o19 hS, o20 hS, o21 hS, o22 hS, o23 hS, o24 hS, o25 hS, o26 hS, o27 hS, o28 hS, o29 hS, o30 hS, o31 hS, o32 hS, o33 hS, o34 hS, o35 hS, o36 hS, o37 hS, o38 hS, o39 hS, o40 hS, o41 hS, o42 hS, o43 hS, o44 hS, o45 hS, o46 hS, o47 hS, l2 hS, l3 hS, l4 hS, l5 hS, l7 hS, l8 hS, l10 hS, l12 hS, l14 hS, l15 hS, l16 hS, l18 hS, l19 hS, l20 hS, l21 hS, l22 hS, l23 hS, l24 hS, l25 hS, l26 hS, l27 hS, l28 hS, l29 hS, l30 hS, l31 hS, l32 hS, l33 hS, l34 hS, l35 hS, l36 hS, l37 hS, l38 hS, l39 hS, l40 hS, l41 hS, l42 hS, l43 hS, l44 hS, l45 hS, l46 hS, l47 hS, g640 hS, g641 hS, g642 hS, g643 hS, g644 hS, g645 hS, g128 hS, g129 hS, g130 hS, g131 hS, g384 hS, g385 hS, g256 hS, g576 hS, g192 hS, g193 hS, g707 hS, g708 hS, g709 hS, g710 hS, g712 hS, g713 hS, g714 hS, g715 hS, g716 hS, g720 hS, g721 hS, g722 hS, g723 hS, g724 hS, g725 hS, g726 hS, g728 hS, g729 hS, g730 hS, g731 hS, g732 hS, g733 hS, g734 hS, g735 hS, g736 hS, g737 hS, g738 hS, g740 hS, g751 hS, g752 hS, n1, br_y c2]
  obtain ⟨wk, rfl, -, hw⟩ := nI_rng (a := 0) (b := 199) (by decide) (by decide) ov1
  obtain ⟨s0, rfl, h01, h02⟩ := nI_rng (a := 10) (b := 300) (by decide) (by decide) ov2
  obtain ⟨s1, rfl, h11, h12⟩ := nI_rng (a := 10) (b := 300) (by decide) (by decide) ov3
  obtain ⟨s2, rfl, h21, h22⟩ := nI_rng (a := 10) (b := 300) (by decide) (by decide) ov4
  obtain ⟨q6, rfl, -, hq⟩ := nI_rng (a := 0) (b := 5) (by decide) (by decide) ov5
  have hnt : nt < 6 := by omega
  have hOz : Oth z (168 * w + h) w nh nb nr ng gv := ⟨hS, hsc, hst, hhv, hrec, hbk, hgr, hgf, hmk, htn⟩
  obtain ⟨n0, hz⟩ : ∃ n0, zn z = n0 := ⟨_, rfl⟩
  have h48 : 48 ≤ n0 := by rw [← hz]; exact hS.1
  have hO := hOz.tx (nt := nt) (x1 := nI wk) (s0 := nI s0) (s1 := nI s1) (s2 := nI s2) (x6 := nI q6) h48
  have hC := textC_e (N := N) hS hz hnt n2 hw hq ⟨h01, h02⟩ ⟨h11, h12⟩ ⟨h21, h22⟩ hO.1
  obtain ⟨f1, f2, f3⟩ := tx_fix (z := z) (nt := nt) (x1 := nI wk) (s0 := nI s0) (s1 := nI s1) (s2 := nI s2) (x6 := nI q6) h48 hz
  have hp := PF.tx (z := z) (S := fun c => 48 ≤ c ∧ c < n0) (nt := nt) (x1 := nI wk) (s0 := nI s0) (s1 := nI s1) (s2 := nI s2) (x6 := nI q6) (fun c hc => hc.2) hz
  obtain ⟨t1, t2, t3⟩ := tx_new (N := N) (nt := nt) (x1 := nI wk) (s0 := nI s0) (s1 := nI s1) (s2 := nI s2) (x6 := nI q6) (y := zal z 8 0) hS.al h48 (by rw [al_n, hz]) (by rw [al_K, hz, va_up_self]) (by rw [al_F, hz, va_up_self])
  have hk := text_keep hO hn htx h48 hz t3 hnt hp f1 f2 f3 t2 hw hq ⟨h01, h02⟩ ⟨h11, h12⟩ ⟨h21, h22⟩
  have q739 := f1 739 17 (by decide)
  rw [n1] at q739
  generalize tyD (tyC (tyB (tyA (zal z 8 0) n0 nt (nI wk) (nI q6)) n0 (nI s0) (nI s1) (nI s2)) n0) n0 = y at *
  have hSE : Sh (tyE y n0 nt) := hO.1.sR.sF
  refine ⟨nI nt, tyE y n0 nt, _, hC, of_eq_true (o17 hSE), textM_e hSE hnt ?_ hw hq ⟨h01, h02⟩ ⟨h11, h12⟩ ⟨h21, h22⟩, hk⟩
  simp only [tyE, eF_zn, eF_zK, eF_zL, eF_s, eF_n, eF_zG, eF_zA, eF_zJ, eF_zR, eG_zn, eG_zK, eG_zL, eG_zF, eG_s, eG_n, eG_zA, eG_zJ, eG_zR, eA_zn, eA_zK, eA_zL, eA_zF, eA_zG, eA_s, eA_n, eA_zJ, eA_zR, eJ_zn, eJ_zK, eJ_zL, eJ_zF, eJ_zG, eJ_zA, eJ_s, eJ_n, eJ_zR, eR_zn, eR_zK, eR_zL, eR_zF, eR_zG, eR_zA, eR_zJ, eR_s, eR_n, ne_eq, not_false_eq_true, not_true_eq_false, reduceCtorEq, Nat.reduceEqDiff]
  exact q739
