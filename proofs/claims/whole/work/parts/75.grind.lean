-- GRIND
theorem pig : ∀ (m n : Nat) (f : Nat → Nat), (∀ i, i < n → f i < m) → (∀ i j, i < j → j < n → f i ≠ f j) → n ≤ m := by
  intro m
  induction m with
  | zero =>
    intro n f h1 _
    rcases Nat.eq_zero_or_pos n with h | h
    · omega
    · have := h1 0 h; omega
  | succ m ih =>
    intro n f h1 h2
    rcases Nat.eq_zero_or_pos n with h | h
    · omega
    · obtain ⟨p, rfl⟩ : ∃ p, n = p + 1 := ⟨n - 1, by omega⟩
      have := ih p (fun i => if f i = m then f p else f i) (fun i hi => ?_) (fun i j hij hj => ?_)
      · omega
      · have a1 := h1 i (by omega)
        have a2 := h1 p (by omega)
        have a3 := h2 i p hi (by omega)
        show (if f i = m then f p else f i) < m
        split <;> omega
      · have a1 := h2 i j hij (by omega)
        have a2 := h2 i p (by omega) (by omega)
        have a3 := h2 j p hj (by omega)
        show (if f i = m then f p else f i) ≠ (if f j = m then f p else f j)
        split <;> split <;> omega
theorem I_gr.room {z : Hp} {nr ng k : Nat} (h : I_gr z nr ng) (hk : k < nr) (hr : nr ≤ 200) (h24 : zA z 24 k = 0) : ng + 1 ≤ nr := by
  obtain ⟨g1, g2, -⟩ := h
  refine pig nr (ng + 1) (fun g => if g = ng then k else (zA z 26 g).toNatClampNeg) (fun g hg => ?_) (fun g g' h1 h2 => ?_)
  · show (if g = ng then k else (zA z 26 g).toNatClampNeg) < nr
    by_cases e : g = ng
    · rw [if_pos e]; exact hk
    · obtain ⟨i, i1, i2, -⟩ := g1 g (by omega)
      rw [if_neg e, i2, nI_clamp (by omega)]
      exact i1
  · show (if g = ng then k else (zA z 26 g).toNatClampNeg) ≠ (if g' = ng then k else (zA z 26 g').toNatClampNeg)
    obtain ⟨i, i1, i2, i3, i4, i5⟩ := g1 g (by omega)
    rw [if_neg (show ¬ g = ng by omega), i2, nI_clamp (by omega)]
    by_cases e : g' = ng
    · rw [if_pos e]
      intro q
      rw [q, h24] at i5
      exact absurd i5 (by decide)
    · obtain ⟨i', j1, j2, -⟩ := g1 g' (by omega)
      rw [if_neg e, j2, nI_clamp (by omega)]
      intro q
      exact g2 g g' h1 (by omega) (by rw [i2, j2, q])
theorem flS_up {A B C : Nat → Int32} {k : Nat} {c x : Int32} (h1 : A k = 1) : ∀ {n : Nat}, k < n → flS A B (va_up C k x) c n = flS A B C c n + (if B k = c then x - C k else 0)
  | 0, h => by omega
  | n + 1, h => by
    rcases Nat.lt_or_ge k n with hk | hk
    · have ih := flS_up (B := B) (C := C) (c := c) (x := x) h1 hk
      simp only [flS, ih, va_up_ne _ _ (show n ≠ k by omega)]
      rw [Int32.add_assoc, Int32.add_assoc, Int32.add_comm (if B k = c then x - C k else 0)]
    · have e : n = k := by omega
      subst e
      have ih := flS_congr (A := A) (A' := A) (B := B) (B' := B) (C := va_up C n x) (C' := C) (b := c) (n := n) (fun i hi => ⟨rfl, rfl, up_old hi⟩)
      simp only [flS, ih, va_up_self, h1, true_and]
      by_cases e : B n = c
      · simp only [if_pos e]
        rw [Int32.add_assoc, Int32.sub_eq_add_neg, Int32.add_comm (C n), Int32.add_assoc, Int32.add_left_neg, Int32.add_zero]
      · simp only [if_neg e, Int32.add_zero]
theorem usedR_mono {A B C A' B' C' : Nat → Int32} : ∀ {n : Nat}, (∀ k, k < n → ((A k = 1 ∧ B k = 1 ∧ C k = 0) ∨ A k = 2) → ((A' k = 1 ∧ B' k = 1 ∧ C' k = 0) ∨ A' k = 2)) → usedR A B C n ≤ usedR A' B' C' n
  | 0, _ => Nat.le_refl _
  | n + 1, h => by
    have ih := usedR_mono (n := n) (fun k hk => h k (by omega))
    have hn := h n (by omega)
    simp only [usedR]
    by_cases q : (A n = 1 ∧ B n = 1 ∧ C n = 0) ∨ A n = 2
    · rw [if_pos q, if_pos (hn q)]; omega
    · rw [if_neg q]
      split <;> omega
noncomputable def grZ1 (z : Hp) (a ng b4 kp fl : Nat) : Hp := zsF (zsF (zsF (zsR (zsF (zsF z 326 a 1) 327 a (nI fl)) 3 ng (some a)) 133 1 (nI (ng + 1))) 0 b4 (zF z 0 b4 + nI fl)) 651 0 (zF z 651 0 + nI kp)
noncomputable def grZ2 (x : Hp) (k ng kp fl : Nat) : Hp := zsF (zsF (zsA (zsA (zsA x 24 k 1) 25 k (nI fl)) 26 ng (nI k)) 717 17 (nI (ng + 1))) 719 17 (zF x 719 17 + nI kp)
theorem grind_keep {z : Hp} {w h nb nr ng gv nt nh k a b b4 kp fl : Nat} (hS : Sh z) (hsc : I_sc z) (hst : I_st z) (hn : I_num z w h nb nr ng gv nt nh) (hhv : I_hv z w nh) (hrec : I_rec z (168 * w + h) nb nr gv) (hbk : I_bk z nb nr) (hgr : I_gr z nr ng) (hgf : I_gf z nr gv) (hmk : I_mk z nr) (htx : I_tx z nt) (htn : I_tn z nb) (hk : k < nr) (ea : zR z 2 k = some a) (hlot : lotOf z k a) (hb : b < nb) (eb : zA z 21 k = nI b) (hb4 : zR z 16 b = some b4) (h24 : zA z 24 k = 0) (h25 : zA z 25 k = 0) (hfl : fl ≤ 100000) : Inv (grZ2 (grZ1 z a ng b4 kp fl) k ng kp fl) := by
  obtain ⟨n1, ⟨n6, n7, n8⟩, ⟨n9, n10, n11⟩, m4, ⟨m5, m5'⟩, m6, m7⟩ := id hn
  have hroom := hgr.room hk n11 h24
  have ka := hrec.kd hk ea
  have k4 : 48 ≤ b4 ∧ zK z b4 = 0 := by
    obtain ⟨c, e, p⟩ := hbk.1 b hb
    rw [hb4] at e
    cases e
    exact ⟨p.1, p.2.2.1⟩
  have kal : zK z a = 5 := hlot.2.1
  have hab : a ≠ b4 := fun e => by rw [e, k4.2] at kal; exact absurd kal (by decide)
  have l18 : zA z 18 k = 1 := hlot.1
  generalize hzf : grZ2 (grZ1 z a ng b4 kp fl) k ng kp fl = zf
  have r2 : zR zf 2 = zR z 2 := by simp only [← hzf, grZ2, grZ1, eF_zn, eF_zK, eF_zL, eF_s, eF_n, eF_zG, eF_zA, eF_zJ, eF_zR, eG_zn, eG_zK, eG_zL, eG_zF, eG_s, eG_n, eG_zA, eG_zJ, eG_zR, eA_zn, eA_zK, eA_zL, eA_zF, eA_zG, eA_s, eA_n, eA_zJ, eA_zR, eJ_zn, eJ_zK, eJ_zL, eJ_zF, eJ_zG, eJ_zA, eJ_s, eJ_n, eJ_zR, eR_zn, eR_zK, eR_zL, eR_zF, eR_zG, eR_zA, eR_zJ, eR_s, eR_n, ne_eq, not_false_eq_true, not_true_eq_false, reduceCtorEq, Nat.reduceEqDiff]
  have r3 : zR zf 3 = va_up (zR z 3) ng (some a) := by simp only [← hzf, grZ2, grZ1, eF_zn, eF_zK, eF_zL, eF_s, eF_n, eF_zG, eF_zA, eF_zJ, eF_zR, eG_zn, eG_zK, eG_zL, eG_zF, eG_s, eG_n, eG_zA, eG_zJ, eG_zR, eA_zn, eA_zK, eA_zL, eA_zF, eA_zG, eA_s, eA_n, eA_zJ, eA_zR, eJ_zn, eJ_zK, eJ_zL, eJ_zF, eJ_zG, eJ_zA, eJ_s, eJ_n, eJ_zR, eR_zn, eR_zK, eR_zL, eR_zF, eR_zG, eR_zA, eR_zJ, eR_s, eR_n, ne_eq, not_false_eq_true, not_true_eq_false, reduceCtorEq, Nat.reduceEqDiff]
  have r16 : zR zf 16 = zR z 16 := by simp only [← hzf, grZ2, grZ1, eF_zn, eF_zK, eF_zL, eF_s, eF_n, eF_zG, eF_zA, eF_zJ, eF_zR, eG_zn, eG_zK, eG_zL, eG_zF, eG_s, eG_n, eG_zA, eG_zJ, eG_zR, eA_zn, eA_zK, eA_zL, eA_zF, eA_zG, eA_s, eA_n, eA_zJ, eA_zR, eJ_zn, eJ_zK, eJ_zL, eJ_zF, eJ_zG, eJ_zA, eJ_s, eJ_n, eJ_zR, eR_zn, eR_zK, eR_zL, eR_zF, eR_zG, eR_zA, eR_zJ, eR_s, eR_n, ne_eq, not_false_eq_true, not_true_eq_false, reduceCtorEq, Nat.reduceEqDiff]
  have a24 : zA zf 24 = va_up (zA z 24) k 1 := by simp only [← hzf, grZ2, grZ1, eF_zn, eF_zK, eF_zL, eF_s, eF_n, eF_zG, eF_zA, eF_zJ, eF_zR, eG_zn, eG_zK, eG_zL, eG_zF, eG_s, eG_n, eG_zA, eG_zJ, eG_zR, eA_zn, eA_zK, eA_zL, eA_zF, eA_zG, eA_s, eA_n, eA_zJ, eA_zR, eJ_zn, eJ_zK, eJ_zL, eJ_zF, eJ_zG, eJ_zA, eJ_s, eJ_n, eJ_zR, eR_zn, eR_zK, eR_zL, eR_zF, eR_zG, eR_zA, eR_zJ, eR_s, eR_n, ne_eq, not_false_eq_true, not_true_eq_false, reduceCtorEq, Nat.reduceEqDiff]
  have a25 : zA zf 25 = va_up (zA z 25) k (nI fl) := by simp only [← hzf, grZ2, grZ1, eF_zn, eF_zK, eF_zL, eF_s, eF_n, eF_zG, eF_zA, eF_zJ, eF_zR, eG_zn, eG_zK, eG_zL, eG_zF, eG_s, eG_n, eG_zA, eG_zJ, eG_zR, eA_zn, eA_zK, eA_zL, eA_zF, eA_zG, eA_s, eA_n, eA_zJ, eA_zR, eJ_zn, eJ_zK, eJ_zL, eJ_zF, eJ_zG, eJ_zA, eJ_s, eJ_n, eJ_zR, eR_zn, eR_zK, eR_zL, eR_zF, eR_zG, eR_zA, eR_zJ, eR_s, eR_n, ne_eq, not_false_eq_true, not_true_eq_false, reduceCtorEq, Nat.reduceEqDiff]
  have a26 : zA zf 26 = va_up (zA z 26) ng (nI k) := by simp only [← hzf, grZ2, grZ1, eF_zn, eF_zK, eF_zL, eF_s, eF_n, eF_zG, eF_zA, eF_zJ, eF_zR, eG_zn, eG_zK, eG_zL, eG_zF, eG_s, eG_n, eG_zA, eG_zJ, eG_zR, eA_zn, eA_zK, eA_zL, eA_zF, eA_zG, eA_s, eA_n, eA_zJ, eA_zR, eJ_zn, eJ_zK, eJ_zL, eJ_zF, eJ_zG, eJ_zA, eJ_s, eJ_n, eJ_zR, eR_zn, eR_zK, eR_zL, eR_zF, eR_zG, eR_zA, eR_zJ, eR_s, eR_n, ne_eq, not_false_eq_true, not_true_eq_false, reduceCtorEq, Nat.reduceEqDiff]
  have ax : ∀ g, g ∉ [24, 25, 26] → zA zf g = zA z g := by
    intro g hg
    have q1 : g ≠ 24 := fun e => hg (by rw [e]; decide)
    have q2 : g ≠ 25 := fun e => hg (by rw [e]; decide)
    have q3 : g ≠ 26 := fun e => hg (by rw [e]; decide)
    simp only [← hzf, grZ2, grZ1, eF_zA, eR_zA, eA_n _ _ _ _ q1, eA_n _ _ _ _ q2, eA_n _ _ _ _ q3]
  have en : zn zf = zn z := by simp only [← hzf, grZ2, grZ1, eF_zn, eF_zK, eF_zL, eF_s, eF_n, eF_zG, eF_zA, eF_zJ, eF_zR, eG_zn, eG_zK, eG_zL, eG_zF, eG_s, eG_n, eG_zA, eG_zJ, eG_zR, eA_zn, eA_zK, eA_zL, eA_zF, eA_zG, eA_s, eA_n, eA_zJ, eA_zR, eJ_zn, eJ_zK, eJ_zL, eJ_zF, eJ_zG, eJ_zA, eJ_s, eJ_n, eJ_zR, eR_zn, eR_zK, eR_zL, eR_zF, eR_zG, eR_zA, eR_zJ, eR_s, eR_n, ne_eq, not_false_eq_true, not_true_eq_false, reduceCtorEq, Nat.reduceEqDiff]
  have eK : zK zf = zK z := by simp only [← hzf, grZ2, grZ1, eF_zn, eF_zK, eF_zL, eF_s, eF_n, eF_zG, eF_zA, eF_zJ, eF_zR, eG_zn, eG_zK, eG_zL, eG_zF, eG_s, eG_n, eG_zA, eG_zJ, eG_zR, eA_zn, eA_zK, eA_zL, eA_zF, eA_zG, eA_s, eA_n, eA_zJ, eA_zR, eJ_zn, eJ_zK, eJ_zL, eJ_zF, eJ_zG, eJ_zA, eJ_s, eJ_n, eJ_zR, eR_zn, eR_zK, eR_zL, eR_zF, eR_zG, eR_zA, eR_zJ, eR_s, eR_n, ne_eq, not_false_eq_true, not_true_eq_false, reduceCtorEq, Nat.reduceEqDiff]
  have eG : zG zf = zG z := by simp only [← hzf, grZ2, grZ1, eF_zn, eF_zK, eF_zL, eF_s, eF_n, eF_zG, eF_zA, eF_zJ, eF_zR, eG_zn, eG_zK, eG_zL, eG_zF, eG_s, eG_n, eG_zA, eG_zJ, eG_zR, eA_zn, eA_zK, eA_zL, eA_zF, eA_zG, eA_s, eA_n, eA_zJ, eA_zR, eJ_zn, eJ_zK, eJ_zL, eJ_zF, eJ_zG, eJ_zA, eJ_s, eJ_n, eJ_zR, eR_zn, eR_zK, eR_zL, eR_zF, eR_zG, eR_zA, eR_zJ, eR_s, eR_n, ne_eq, not_false_eq_true, not_true_eq_false, reduceCtorEq, Nat.reduceEqDiff]
  have f326 : zF zf 326 = va_up (zF z 326) a 1 := by simp only [← hzf, grZ2, grZ1, eF_zn, eF_zK, eF_zL, eF_s, eF_n, eF_zG, eF_zA, eF_zJ, eF_zR, eG_zn, eG_zK, eG_zL, eG_zF, eG_s, eG_n, eG_zA, eG_zJ, eG_zR, eA_zn, eA_zK, eA_zL, eA_zF, eA_zG, eA_s, eA_n, eA_zJ, eA_zR, eJ_zn, eJ_zK, eJ_zL, eJ_zF, eJ_zG, eJ_zA, eJ_s, eJ_n, eJ_zR, eR_zn, eR_zK, eR_zL, eR_zF, eR_zG, eR_zA, eR_zJ, eR_s, eR_n, ne_eq, not_false_eq_true, not_true_eq_false, reduceCtorEq, Nat.reduceEqDiff]
  have f327 : zF zf 327 = va_up (zF z 327) a (nI fl) := by simp only [← hzf, grZ2, grZ1, eF_zn, eF_zK, eF_zL, eF_s, eF_n, eF_zG, eF_zA, eF_zJ, eF_zR, eG_zn, eG_zK, eG_zL, eG_zF, eG_s, eG_n, eG_zA, eG_zJ, eG_zR, eA_zn, eA_zK, eA_zL, eA_zF, eA_zG, eA_s, eA_n, eA_zJ, eA_zR, eJ_zn, eJ_zK, eJ_zL, eJ_zF, eJ_zG, eJ_zA, eJ_s, eJ_n, eJ_zR, eR_zn, eR_zK, eR_zL, eR_zF, eR_zG, eR_zA, eR_zJ, eR_s, eR_n, ne_eq, not_false_eq_true, not_true_eq_false, reduceCtorEq, Nat.reduceEqDiff]
  have f0 : zF zf 0 = va_up (zF z 0) b4 (zF z 0 b4 + nI fl) := by simp only [← hzf, grZ2, grZ1, eF_zn, eF_zK, eF_zL, eF_s, eF_n, eF_zG, eF_zA, eF_zJ, eF_zR, eG_zn, eG_zK, eG_zL, eG_zF, eG_s, eG_n, eG_zA, eG_zJ, eG_zR, eA_zn, eA_zK, eA_zL, eA_zF, eA_zG, eA_s, eA_n, eA_zJ, eA_zR, eJ_zn, eJ_zK, eJ_zL, eJ_zF, eJ_zG, eJ_zA, eJ_s, eJ_n, eJ_zR, eR_zn, eR_zK, eR_zL, eR_zF, eR_zG, eR_zA, eR_zJ, eR_s, eR_n, ne_eq, not_false_eq_true, not_true_eq_false, reduceCtorEq, Nat.reduceEqDiff]
  have f133 : zF zf 133 1 = nI (ng + 1) := by simp only [← hzf, grZ2, grZ1, eF_zn, eF_zK, eF_zL, eF_s, eF_n, eF_zG, eF_zA, eF_zJ, eF_zR, eG_zn, eG_zK, eG_zL, eG_zF, eG_s, eG_n, eG_zA, eG_zJ, eG_zR, eA_zn, eA_zK, eA_zL, eA_zF, eA_zG, eA_s, eA_n, eA_zJ, eA_zR, eJ_zn, eJ_zK, eJ_zL, eJ_zF, eJ_zG, eJ_zA, eJ_s, eJ_n, eJ_zR, eR_zn, eR_zK, eR_zL, eR_zF, eR_zG, eR_zA, eR_zJ, eR_s, eR_n, ne_eq, not_false_eq_true, not_true_eq_false, reduceCtorEq, Nat.reduceEqDiff, va_up_self]
  have f717 : zF zf 717 17 = nI (ng + 1) := by simp only [← hzf, grZ2, grZ1, eF_zn, eF_zK, eF_zL, eF_s, eF_n, eF_zG, eF_zA, eF_zJ, eF_zR, eG_zn, eG_zK, eG_zL, eG_zF, eG_s, eG_n, eG_zA, eG_zJ, eG_zR, eA_zn, eA_zK, eA_zL, eA_zF, eA_zG, eA_s, eA_n, eA_zJ, eA_zR, eJ_zn, eJ_zK, eJ_zL, eJ_zF, eJ_zG, eJ_zA, eJ_s, eJ_n, eJ_zR, eR_zn, eR_zK, eR_zL, eR_zF, eR_zG, eR_zA, eR_zJ, eR_s, eR_n, ne_eq, not_false_eq_true, not_true_eq_false, reduceCtorEq, Nat.reduceEqDiff, va_up_self]
  have f651 : zF zf 651 0 = zF z 651 0 + nI kp := by simp only [← hzf, grZ2, grZ1, eF_zn, eF_zK, eF_zL, eF_s, eF_n, eF_zG, eF_zA, eF_zJ, eF_zR, eG_zn, eG_zK, eG_zL, eG_zF, eG_s, eG_n, eG_zA, eG_zJ, eG_zR, eA_zn, eA_zK, eA_zL, eA_zF, eA_zG, eA_s, eA_n, eA_zJ, eA_zR, eJ_zn, eJ_zK, eJ_zL, eJ_zF, eJ_zG, eJ_zA, eJ_s, eJ_n, eJ_zR, eR_zn, eR_zK, eR_zL, eR_zF, eR_zG, eR_zA, eR_zJ, eR_s, eR_n, ne_eq, not_false_eq_true, not_true_eq_false, reduceCtorEq, Nat.reduceEqDiff, va_up_self]
  have f719 : zF zf 719 17 = zF z 719 17 + nI kp := by simp only [← hzf, grZ2, grZ1, eF_zn, eF_zK, eF_zL, eF_s, eF_n, eF_zG, eF_zA, eF_zJ, eF_zR, eG_zn, eG_zK, eG_zL, eG_zF, eG_s, eG_n, eG_zA, eG_zJ, eG_zR, eA_zn, eA_zK, eA_zL, eA_zF, eA_zG, eA_s, eA_n, eA_zJ, eA_zR, eJ_zn, eJ_zK, eJ_zL, eJ_zF, eJ_zG, eJ_zA, eJ_s, eJ_n, eJ_zR, eR_zn, eR_zK, eR_zL, eR_zF, eR_zG, eR_zA, eR_zJ, eR_s, eR_n, ne_eq, not_false_eq_true, not_true_eq_false, reduceCtorEq, Nat.reduceEqDiff, va_up_self]
  have fx : ∀ g, g ∉ [326, 327, 133, 0, 651, 717, 719] → zF zf g = zF z g := by
    intro g hg
    have q1 : g ≠ 326 := fun e => hg (by rw [e]; decide)
    have q2 : g ≠ 327 := fun e => hg (by rw [e]; decide)
    have q3 : g ≠ 133 := fun e => hg (by rw [e]; decide)
    have q4 : g ≠ 0 := fun e => hg (by rw [e]; decide)
    have q5 : g ≠ 651 := fun e => hg (by rw [e]; decide)
    have q6 : g ≠ 717 := fun e => hg (by rw [e]; decide)
    have q7 : g ≠ 719 := fun e => hg (by rw [e]; decide)
    simp only [← hzf, grZ2, grZ1, eA_zF, eR_zF, eF_n _ _ _ _ q1, eF_n _ _ _ _ q2, eF_n _ _ _ _ q3, eF_n _ _ _ _ q4, eF_n _ _ _ _ q5, eF_n _ _ _ _ q6, eF_n _ _ _ _ q7]
  have sm : ∀ c, 48 ≤ c → c ≠ a → c ≠ b4 → Sm z zf c := by
    intro c h1 h2 h3
    rw [← hzf]
    unfold grZ2 grZ1
    exact Sm.refl z c |>.sF h2 |>.sF h2 |>.sR |>.sF (by omega) |>.sF h3 |>.sF (by omega) |>.sA |>.sA |>.sA |>.sF (by omega) |>.sF (by omega)
  have hnum : I_num zf w h nb nr (ng + 1) gv nt nh := by
    unfold I_num
    rw [fx 704 (by decide), fx 705 (by decide), fx 647 (by decide), fx 706 (by decide), fx 646 (by decide), fx 711 (by decide), fx 132 (by decide), fx 727 (by decide), fx 134 (by decide), fx 739 (by decide), fx 257 (by decide), fx 753 (by decide), fx 194 (by decide)]
    exact ⟨n1, ⟨n6, n7, n8⟩, ⟨n9, n10, n11⟩, ⟨f717, f133, hroom⟩, ⟨m5, m5'⟩, m6, m7⟩
  have hsc' : I_sc zf := by
    obtain ⟨s1, s2, s3, s4, s5, s6, s7⟩ := hsc
    unfold I_sc
    rw [f651, f719, s3, fx 718 (by decide), fx 648 (by decide), fx 649 (by decide), fx 744 (by decide), fx 650 (by decide), fx 745 (by decide), fx 579 (by decide), fx 743 (by decide)]
    exact ⟨s1, s2, rfl, s4, s5, s6, s7⟩
  have hrec' : I_rec zf (168 * w + h) nb nr gv := by
    refine ⟨fun i hi => ?_, by rw [r2]; exact hrec.2.1, fun i hi => ?_⟩
    · obtain ⟨c, ec, qc⟩ := hrec.1 i hi
      rw [r2]
      refine ⟨c, ec, ?_⟩
      by_cases e : i = k
      · subst e
        rw [ea] at ec
        cases ec
        obtain ⟨c1, c2, c3, c4, c5, c6, c7, c8⟩ := qc
        obtain ⟨d1, d2, d3, d4, d5, d6, d7, d8, d9⟩ := hlot
        refine ⟨c1, by rw [en]; exact c2, by rw [fx 768 (by decide), ax 18 (by decide)]; exact c3, by rw [fx 769 (by decide)]; exact c4, by rw [fx 771 (by decide), ax 21 (by decide)]; exact c5, by rw [fx 770 (by decide), ax 19 (by decide), ax 20 (by decide)]; exact c6, by rw [ax 21 (by decide)]; exact c7, Or.inl ⟨by rw [ax 18 (by decide)]; exact d1, by rw [eK]; exact d2, by rw [fx 324 (by decide), ax 22 (by decide)]; exact d3, by rw [fx 325 (by decide), ax 23 (by decide)]; exact d4, by rw [f326, a24, va_up_self, va_up_self], by rw [f327, a25, va_up_self, va_up_self], by rw [ax 22 (by decide)]; exact d7, by rw [ax 23 (by decide)]; exact d8, Or.inr ⟨by rw [a24, va_up_self], fl, by rw [a25, va_up_self], hfl⟩⟩⟩
      · have kc := hrec.kd hi ec
        have hne : c ≠ a := by
          rcases Nat.lt_or_ge i k with q | q
          · have := hrec.2.1 i k c a q hk ec ea; omega
          · have := hrec.2.1 k i a c (by omega) hi ea ec; omega
        have hne2 : c ≠ b4 := fun e => by
          rw [e, k4.2] at kc
          rcases kc.2.2 with u | u | u <;> exact absurd u (by decide)
        refine qc.cg (by rw [en]; exact Nat.le_refl _) (sm c kc.1 hne hne2) (fun g hg => ?_) (fun j _ => by rw [ax 34 (by decide)]) (Nat.le_refl _) (Nat.le_refl _) (Nat.le_refl _)
        by_cases g1 : g = 24
        · rw [g1, a24, va_up_ne _ _ e]
        · by_cases g2 : g = 25
          · rw [g2, a25, va_up_ne _ _ e]
          · have g3 : g ≠ 26 := fun q => by rw [q] at hg; exact absurd hg (by decide)
            rw [ax g (fun q => by simp only [List.mem_cons, List.not_mem_nil, or_false] at q; omega)]
    · rw [a24, a25, va_up_ne _ _ (by omega), va_up_ne _ _ (by omega)]
      exact hrec.2.2 i hi
  have hbk' : I_bk zf nb nr := by
    refine ⟨fun j hj => ?_, by rw [r16]; exact hbk.2.1, by rw [ax 35 (by decide), ax 36 (by decide), ax 37 (by decide)]; exact hbk.2.2⟩
    obtain ⟨c, e, p⟩ := hbk.1 j hj
    obtain ⟨q1, q2, q3, q4, q5, q6, q7, q8, q9, q10, q11⟩ := p
    refine ⟨c, by rw [r16]; exact e, q1, by rw [en]; exact q2, by rw [eK]; exact q3, ?_, by rw [fx 1 (by decide), ax 18 (by decide), ax 21 (by decide)]; exact q5, by rw [fx 2 (by decide), ax 18 (by decide), ax 21 (by decide)]; exact q6, by rw [fx 3 (by decide), ax 18 (by decide), ax 21 (by decide)]; exact q7, by rw [fx 4 (by decide), ax 35 (by decide)]; exact q8, by rw [fx 5 (by decide), ax 36 (by decide)]; exact q9, by rw [fx 6 (by decide), ax 37 (by decide)]; exact q10, by rw [eG, ax 38 (by decide), r2, ax 18 (by decide)]; exact q11⟩
    rw [f0, ax 18 (by decide), ax 21 (by decide), a25, flS_up l18 hk, h25, eb, ← q4]
    by_cases ej : j = b
    · subst ej
      rw [hb4] at e
      cases e
      rw [va_up_self, if_pos rfl, Int32.sub_zero]
    · have hne := hbk.ne hj hb e hb4 ej
      have hne2 : ¬ nI b = nI j := by rw [nI_eq (by omega) (by omega)]; omega
      rw [va_up_ne _ _ hne, if_neg hne2, Int32.add_zero]
  have hgr' : I_gr zf nr (ng + 1) := by
    obtain ⟨g1, g2, g3⟩ := hgr
    refine ⟨fun g hg => ?_, fun g g' h1 h2 => ?_, fun i hi k1 k2 => ?_⟩
    · rcases Nat.lt_or_ge g ng with q | q
      · obtain ⟨i, i1, i2, i3, i4, i5⟩ := g1 g q
        refine ⟨i, i1, by rw [a26, up_old q]; exact i2, by rw [r3, r2, up_old q]; exact i3, by rw [ax 18 (by decide)]; exact i4, ?_⟩
        rw [a24]
        by_cases ei : i = k
        · rw [ei, va_up_self]
        · rw [va_up_ne _ _ ei]; exact i5
      · have e : g = ng := by omega
        subst e
        exact ⟨k, hk, by rw [a26, va_up_self], by rw [r3, r2, va_up_self, ea], by rw [ax 18 (by decide)]; exact l18, by rw [a24, va_up_self]⟩
    · rw [a26]
      rcases Nat.lt_or_ge g' ng with q | q
      · rw [up_old q, up_old (show g < ng by omega)]
        exact g2 g g' h1 q
      · have e : g' = ng := by omega
        subst e
        rw [va_up_self, up_old h1]
        obtain ⟨i, i1, i2, i3, i4, i5⟩ := g1 g h1
        rw [i2]
        intro q2
        rw [nI_eq (by omega) (by omega)] at q2
        rw [q2, h24] at i5
        exact absurd i5 (by decide)
    · rw [a26]
      rw [ax 18 (by decide)] at k1
      by_cases ei : i = k
      · exact ⟨ng, by omega, by rw [va_up_self, ei]⟩
      · rw [a24, va_up_ne _ _ ei] at k2
        obtain ⟨g, q1, q2⟩ := g3 i hi k1 k2
        exact ⟨g, by omega, by rw [up_old q1]; exact q2⟩
  have hgf' : I_gf zf nr gv := by
    obtain ⟨g1, g2⟩ := hgf
    refine ⟨Nat.le_trans g1 (usedR_mono (fun i hi q => ?_)), by rw [ax 4 (by decide), ax 5 (by decide), ax 32 (by decide), ax 33 (by decide)]; exact g2⟩
    rw [ax 18 (by decide), a24, a25]
    by_cases ei : i = k
    · rw [ei, l18, h24] at q
      rcases q with q | q
      · exact absurd q.2.1 (by decide)
      · exact absurd q (by decide)
    · rw [va_up_ne _ _ ei, va_up_ne _ _ ei]
      exact q
  subst hzf
  exact ⟨hS.sF.sF.sR.sF.sF.sF.sA.sA.sA.sF.sF, hsc', (((((((((((hst.sF (by decide)).sF (by decide)).sR).sF (by decide)).sF (by decide)).sF (by decide)).sA).sA).sA).sF (by decide)).sF (by decide)), w, h, nb, nr, ng + 1, gv, nt, nh, hnum, (((((((((((hhv.sF).sF).sR).sF).sF).sF).sA (by decide)).sA (by decide)).sA (by decide)).sF).sF), hrec', hbk', hgr', hgf', (((((((((((hmk.sF).sF).sR).sF).sF).sF).sA (by decide)).sA (by decide)).sA (by decide)).sF).sF), (((((((((((htx.sF (by decide)).sF (by decide)).sR (by decide)).sF (by decide)).sF (by decide)).sF (by decide)).sA (by decide) (by decide)).sA (by decide) (by decide)).sA (by decide) (by decide)).sF (by decide)).sF (by decide)), (((((((((((htn.sF (by decide)).sF (by decide)).sR).sF (by decide)).sF (by decide)).sF (by decide)).sA (by decide)).sA (by decide)).sA (by decide)).sF (by decide)).sF (by decide))⟩
theorem grindC_e {N : Nat} {z : Hp} {nb nr ng k a b b4 o d : Nat} (hS : Sh z) (n7 : zF z 646 0 = nI nb) (n8 : nb ≤ 8) (n10 : zF z 132 1 = nI nr) (n11 : nr ≤ 200) (n12 : zF z 133 1 = nI ng) (hk : k < nr) (hng : ng < 200) (ea : zR z 2 k = some a) (ha : 48 ≤ a) (ha2 : a < zn z) (ka : zK z a = 5) (e326 : zF z 326 a = 0) (e324 : zF z 324 a = nI o) (ho : o ≤ 100000) (e771 : zF z 771 a = nI b) (hb : b < nb) (hb4 : zR z 16 b = some b4) (hb5 : b4 < zn z) (kb : zK z b4 = 0) (hab : a ≠ b4) (ed : zF z 648 0 = nI d) (hd1 : 2 ≤ d) (hd2 : d ≤ 100) : fX11_grind N 0 (nI k) z = some (nI (o / d), grZ1 z a ng b4 (o / d) (o - o / d)) := by
  have c1 : ¬ nI d ≤ 0 := nI_nle (by omega) (by omega)
  have c2 : (¬ nI d = 0) = True := eq_true (nI_ne0 (by omega) (by omega))
  have c3 : ¬ (200 : Int32) ≤ nI ng := by rw [show (200 : Int32) = nI 200 from rfl, nI_leI (by decide) (by omega)]; omega
  have hdiv : o / d ≤ o := Nat.div_le_self _ _
  have kd : (a < zn z ∧ (zK z a = 1 ∨ zK z a = 5 ∨ zK z a = 7)) = True := eq_true ⟨ha2, Or.inr (Or.inl ka)⟩
  have g5 := okE ha2 ka
  have e1 := pk_div (a := o) (d := d) (by omega) (by omega) (by omega)
  have s1 := pk_sub hdiv
  have hS1 : Sh (zsF (zsR (zsF (zsF z 326 a 1) 327 a (nI (o - o / d))) 3 ng (some a)) 133 1 (nI (ng + 1))) := hS.sF.sF.sR.sF
  have hb1 := baker_1 (N := N) (k := b) hS1 (nb := nb) (by simp only [eF_zn, eF_zK, eF_zL, eF_s, eF_n, eF_zG, eF_zA, eF_zJ, eF_zR, eG_zn, eG_zK, eG_zL, eG_zF, eG_s, eG_n, eG_zA, eG_zJ, eG_zR, eA_zn, eA_zK, eA_zL, eA_zF, eA_zG, eA_s, eA_n, eA_zJ, eA_zR, eJ_zn, eJ_zK, eJ_zL, eJ_zF, eJ_zG, eJ_zA, eJ_s, eJ_n, eJ_zR, eR_zn, eR_zK, eR_zL, eR_zF, eR_zG, eR_zA, eR_zJ, eR_s, eR_n, ne_eq, not_false_eq_true, not_true_eq_false, reduceCtorEq, Nat.reduceEqDiff]; exact n7) n8 hb
  have r16 : zR (zsF (zsR (zsF (zsF z 326 a 1) 327 a (nI (o - o / d))) 3 ng (some a)) 133 1 (nI (ng + 1))) 16 b = some b4 := by simp only [eF_zn, eF_zK, eF_zL, eF_s, eF_n, eF_zG, eF_zA, eF_zJ, eF_zR, eG_zn, eG_zK, eG_zL, eG_zF, eG_s, eG_n, eG_zA, eG_zJ, eG_zR, eA_zn, eA_zK, eA_zL, eA_zF, eA_zG, eA_s, eA_n, eA_zJ, eA_zR, eJ_zn, eJ_zK, eJ_zL, eJ_zF, eJ_zG, eJ_zA, eJ_s, eJ_n, eJ_zR, eR_zn, eR_zK, eR_zL, eR_zF, eR_zG, eR_zA, eR_zJ, eR_s, eR_n, ne_eq, not_false_eq_true, not_true_eq_false, reduceCtorEq, Nat.reduceEqDiff]; exact hb4
  rw [r16] at hb1
  simp only [fX11_grind, fX11_toMill_70, fX11_toMill_20, fX11_toMill, fX2_queueFlour_30, fX2_queueFlour, gdT, brTr, brFa, br_00, br_10, bd_e, bo_s, bp_s, cs_s, cs_n, lf_s, o0 hS, o1 hS, o2 hS, o3 hS, o4 hS, o5 hS, o6 hS, o7 hS, o8 hS, o9 hS, o10 hS, o11 hS, o12 hS, o13 hS, o14 hS, o15 hS, o16 hS, o17 hS, o18 hS, o19 hS, o20 hS, o21 hS, o22 hS, o23 hS, o24 hS, o25 hS, o26 hS, o27 hS, o28 hS, o29 hS, o30 hS, o31 hS, o32 hS, o33 hS, o34 hS, o35 hS, o36 hS, o37 hS, o38 hS, o39 hS, o40 hS, o41 hS, o42 hS, o43 hS, o44 hS, o45 hS, o46 hS, o47 hS, l2 hS, l3 hS, l4 hS, l5 hS, l7 hS, l8 hS, l10 hS, l12 hS, l14 hS, l15 hS, l16 hS, l18 hS, l19 hS, l20 hS, l21 hS, l22 hS, l23 hS, l24 hS, l25 hS, l26 hS, l27 hS, l28 hS, l29 hS, l30 hS, l31 hS, l32 hS, l33 hS, l34 hS, l35 hS, l36 hS, l37 hS, l38 hS, l39 hS, l40 hS, l41 hS, l42 hS, l43 hS, l44 hS, l45 hS, l46 hS, l47 hS, g640 hS, g641 hS, g642 hS, g643 hS, g644 hS, g645 hS, g128 hS, g129 hS, g130 hS, g131 hS, g384 hS, g385 hS, g256 hS, g576 hS, g192 hS, g193 hS, g707 hS, g708 hS, g709 hS, g710 hS, g712 hS, g713 hS, g714 hS, g715 hS, g716 hS, g720 hS, g721 hS, g722 hS, g723 hS, g724 hS, g725 hS, g726 hS, g728 hS, g729 hS, g730 hS, g731 hS, g732 hS, g733 hS, g734 hS, g735 hS, g736 hS, g737 hS, g738 hS, g740 hS, g751 hS, g752 hS, entry_1 hS n10 n11 hk, ea, kd, br_y ka, br_y e326, ed, br_n c1, g5, c2, e324, e1, eF_zn, eF_zK, eF_zL, eF_s, eF_n, eF_zG, eF_zA, eF_zJ, eF_zR, eG_zn, eG_zK, eG_zL, eG_zF, eG_s, eG_n, eG_zA, eG_zJ, eG_zR, eA_zn, eA_zK, eA_zL, eA_zF, eA_zG, eA_s, eA_n, eA_zJ, eA_zR, eJ_zn, eJ_zK, eJ_zL, eJ_zF, eJ_zG, eJ_zA, eJ_s, eJ_n, eJ_zR, eR_zn, eR_zK, eR_zL, eR_zF, eR_zG, eR_zA, eR_zJ, eR_s, eR_n, ne_eq, not_false_eq_true, not_true_eq_false, reduceCtorEq, Nat.reduceEqDiff, va_up_self, s1, n12, br_n c3, inb hng (by decide), nI_clamp (show ng < 2 ^ 31 by omega), nI_1, e771, hb1, okE hb5 kb, grZ1]
theorem grindM_e {N : Nat} {x : Hp} {nr ng k o d : Nat} (hS : Sh x) (n9 : zF x 711 17 = nI nr) (n11 : nr ≤ 200) (n12 : zF x 717 17 = nI ng) (hk : k < nr) (hng : ng < 200) (v18 : zA x 18 k = 1) (v24 : zA x 24 k = 0) (v22 : zA x 22 k = nI o) (ho : o ≤ 100000) (ed : zF x 718 17 = nI d) (hd1 : 2 ≤ d) (hd2 : d ≤ 100) : fX12_grind N 17 (nI k) x = some (nI (o / d), grZ2 x k ng (o / d) (o - o / d)) := by
  have c2 : (¬ nI d = 0) = True := eq_true (nI_ne0 (by omega) (by omega))
  have hdiv : o / d ≤ o := Nat.div_le_self _ _
  have e1 := pk_div (a := o) (d := d) (by omega) (by omega) (by omega)
  have s1 := pk_sub hdiv
  simp only [fX12_grind, gdT, brTr, brFa, br_00, br_10, bd_e, bo_s, bp_s, cs_s, cs_n, lf_s, eF_zn, eF_zK, eF_zL, eF_s, eF_n, eF_zG, eF_zA, eF_zJ, eF_zR, eG_zn, eG_zK, eG_zL, eG_zF, eG_s, eG_n, eG_zA, eG_zJ, eG_zR, eA_zn, eA_zK, eA_zL, eA_zF, eA_zG, eA_s, eA_n, eA_zJ, eA_zR, eJ_zn, eJ_zK, eJ_zL, eJ_zF, eJ_zG, eJ_zA, eJ_s, eJ_n, eJ_zR, eR_zn, eR_zK, eR_zL, eR_zF, eR_zG, eR_zA, eR_zJ, eR_s, eR_n, ne_eq, not_false_eq_true, not_true_eq_false, reduceCtorEq, Nat.reduceEqDiff, o0 hS, o1 hS, o2 hS, o3 hS, o4 hS, o5 hS, o6 hS, o7 hS, o8 hS, o9 hS, o10 hS, o11 hS, o12 hS, o13 hS, o14 hS, o15 hS, o16 hS, o17 hS, o18 hS, o19 hS, o20 hS, o21 hS, o22 hS, o23 hS, o24 hS, o25 hS, o26 hS, o27 hS, o28 hS, o29 hS, o30 hS, o31 hS, o32 hS, o33 hS, o34 hS, o35 hS, o36 hS, o37 hS, o38 hS, o39 hS, o40 hS, o41 hS, o42 hS, o43 hS, o44 hS, o45 hS, o46 hS, o47 hS, l2 hS, l3 hS, l4 hS, l5 hS, l7 hS, l8 hS, l10 hS, l12 hS, l14 hS, l15 hS, l16 hS, l18 hS, l19 hS, l20 hS, l21 hS, l22 hS, l23 hS, l24 hS, l25 hS, l26 hS, l27 hS, l28 hS, l29 hS, l30 hS, l31 hS, l32 hS, l33 hS, l34 hS, l35 hS, l36 hS, l37 hS, l38 hS, l39 hS, l40 hS, l41 hS, l42 hS, l43 hS, l44 hS, l45 hS, l46 hS, l47 hS, g640 hS, g641 hS, g642 hS, g643 hS, g644 hS, g645 hS, g128 hS, g129 hS, g130 hS, g131 hS, g384 hS, g385 hS, g256 hS, g576 hS, g192 hS, g193 hS, g707 hS, g708 hS, g709 hS, g710 hS, g712 hS, g713 hS, g714 hS, g715 hS, g716 hS, g720 hS, g721 hS, g722 hS, g723 hS, g724 hS, g725 hS, g726 hS, g728 hS, g729 hS, g730 hS, g731 hS, g732 hS, g733 hS, g734 hS, g735 hS, g736 hS, g737 hS, g738 hS, g740 hS, g751 hS, g752 hS, isRec_1 hS n9 n11 hk, inb (show k < 200 by omega) (by decide), nI_clamp (show k < 2 ^ 31 by omega), br_y v18, br_y v24, v22, ed, c2, e1, s1, n12, inb hng (by decide), nI_clamp (show ng < 2 ^ 31 by omega), nI_1, grZ2]
theorem op_grind (N : Nat) : Op_grind N Inv := by
  intro z a1 hI
  obtain ⟨hS, hsc, hst, w, h, nb, nr, ng, gv, nt, nh, hn, hhv, hrec, hbk, hgr, hgf, hmk, htx, htn⟩ := id hI
  obtain ⟨⟨n1, n2, n3, n4, n5⟩, ⟨n6, n7, n8⟩, ⟨n9, n10, n11⟩, ⟨m1, m2, m3⟩, m5, m6, m7⟩ := id hn
  by_cases hb0 : a1 < 0 ∨ nI nr ≤ a1
  · refine ⟨-1, z, z, ?_, of_eq_true (o17 hS), ?_, hI⟩
    · simp only [fX11_grind, gdT, brTr, brFa, br_00, br_10, bd_e, bo_s, bp_s, cs_s, cs_n, lf_s, o0 hS, o1 hS, o2 hS, o3 hS, o4 hS, o5 hS, o6 hS, o7 hS, o8 hS, o9 hS, o10 hS, o11 hS, o12 hS, o13 hS, o14 hS, o15 hS, o16 hS, o17 hS, o18 hS, o19 hS, o20 hS, o21 hS, o22 hS, o23 hS, o24 hS, o25 hS, o26 hS, o27 hS, o28 hS, o29 hS, o30 hS, o31 hS, o32 hS, o33 hS, o34 hS, o35 hS, o36 hS, o37 hS, o38 hS, o39 hS, o40 hS, o41 hS, o42 hS, o43 hS, o44 hS, o45 hS, o46 hS, o47 hS, l2 hS, l3 hS, l4 hS, l5 hS, l7 hS, l8 hS, l10 hS, l12 hS, l14 hS, l15 hS, l16 hS, l18 hS, l19 hS, l20 hS, l21 hS, l22 hS, l23 hS, l24 hS, l25 hS, l26 hS, l27 hS, l28 hS, l29 hS, l30 hS, l31 hS, l32 hS, l33 hS, l34 hS, l35 hS, l36 hS, l37 hS, l38 hS, l39 hS, l40 hS, l41 hS, l42 hS, l43 hS, l44 hS, l45 hS, l46 hS, l47 hS, g640 hS, g641 hS, g642 hS, g643 hS, g644 hS, g645 hS, g128 hS, g129 hS, g130 hS, g131 hS, g384 hS, g385 hS, g256 hS, g576 hS, g192 hS, g193 hS, g707 hS, g708 hS, g709 hS, g710 hS, g712 hS, g713 hS, g714 hS, g715 hS, g716 hS, g720 hS, g721 hS, g722 hS, g723 hS, g724 hS, g725 hS, g726 hS, g728 hS, g729 hS, g730 hS, g731 hS, g732 hS, g733 hS, g734 hS, g735 hS, g736 hS, g737 hS, g738 hS, g740 hS, g751 hS, g752 hS, entry_0 hS n10 hb0]
    · simp only [fX12_grind, gdT, brTr, brFa, br_00, br_10, bd_e, bo_s, bp_s, cs_s, cs_n, lf_s, o0 hS, o1 hS, o2 hS, o3 hS, o4 hS, o5 hS, o6 hS, o7 hS, o8 hS, o9 hS, o10 hS, o11 hS, o12 hS, o13 hS, o14 hS, o15 hS, o16 hS, o17 hS, o18 hS, o19 hS, o20 hS, o21 hS, o22 hS, o23 hS, o24 hS, o25 hS, o26 hS, o27 hS, o28 hS, o29 hS, o30 hS, o31 hS, o32 hS, o33 hS, o34 hS, o35 hS, o36 hS, o37 hS, o38 hS, o39 hS, o40 hS, o41 hS, o42 hS, o43 hS, o44 hS, o45 hS, o46 hS, o47 hS, l2 hS, l3 hS, l4 hS, l5 hS, l7 hS, l8 hS, l10 hS, l12 hS, l14 hS, l15 hS, l16 hS, l18 hS, l19 hS, l20 hS, l21 hS, l22 hS, l23 hS, l24 hS, l25 hS, l26 hS, l27 hS, l28 hS, l29 hS, l30 hS, l31 hS, l32 hS, l33 hS, l34 hS, l35 hS, l36 hS, l37 hS, l38 hS, l39 hS, l40 hS, l41 hS, l42 hS, l43 hS, l44 hS, l45 hS, l46 hS, l47 hS, g640 hS, g641 hS, g642 hS, g643 hS, g644 hS, g645 hS, g128 hS, g129 hS, g130 hS, g131 hS, g384 hS, g385 hS, g256 hS, g576 hS, g192 hS, g193 hS, g707 hS, g708 hS, g709 hS, g710 hS, g712 hS, g713 hS, g714 hS, g715 hS, g716 hS, g720 hS, g721 hS, g722 hS, g723 hS, g724 hS, g725 hS, g726 hS, g728 hS, g729 hS, g730 hS, g731 hS, g732 hS, g733 hS, g734 hS, g735 hS, g736 hS, g737 hS, g738 hS, g740 hS, g751 hS, g752 hS, isRec_0 hS n9 n11 hb0]
  obtain ⟨k, rfl, hk⟩ := nI_idx (by omega) hb0
  obtain ⟨a, ea, hr⟩ := hrec.1 k hk
  have hkd := hr.kind
  rcases hr.2.2.2.2.2.2.2 with q | q
  · by_cases c : zA z 24 k = 0
    · obtain ⟨d1, d2, d3, d4, d5, d6, ⟨o, d7, d7', d7''⟩, d8, d9⟩ := id q
      have c25 : zA z 25 k = 0 := by
        rcases d9 with u | u
        · exact u.2
        · rw [c] at u; exact absurd u.1 (by decide)
      obtain ⟨b, hb, eb⟩ := hr.2.2.2.2.2.2.1
      obtain ⟨b4, e4, pb⟩ := hbk.1 b hb
      obtain ⟨⟨d, sd, sd1, sd2⟩, sd3, -⟩ := id hsc
      have hroom := hgr.room hk n11 c
      have hab : a ≠ b4 := fun e => by
        have u := pb.2.2.1
        rw [← e, d2] at u
        exact absurd u (by decide)
      have hdiv : o / d ≤ o := Nat.div_le_self _ _
      refine ⟨nI (o / d), grZ1 z a ng b4 (o / d) (o - o / d), grZ2 (grZ1 z a ng b4 (o / d) (o - o / d)) k ng (o / d) (o - o / d), ?_, of_eq_true (o17 hS.sF.sF.sR.sF.sF.sF), ?_, ?_⟩
      · exact grindC_e hS n7 n8 n10 n11 m2 hk (by omega) ea hr.1 hr.2.1 d2 (d5.trans c) (d3.trans d7) (by omega) (hr.2.2.2.2.1.trans eb) hb e4 pb.2.1 pb.2.2.1 hab (sd3.trans sd) sd1 sd2
      · refine grindM_e (nr := nr) hS.sF.sF.sR.sF.sF.sF ?_ n11 ?_ hk (by omega) d1 c d7 (by omega) ?_ sd1 sd2
        · simp only [grZ1, eF_zn, eF_zK, eF_zL, eF_s, eF_n, eF_zG, eF_zA, eF_zJ, eF_zR, eG_zn, eG_zK, eG_zL, eG_zF, eG_s, eG_n, eG_zA, eG_zJ, eG_zR, eA_zn, eA_zK, eA_zL, eA_zF, eA_zG, eA_s, eA_n, eA_zJ, eA_zR, eJ_zn, eJ_zK, eJ_zL, eJ_zF, eJ_zG, eJ_zA, eJ_s, eJ_n, eJ_zR, eR_zn, eR_zK, eR_zL, eR_zF, eR_zG, eR_zA, eR_zJ, eR_s, eR_n, ne_eq, not_false_eq_true, not_true_eq_false, reduceCtorEq, Nat.reduceEqDiff]; exact n9
        · simp only [grZ1, eF_zn, eF_zK, eF_zL, eF_s, eF_n, eF_zG, eF_zA, eF_zJ, eF_zR, eG_zn, eG_zK, eG_zL, eG_zF, eG_s, eG_n, eG_zA, eG_zJ, eG_zR, eA_zn, eA_zK, eA_zL, eA_zF, eA_zG, eA_s, eA_n, eA_zJ, eA_zR, eJ_zn, eJ_zK, eJ_zL, eJ_zF, eJ_zG, eJ_zA, eJ_s, eJ_n, eJ_zR, eR_zn, eR_zK, eR_zL, eR_zF, eR_zG, eR_zA, eR_zJ, eR_s, eR_n, ne_eq, not_false_eq_true, not_true_eq_false, reduceCtorEq, Nat.reduceEqDiff]; exact m1
        · simp only [grZ1, eF_zn, eF_zK, eF_zL, eF_s, eF_n, eF_zG, eF_zA, eF_zJ, eF_zR, eG_zn, eG_zK, eG_zL, eG_zF, eG_s, eG_n, eG_zA, eG_zJ, eG_zR, eA_zn, eA_zK, eA_zL, eA_zF, eA_zG, eA_s, eA_n, eA_zJ, eA_zR, eJ_zn, eJ_zK, eJ_zL, eJ_zF, eJ_zG, eJ_zA, eJ_s, eJ_n, eJ_zR, eR_zn, eR_zK, eR_zL, eR_zF, eR_zG, eR_zA, eR_zJ, eR_s, eR_n, ne_eq, not_false_eq_true, not_true_eq_false, reduceCtorEq, Nat.reduceEqDiff]; exact sd
      · exact grind_keep hS hsc hst hn hhv hrec hbk hgr hgf hmk htx htn hk ea q hb eb e4 c c25 (Nat.le_trans (Nat.sub_le _ _) d7'')
    · have c' : ¬ zF z 326 a = 0 := by rw [q.2.2.2.2.1]; exact c
      refine ⟨-3, z, z, ?_, of_eq_true (o17 hS), ?_, hI⟩
      · simp only [fX11_grind, gdT, brTr, brFa, br_00, br_10, bd_e, bo_s, bp_s, cs_s, cs_n, lf_s, o0 hS, o1 hS, o2 hS, o3 hS, o4 hS, o5 hS, o6 hS, o7 hS, o8 hS, o9 hS, o10 hS, o11 hS, o12 hS, o13 hS, o14 hS, o15 hS, o16 hS, o17 hS, o18 hS, o19 hS, o20 hS, o21 hS, o22 hS, o23 hS, o24 hS, o25 hS, o26 hS, o27 hS, o28 hS, o29 hS, o30 hS, o31 hS, o32 hS, o33 hS, o34 hS, o35 hS, o36 hS, o37 hS, o38 hS, o39 hS, o40 hS, o41 hS, o42 hS, o43 hS, o44 hS, o45 hS, o46 hS, o47 hS, l2 hS, l3 hS, l4 hS, l5 hS, l7 hS, l8 hS, l10 hS, l12 hS, l14 hS, l15 hS, l16 hS, l18 hS, l19 hS, l20 hS, l21 hS, l22 hS, l23 hS, l24 hS, l25 hS, l26 hS, l27 hS, l28 hS, l29 hS, l30 hS, l31 hS, l32 hS, l33 hS, l34 hS, l35 hS, l36 hS, l37 hS, l38 hS, l39 hS, l40 hS, l41 hS, l42 hS, l43 hS, l44 hS, l45 hS, l46 hS, l47 hS, g640 hS, g641 hS, g642 hS, g643 hS, g644 hS, g645 hS, g128 hS, g129 hS, g130 hS, g131 hS, g384 hS, g385 hS, g256 hS, g576 hS, g192 hS, g193 hS, g707 hS, g708 hS, g709 hS, g710 hS, g712 hS, g713 hS, g714 hS, g715 hS, g716 hS, g720 hS, g721 hS, g722 hS, g723 hS, g724 hS, g725 hS, g726 hS, g728 hS, g729 hS, g730 hS, g731 hS, g732 hS, g733 hS, g734 hS, g735 hS, g736 hS, g737 hS, g738 hS, g740 hS, g751 hS, g752 hS, entry_1 hS n10 n11 hk, ea, hkd, br_y q.2.1, br_n c']
      · simp only [fX12_grind, gdT, brTr, brFa, br_00, br_10, bd_e, bo_s, bp_s, cs_s, cs_n, lf_s, o0 hS, o1 hS, o2 hS, o3 hS, o4 hS, o5 hS, o6 hS, o7 hS, o8 hS, o9 hS, o10 hS, o11 hS, o12 hS, o13 hS, o14 hS, o15 hS, o16 hS, o17 hS, o18 hS, o19 hS, o20 hS, o21 hS, o22 hS, o23 hS, o24 hS, o25 hS, o26 hS, o27 hS, o28 hS, o29 hS, o30 hS, o31 hS, o32 hS, o33 hS, o34 hS, o35 hS, o36 hS, o37 hS, o38 hS, o39 hS, o40 hS, o41 hS, o42 hS, o43 hS, o44 hS, o45 hS, o46 hS, o47 hS, l2 hS, l3 hS, l4 hS, l5 hS, l7 hS, l8 hS, l10 hS, l12 hS, l14 hS, l15 hS, l16 hS, l18 hS, l19 hS, l20 hS, l21 hS, l22 hS, l23 hS, l24 hS, l25 hS, l26 hS, l27 hS, l28 hS, l29 hS, l30 hS, l31 hS, l32 hS, l33 hS, l34 hS, l35 hS, l36 hS, l37 hS, l38 hS, l39 hS, l40 hS, l41 hS, l42 hS, l43 hS, l44 hS, l45 hS, l46 hS, l47 hS, g640 hS, g641 hS, g642 hS, g643 hS, g644 hS, g645 hS, g128 hS, g129 hS, g130 hS, g131 hS, g384 hS, g385 hS, g256 hS, g576 hS, g192 hS, g193 hS, g707 hS, g708 hS, g709 hS, g710 hS, g712 hS, g713 hS, g714 hS, g715 hS, g716 hS, g720 hS, g721 hS, g722 hS, g723 hS, g724 hS, g725 hS, g726 hS, g728 hS, g729 hS, g730 hS, g731 hS, g732 hS, g733 hS, g734 hS, g735 hS, g736 hS, g737 hS, g738 hS, g740 hS, g751 hS, g752 hS, isRec_1 hS n9 n11 hk, inb (show k < 200 by omega) (by decide), nI_clamp (show k < 2 ^ 31 by omega), br_y q.1, br_n c]
  · have no := lot_no q
    refine ⟨-5, z, z, ?_, of_eq_true (o17 hS), ?_, hI⟩
    · simp only [fX11_grind, gdT, brTr, brFa, br_00, br_10, bd_e, bo_s, bp_s, cs_s, cs_n, lf_s, o0 hS, o1 hS, o2 hS, o3 hS, o4 hS, o5 hS, o6 hS, o7 hS, o8 hS, o9 hS, o10 hS, o11 hS, o12 hS, o13 hS, o14 hS, o15 hS, o16 hS, o17 hS, o18 hS, o19 hS, o20 hS, o21 hS, o22 hS, o23 hS, o24 hS, o25 hS, o26 hS, o27 hS, o28 hS, o29 hS, o30 hS, o31 hS, o32 hS, o33 hS, o34 hS, o35 hS, o36 hS, o37 hS, o38 hS, o39 hS, o40 hS, o41 hS, o42 hS, o43 hS, o44 hS, o45 hS, o46 hS, o47 hS, l2 hS, l3 hS, l4 hS, l5 hS, l7 hS, l8 hS, l10 hS, l12 hS, l14 hS, l15 hS, l16 hS, l18 hS, l19 hS, l20 hS, l21 hS, l22 hS, l23 hS, l24 hS, l25 hS, l26 hS, l27 hS, l28 hS, l29 hS, l30 hS, l31 hS, l32 hS, l33 hS, l34 hS, l35 hS, l36 hS, l37 hS, l38 hS, l39 hS, l40 hS, l41 hS, l42 hS, l43 hS, l44 hS, l45 hS, l46 hS, l47 hS, g640 hS, g641 hS, g642 hS, g643 hS, g644 hS, g645 hS, g128 hS, g129 hS, g130 hS, g131 hS, g384 hS, g385 hS, g256 hS, g576 hS, g192 hS, g193 hS, g707 hS, g708 hS, g709 hS, g710 hS, g712 hS, g713 hS, g714 hS, g715 hS, g716 hS, g720 hS, g721 hS, g722 hS, g723 hS, g724 hS, g725 hS, g726 hS, g728 hS, g729 hS, g730 hS, g731 hS, g732 hS, g733 hS, g734 hS, g735 hS, g736 hS, g737 hS, g738 hS, g740 hS, g751 hS, g752 hS, entry_1 hS n10 n11 hk, ea, hkd, br_n no.2]
    · simp only [fX12_grind, gdT, brTr, brFa, br_00, br_10, bd_e, bo_s, bp_s, cs_s, cs_n, lf_s, o0 hS, o1 hS, o2 hS, o3 hS, o4 hS, o5 hS, o6 hS, o7 hS, o8 hS, o9 hS, o10 hS, o11 hS, o12 hS, o13 hS, o14 hS, o15 hS, o16 hS, o17 hS, o18 hS, o19 hS, o20 hS, o21 hS, o22 hS, o23 hS, o24 hS, o25 hS, o26 hS, o27 hS, o28 hS, o29 hS, o30 hS, o31 hS, o32 hS, o33 hS, o34 hS, o35 hS, o36 hS, o37 hS, o38 hS, o39 hS, o40 hS, o41 hS, o42 hS, o43 hS, o44 hS, o45 hS, o46 hS, o47 hS, l2 hS, l3 hS, l4 hS, l5 hS, l7 hS, l8 hS, l10 hS, l12 hS, l14 hS, l15 hS, l16 hS, l18 hS, l19 hS, l20 hS, l21 hS, l22 hS, l23 hS, l24 hS, l25 hS, l26 hS, l27 hS, l28 hS, l29 hS, l30 hS, l31 hS, l32 hS, l33 hS, l34 hS, l35 hS, l36 hS, l37 hS, l38 hS, l39 hS, l40 hS, l41 hS, l42 hS, l43 hS, l44 hS, l45 hS, l46 hS, l47 hS, g640 hS, g641 hS, g642 hS, g643 hS, g644 hS, g645 hS, g128 hS, g129 hS, g130 hS, g131 hS, g384 hS, g385 hS, g256 hS, g576 hS, g192 hS, g193 hS, g707 hS, g708 hS, g709 hS, g710 hS, g712 hS, g713 hS, g714 hS, g715 hS, g716 hS, g720 hS, g721 hS, g722 hS, g723 hS, g724 hS, g725 hS, g726 hS, g728 hS, g729 hS, g730 hS, g731 hS, g732 hS, g733 hS, g734 hS, g735 hS, g736 hS, g737 hS, g738 hS, g740 hS, g751 hS, g752 hS, isRec_1 hS n9 n11 hk, inb (show k < 200 by omega) (by decide), nI_clamp (show k < 2 ^ 31 by omega), br_n no.1]
