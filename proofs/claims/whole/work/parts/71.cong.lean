-- CELLS THAT STAY, and what follows
def Sm (z z' : Hp) (a : Nat) : Prop := zK z' a = zK z a ∧ (∀ f, zF z' f a = zF z f a) ∧ (∀ f, zG z' f a = zG z f a)
theorem Sm.refl (z : Hp) (a : Nat) : Sm z z a := ⟨rfl, fun _ => rfl, fun _ => rfl⟩
theorem Sm.sF {z y : Hp} {a f c : Nat} {v : Int32} (h : Sm z y a) (hc : a ≠ c) : Sm z (zsF y f c v) a := by
  refine ⟨h.1, fun g => ?_, h.2.2⟩
  by_cases e : g = f
  · subst e; rw [eF_s, va_up_ne _ _ hc]; exact h.2.1 g
  · rw [eF_n _ _ _ _ e]; exact h.2.1 g
theorem Sm.sG {z y : Hp} {a f c : Nat} {v : Option Nat} (h : Sm z y a) (hc : a ≠ c) : Sm z (zsG y f c v) a := by
  refine ⟨h.1, h.2.1, fun g => ?_⟩
  by_cases e : g = f
  · subst e; rw [eG_s, va_up_ne _ _ hc]; exact h.2.2 g
  · rw [eG_n _ _ _ _ e]; exact h.2.2 g
theorem Sm.sA {z y : Hp} {a f c : Nat} {v : Int32} (h : Sm z y a) : Sm z (zsA y f c v) a := h
theorem Sm.sJ {z y : Hp} {a f c : Nat} {v : Int64} (h : Sm z y a) : Sm z (zsJ y f c v) a := h
theorem Sm.sR {z y : Hp} {a f c : Nat} {v : Option Nat} (h : Sm z y a) : Sm z (zsR y f c v) a := h
theorem Sm.al {z y : Hp} {a k n : Nat} (h : Sm z y a) (hc : a ≠ zn y) : Sm z (zal y k n) a := by
  refine ⟨?_, fun g => ?_, fun g => ?_⟩
  · rw [al_K, va_up_ne _ _ hc]; exact h.1
  · rw [al_F, va_up_ne _ _ hc]; exact h.2.1 g
  · rw [al_G, va_up_ne _ _ hc]; exact h.2.2 g
theorem bakOf.cg {z z' : Hp} {nr j a : Nat} (h : bakOf z nr j a) (hn : zn z ≤ zn z') (hs : Sm z z' a) (h18 : zA z' 18 = zA z 18) (h21 : zA z' 21 = zA z 21) (h25 : zA z' 25 = zA z 25) (h35 : zA z' 35 j = zA z 35 j) (h36 : zA z' 36 j = zA z 36 j) (h37 : zA z' 37 j = zA z 37 j) (h38 : zA z' 38 j = zA z 38 j) (hR : zR z' 2 = zR z 2) : bakOf z' nr j a := by
  obtain ⟨k, f, g⟩ := hs
  unfold bakOf at h ⊢
  rw [k, f 0, f 1, f 2, f 3, f 4, f 5, f 6, g 7, h18, h21, h25, h35, h36, h37, h38, hR]
  exact ⟨h.1, by omega, h.2.2⟩
theorem recOf.cg {z z' : Hp} {t t' nb nb' gv gv' i a : Nat} (h : recOf z t nb gv i a) (hn : zn z ≤ zn z') (hs : Sm z z' a) (hA : ∀ b, b ∈ [18, 19, 20, 21, 22, 23, 24, 25, 27, 28, 29, 30, 31] → zA z' b i = zA z b i) (h34 : ∀ k, k < 6 → zA z' 34 (6 * i + k) = zA z 34 (6 * i + k)) (ht : t ≤ t') (hb : nb ≤ nb') (hg : gv ≤ gv') : recOf z' t' nb' gv' i a := by
  obtain ⟨k, f, -⟩ := hs
  have q0 := h34 0 (by decide)
  rw [Nat.add_zero] at q0
  unfold recOf lotOf batchOf searchOf at h ⊢
  rw [k, f 768, f 769, f 770, f 771, f 324, f 325, f 326, f 327, f 68, f 69, f 70, f 71, f 72, f 452, f 453, f 454, f 455, f 456, f 457, hA 18 (by decide), hA 19 (by decide), hA 20 (by decide), hA 21 (by decide), hA 22 (by decide), hA 23 (by decide), hA 24 (by decide), hA 25 (by decide), hA 27 (by decide), hA 28 (by decide), hA 29 (by decide), hA 30 (by decide), hA 31 (by decide), q0, h34 1 (by decide), h34 2 (by decide), h34 3 (by decide), h34 4 (by decide), h34 5 (by decide)]
  obtain ⟨p1, p2, p3, p4, p5, ⟨wi, hi, r1, r2, r3, r4, r5, r6⟩, ⟨b, b1, b2⟩, p8⟩ := h
  refine ⟨p1, by omega, p3, p4, p5, ⟨wi, hi, r1, r2, r3, r4, r5, by omega⟩, ⟨b, by omega, b2⟩, ?_⟩
  rcases p8 with p | p | p
  · exact Or.inl p
  · obtain ⟨c1, c2, c3, c4, c5, c6, c7, c8, c9, f', g', d1, d2, d3⟩ := p
    exact Or.inr (Or.inl ⟨c1, c2, c3, c4, c5, c6, c7, c8, c9, f', g', d1, d2, by omega⟩)
  · exact Or.inr (Or.inr p)
theorem cntR_congr {A A' B B' : Nat → Int32} {s b : Int32} : ∀ {n : Nat}, (∀ k, k < n → A k = A' k ∧ B k = B' k) → cntR A B s b n = cntR A' B' s b n
  | 0, _ => rfl
  | n + 1, h => by
    have h1 := cntR_congr (s := s) (b := b) (n := n) (fun k hk => h k (by omega))
    have h2 := h n (by omega)
    simp only [cntR, h1, h2.1, h2.2]
theorem flS_congr {A A' B B' C C' : Nat → Int32} {b : Int32} : ∀ {n : Nat}, (∀ k, k < n → A k = A' k ∧ B k = B' k ∧ C k = C' k) → flS A B C b n = flS A' B' C' b n
  | 0, _ => rfl
  | n + 1, h => by
    have h1 := flS_congr (b := b) (n := n) (fun k hk => h k (by omega))
    have h2 := h n (by omega)
    simp only [flS, h1, h2.1, h2.2.1, h2.2.2]
theorem mkO_congr {A A' B B' C C' : Nat → Int32} {b : Int32} : ∀ {n : Nat}, (∀ k, k < n → A k = A' k ∧ B k = B' k ∧ C k = C' k) → mkO A B C b n = mkO A' B' C' b n
  | 0, _ => rfl
  | n + 1, h => by
    have h1 := mkO_congr (b := b) (n := n) (fun k hk => h k (by omega))
    have h2 := h n (by omega)
    simp only [mkO, h1, h2.1, h2.2.1, h2.2.2]
theorem mkW_congr {A A' B B' C C' D D' : Nat → Int32} {b : Int32} : ∀ {n : Nat}, (∀ k, k < n → A k = A' k ∧ B k = B' k ∧ C k = C' k ∧ D k = D' k) → mkW A B C D b n = mkW A' B' C' D' b n
  | 0, _ => rfl
  | n + 1, h => by
    have h1 := mkW_congr (b := b) (n := n) (fun k hk => h k (by omega))
    have h2 := h n (by omega)
    simp only [mkW, h1, h2.1, h2.2.1, h2.2.2.1, h2.2.2.2]
theorem usedR_congr {A A' B B' C C' : Nat → Int32} : ∀ {n : Nat}, (∀ k, k < n → A k = A' k ∧ B k = B' k ∧ C k = C' k) → usedR A B C n = usedR A' B' C' n
  | 0, _ => rfl
  | n + 1, h => by
    have h1 := usedR_congr (n := n) (fun k hk => h k (by omega))
    have h2 := h n (by omega)
    simp only [usedR, h1, h2.1, h2.2.1, h2.2.2]
theorem cntR_0 {A B : Nat → Int32} {s b : Int32} : ∀ {n : Nat}, (∀ k, k < n → B k ≠ b) → cntR A B s b n = 0
  | 0, _ => rfl
  | n + 1, h => by
    have h1 := cntR_0 (A := A) (s := s) (n := n) (fun k hk => h k (by omega))
    simp only [cntR, h1, if_neg (fun q : A n = s ∧ B n = b => h n (by omega) q.2), Int32.add_zero]
theorem flS_0 {A B C : Nat → Int32} {b : Int32} : ∀ {n : Nat}, (∀ k, k < n → B k ≠ b) → flS A B C b n = 0
  | 0, _ => rfl
  | n + 1, h => by
    have h1 := flS_0 (A := A) (C := C) (n := n) (fun k hk => h k (by omega))
    simp only [flS, h1, if_neg (fun q : A n = 1 ∧ B n = b => h n (by omega) q.2), Int32.add_zero]
theorem I_rec.nbUp {z : Hp} {t nb nb' nr gv : Nat} (h : I_rec z t nb nr gv) (hb : nb ≤ nb') : I_rec z t nb' nr gv := by
  obtain ⟨h1, h2, h3⟩ := h
  refine ⟨fun i hi => ?_, h2, h3⟩
  obtain ⟨a, e, q⟩ := h1 i hi
  exact ⟨a, e, q.cg (Nat.le_refl _) (Sm.refl _ _) (fun _ _ => rfl) (fun _ _ => rfl) (Nat.le_refl _) hb (Nat.le_refl _)⟩
theorem I_rec.b {z : Hp} {t nb nr gv i : Nat} (h : I_rec z t nb nr gv) (hi : i < nr) : ∃ b, b < nb ∧ zA z 21 i = nI b := by
  obtain ⟨a, e, q1, q2, q3, q4, q5, q6, q7, q8⟩ := h.1 i hi
  exact q7
