-- ROWS FOR PLAIN EVALUATION
theorem gdT {α : Type} {k : Option α} : gd True k = k := gd_t trivial
theorem brTr {α : Type} {A B : Option α} : br True A B = A := br_y trivial
theorem brFa {α : Type} {A B : Option α} : br False A B = B := br_n (fun h => h)
theorem br_00 {α : Type} {A B : Option α} : br ((0 : Int32) = 0) A B = A := br_y rfl
theorem br_10 {α : Type} {A B : Option α} : br ((1 : Int32) = 0) A B = B := br_n (by decide)
theorem bd_e {α β : Type} (x : α) (k : α → β) : bd x k = k x := rfl
theorem bo_s {α β : Type} (a : α) (k : α → Option β) : bo (some a) k = k a := rfl
theorem bp_s {α β γ : Type} (a : α) (b : β) (k : α → β → Option γ) : bp (some (a, b)) k = k a b := rfl
theorem cs_s {α : Type} (a : Nat) (A : Option α) (B : Nat → Option α) : cs (some a) A B = B a := rfl
theorem cs_n {α : Type} (A : Option α) (B : Nat → Option α) : cs none A B = A := rfl
theorem lf_s {α β : Type} (a : α) : (lf (some a) : Option (β ⊕ α)) = some (.inr a) := rfl
theorem u2_s {α : Type} (f : Nat → Nat → α) (a b : Nat) (v : α) : u2 f a b v a = va_up (f a) b v := by funext y; simp [u2, va_up]
theorem u2_n {α : Type} (f : Nat → Nat → α) {a b c : Nat} (v : α) (h : c ≠ a) : u2 f a b v c = f c := by funext y; simp [u2, h]
theorem eF_zn (z : Hp) (f a : Nat) (v : Int32) : zn (zsF z f a v) = zn z := Eq.trans rfl rfl
theorem eF_zK (z : Hp) (f a : Nat) (v : Int32) : zK (zsF z f a v) = zK z := Eq.trans rfl rfl
theorem eF_zL (z : Hp) (f a : Nat) (v : Int32) : zL (zsF z f a v) = zL z := Eq.trans rfl rfl
theorem eF_s (z : Hp) (f a : Nat) (v : Int32) : zF (zsF z f a v) f = va_up (zF z f) a v := u2_s _ _ _ _
theorem eF_n (z : Hp) (f a : Nat) (v : Int32) {g : Nat} (h : g ≠ f) : zF (zsF z f a v) g = zF z g := u2_n _ _ h
theorem eF_zG (z : Hp) (f a : Nat) (v : Int32) : zG (zsF z f a v) = zG z := Eq.trans rfl rfl
theorem eF_zA (z : Hp) (f a : Nat) (v : Int32) : zA (zsF z f a v) = zA z := Eq.trans rfl rfl
theorem eF_zJ (z : Hp) (f a : Nat) (v : Int32) : zJ (zsF z f a v) = zJ z := Eq.trans rfl rfl
theorem eF_zR (z : Hp) (f a : Nat) (v : Int32) : zR (zsF z f a v) = zR z := Eq.trans rfl rfl
theorem eG_zn (z : Hp) (f a : Nat) (v : Option Nat) : zn (zsG z f a v) = zn z := Eq.trans rfl rfl
theorem eG_zK (z : Hp) (f a : Nat) (v : Option Nat) : zK (zsG z f a v) = zK z := Eq.trans rfl rfl
theorem eG_zL (z : Hp) (f a : Nat) (v : Option Nat) : zL (zsG z f a v) = zL z := Eq.trans rfl rfl
theorem eG_zF (z : Hp) (f a : Nat) (v : Option Nat) : zF (zsG z f a v) = zF z := Eq.trans rfl rfl
theorem eG_s (z : Hp) (f a : Nat) (v : Option Nat) : zG (zsG z f a v) f = va_up (zG z f) a v := u2_s _ _ _ _
theorem eG_n (z : Hp) (f a : Nat) (v : Option Nat) {g : Nat} (h : g ≠ f) : zG (zsG z f a v) g = zG z g := u2_n _ _ h
theorem eG_zA (z : Hp) (f a : Nat) (v : Option Nat) : zA (zsG z f a v) = zA z := Eq.trans rfl rfl
theorem eG_zJ (z : Hp) (f a : Nat) (v : Option Nat) : zJ (zsG z f a v) = zJ z := Eq.trans rfl rfl
theorem eG_zR (z : Hp) (f a : Nat) (v : Option Nat) : zR (zsG z f a v) = zR z := Eq.trans rfl rfl
theorem eA_zn (z : Hp) (f a : Nat) (v : Int32) : zn (zsA z f a v) = zn z := Eq.trans rfl rfl
theorem eA_zK (z : Hp) (f a : Nat) (v : Int32) : zK (zsA z f a v) = zK z := Eq.trans rfl rfl
theorem eA_zL (z : Hp) (f a : Nat) (v : Int32) : zL (zsA z f a v) = zL z := Eq.trans rfl rfl
theorem eA_zF (z : Hp) (f a : Nat) (v : Int32) : zF (zsA z f a v) = zF z := Eq.trans rfl rfl
theorem eA_zG (z : Hp) (f a : Nat) (v : Int32) : zG (zsA z f a v) = zG z := Eq.trans rfl rfl
theorem eA_s (z : Hp) (f a : Nat) (v : Int32) : zA (zsA z f a v) f = va_up (zA z f) a v := u2_s _ _ _ _
theorem eA_n (z : Hp) (f a : Nat) (v : Int32) {g : Nat} (h : g ≠ f) : zA (zsA z f a v) g = zA z g := u2_n _ _ h
theorem eA_zJ (z : Hp) (f a : Nat) (v : Int32) : zJ (zsA z f a v) = zJ z := Eq.trans rfl rfl
theorem eA_zR (z : Hp) (f a : Nat) (v : Int32) : zR (zsA z f a v) = zR z := Eq.trans rfl rfl
theorem eJ_zn (z : Hp) (f a : Nat) (v : Int64) : zn (zsJ z f a v) = zn z := Eq.trans rfl rfl
theorem eJ_zK (z : Hp) (f a : Nat) (v : Int64) : zK (zsJ z f a v) = zK z := Eq.trans rfl rfl
theorem eJ_zL (z : Hp) (f a : Nat) (v : Int64) : zL (zsJ z f a v) = zL z := Eq.trans rfl rfl
theorem eJ_zF (z : Hp) (f a : Nat) (v : Int64) : zF (zsJ z f a v) = zF z := Eq.trans rfl rfl
theorem eJ_zG (z : Hp) (f a : Nat) (v : Int64) : zG (zsJ z f a v) = zG z := Eq.trans rfl rfl
theorem eJ_zA (z : Hp) (f a : Nat) (v : Int64) : zA (zsJ z f a v) = zA z := Eq.trans rfl rfl
theorem eJ_s (z : Hp) (f a : Nat) (v : Int64) : zJ (zsJ z f a v) f = va_up (zJ z f) a v := u2_s _ _ _ _
theorem eJ_n (z : Hp) (f a : Nat) (v : Int64) {g : Nat} (h : g ≠ f) : zJ (zsJ z f a v) g = zJ z g := u2_n _ _ h
theorem eJ_zR (z : Hp) (f a : Nat) (v : Int64) : zR (zsJ z f a v) = zR z := Eq.trans rfl rfl
theorem eR_zn (z : Hp) (f a : Nat) (v : Option Nat) : zn (zsR z f a v) = zn z := Eq.trans rfl rfl
theorem eR_zK (z : Hp) (f a : Nat) (v : Option Nat) : zK (zsR z f a v) = zK z := Eq.trans rfl rfl
theorem eR_zL (z : Hp) (f a : Nat) (v : Option Nat) : zL (zsR z f a v) = zL z := Eq.trans rfl rfl
theorem eR_zF (z : Hp) (f a : Nat) (v : Option Nat) : zF (zsR z f a v) = zF z := Eq.trans rfl rfl
theorem eR_zG (z : Hp) (f a : Nat) (v : Option Nat) : zG (zsR z f a v) = zG z := Eq.trans rfl rfl
theorem eR_zA (z : Hp) (f a : Nat) (v : Option Nat) : zA (zsR z f a v) = zA z := Eq.trans rfl rfl
theorem eR_zJ (z : Hp) (f a : Nat) (v : Option Nat) : zJ (zsR z f a v) = zJ z := Eq.trans rfl rfl
theorem eR_s (z : Hp) (f a : Nat) (v : Option Nat) : zR (zsR z f a v) f = va_up (zR z f) a v := u2_s _ _ _ _
theorem eR_n (z : Hp) (f a : Nat) (v : Option Nat) {g : Nat} (h : g ≠ f) : zR (zsR z f a v) g = zR z g := u2_n _ _ h
theorem al_n (z : Hp) (k n : Nat) : zn (zal z k n) = zn z + 1 := Eq.trans rfl rfl
theorem al_K (z : Hp) (k n : Nat) : zK (zal z k n) = va_up (zK z) (zn z) k := Eq.trans rfl rfl
theorem al_L (z : Hp) (k n : Nat) : zL (zal z k n) = va_up (zL z) (zn z) n := Eq.trans rfl rfl
theorem al_F (z : Hp) (k n f : Nat) : zF (zal z k n) f = va_up (zF z f) (zn z) 0 := Eq.trans rfl rfl
theorem al_G (z : Hp) (k n f : Nat) : zG (zal z k n) f = va_up (zG z f) (zn z) none := Eq.trans rfl rfl
theorem al_A (z : Hp) (k n : Nat) {a : Nat} (h : a ≠ zn z) : zA (zal z k n) a = zA z a := by funext i; show (if a = zn z then _ else _) = _; rw [if_neg h]
theorem al_J (z : Hp) (k n : Nat) {a : Nat} (h : a ≠ zn z) : zJ (zal z k n) a = zJ z a := by funext i; show (if a = zn z then _ else _) = _; rw [if_neg h]
theorem al_R (z : Hp) (k n : Nat) {a : Nat} (h : a ≠ zn z) : zR (zal z k n) a = zR z a := by funext i; show (if a = zn z then _ else _) = _; rw [if_neg h]
theorem al_As (z : Hp) (k n : Nat) : zA (zal z k n) (zn z) = fun _ => 0 := by funext i; simp [zA, zal, zn]
theorem al_Js (z : Hp) (k n : Nat) : zJ (zal z k n) (zn z) = fun _ => 0 := by funext i; simp [zJ, zal, zn]
theorem al_Rs (z : Hp) (k n : Nat) : zR (zal z k n) (zn z) = fun _ => none := by funext i; simp [zR, zal, zn]
-- THE SHAPE
def kTab : List Nat := [10, 2, 16, 17, 12, 12, 6, 13, 13, 4, 18, 9, 12, 3, 12, 12, 15, 11, 12, 12, 12, 12, 12, 12, 14, 12, 12, 12, 12, 12, 12, 12, 12, 12, 12, 12, 12, 12, 12, 12, 12, 12, 12, 12, 12, 12, 12, 12]
def lTab : List Nat := [0, 0, 200, 200, 200, 200, 0, 200, 200, 0, 6, 0, 8, 0, 200, 200, 8, 0, 200, 200, 200, 200, 200, 200, 200, 200, 200, 200, 200, 200, 200, 200, 600, 600, 1200, 8, 8, 8, 8, 6, 18, 6, 48, 48, 6, 8, 10, 10]
def gTab : List (Nat × Nat × Nat) := [(640, 0, 1), (641, 0, 6), (642, 0, 9), (643, 0, 11), (644, 0, 13), (645, 0, 16), (128, 1, 2), (129, 1, 3), (130, 1, 4), (131, 1, 5), (384, 6, 7), (385, 6, 8), (256, 9, 10), (576, 11, 12), (192, 13, 14), (193, 13, 15), (707, 17, 18), (708, 17, 19), (709, 17, 20), (710, 17, 21), (712, 17, 22), (713, 17, 23), (714, 17, 24), (715, 17, 25), (716, 17, 26), (720, 17, 27), (721, 17, 28), (722, 17, 29), (723, 17, 30), (724, 17, 31), (725, 17, 32), (726, 17, 33), (728, 17, 34), (729, 17, 35), (730, 17, 36), (731, 17, 37), (732, 17, 38), (733, 17, 39), (734, 17, 40), (735, 17, 41), (736, 17, 42), (737, 17, 43), (738, 17, 44), (740, 17, 45), (751, 17, 46), (752, 17, 47)]
def Sh (z : Hp) : Prop := 48 ≤ zn z ∧ (∀ a, a < 48 → zK z a = kTab.getD a 0) ∧ (∀ a, a < 48 → zL z a = lTab.getD a 0) ∧ ∀ q ∈ gTab, zG z q.1 q.2.1 = some q.2.2
theorem gTab_lt : ∀ q ∈ gTab, q.2.1 < 48 := by decide
theorem Sh.sF {z : Hp} {f a : Nat} {v : Int32} (h : Sh z) : Sh (zsF z f a v) := h
theorem Sh.sA {z : Hp} {f a : Nat} {v : Int32} (h : Sh z) : Sh (zsA z f a v) := h
theorem Sh.sJ {z : Hp} {f a : Nat} {v : Int64} (h : Sh z) : Sh (zsJ z f a v) := h
theorem Sh.sR {z : Hp} {f a : Nat} {v : Option Nat} (h : Sh z) : Sh (zsR z f a v) := h
theorem Sh.sG {z : Hp} {f a : Nat} {v : Option Nat} (h : Sh z) (ha : 48 ≤ a) : Sh (zsG z f a v) := ⟨h.1, h.2.1, h.2.2.1, fun q hq => by rw [zG_sG, if_neg (fun e => by have := gTab_lt q hq; omega)]; exact h.2.2.2 q hq⟩
theorem Sh.al {z : Hp} {k n : Nat} (h : Sh z) : Sh (zal z k n) := ⟨Nat.le_succ_of_le h.1, fun a ha => by rw [al_K, va_up_ne _ _ (by have := h.1; omega)]; exact h.2.1 a ha, fun a ha => by rw [al_L, va_up_ne _ _ (by have := h.1; omega)]; exact h.2.2.1 a ha, fun q hq => by rw [al_G, va_up_ne _ _ (by have := h.1; have := gTab_lt q hq; omega)]; exact h.2.2.2 q hq⟩
theorem o0 {z : Hp} (h : Sh z) : (0 < zn z ∧ zK z 0 = 10) = True := eq_true ⟨Nat.lt_of_lt_of_le (by decide) h.1, h.2.1 0 (by decide)⟩
theorem o1 {z : Hp} (h : Sh z) : (1 < zn z ∧ zK z 1 = 2) = True := eq_true ⟨Nat.lt_of_lt_of_le (by decide) h.1, h.2.1 1 (by decide)⟩
theorem o2 {z : Hp} (h : Sh z) : (2 < zn z ∧ zK z 2 = 16) = True := eq_true ⟨Nat.lt_of_lt_of_le (by decide) h.1, h.2.1 2 (by decide)⟩
theorem l2 {z : Hp} (h : Sh z) : zL z 2 = 200 := h.2.2.1 2 (by decide)
theorem o3 {z : Hp} (h : Sh z) : (3 < zn z ∧ zK z 3 = 17) = True := eq_true ⟨Nat.lt_of_lt_of_le (by decide) h.1, h.2.1 3 (by decide)⟩
theorem l3 {z : Hp} (h : Sh z) : zL z 3 = 200 := h.2.2.1 3 (by decide)
theorem o4 {z : Hp} (h : Sh z) : (4 < zn z ∧ zK z 4 = 12) = True := eq_true ⟨Nat.lt_of_lt_of_le (by decide) h.1, h.2.1 4 (by decide)⟩
theorem l4 {z : Hp} (h : Sh z) : zL z 4 = 200 := h.2.2.1 4 (by decide)
theorem o5 {z : Hp} (h : Sh z) : (5 < zn z ∧ zK z 5 = 12) = True := eq_true ⟨Nat.lt_of_lt_of_le (by decide) h.1, h.2.1 5 (by decide)⟩
theorem l5 {z : Hp} (h : Sh z) : zL z 5 = 200 := h.2.2.1 5 (by decide)
theorem o6 {z : Hp} (h : Sh z) : (6 < zn z ∧ zK z 6 = 6) = True := eq_true ⟨Nat.lt_of_lt_of_le (by decide) h.1, h.2.1 6 (by decide)⟩
theorem o7 {z : Hp} (h : Sh z) : (7 < zn z ∧ zK z 7 = 13) = True := eq_true ⟨Nat.lt_of_lt_of_le (by decide) h.1, h.2.1 7 (by decide)⟩
theorem l7 {z : Hp} (h : Sh z) : zL z 7 = 200 := h.2.2.1 7 (by decide)
theorem o8 {z : Hp} (h : Sh z) : (8 < zn z ∧ zK z 8 = 13) = True := eq_true ⟨Nat.lt_of_lt_of_le (by decide) h.1, h.2.1 8 (by decide)⟩
theorem l8 {z : Hp} (h : Sh z) : zL z 8 = 200 := h.2.2.1 8 (by decide)
theorem o9 {z : Hp} (h : Sh z) : (9 < zn z ∧ zK z 9 = 4) = True := eq_true ⟨Nat.lt_of_lt_of_le (by decide) h.1, h.2.1 9 (by decide)⟩
theorem o10 {z : Hp} (h : Sh z) : (10 < zn z ∧ zK z 10 = 18) = True := eq_true ⟨Nat.lt_of_lt_of_le (by decide) h.1, h.2.1 10 (by decide)⟩
theorem l10 {z : Hp} (h : Sh z) : zL z 10 = 6 := h.2.2.1 10 (by decide)
theorem o11 {z : Hp} (h : Sh z) : (11 < zn z ∧ zK z 11 = 9) = True := eq_true ⟨Nat.lt_of_lt_of_le (by decide) h.1, h.2.1 11 (by decide)⟩
theorem o12 {z : Hp} (h : Sh z) : (12 < zn z ∧ zK z 12 = 12) = True := eq_true ⟨Nat.lt_of_lt_of_le (by decide) h.1, h.2.1 12 (by decide)⟩
theorem l12 {z : Hp} (h : Sh z) : zL z 12 = 8 := h.2.2.1 12 (by decide)
theorem o13 {z : Hp} (h : Sh z) : (13 < zn z ∧ zK z 13 = 3) = True := eq_true ⟨Nat.lt_of_lt_of_le (by decide) h.1, h.2.1 13 (by decide)⟩
theorem o14 {z : Hp} (h : Sh z) : (14 < zn z ∧ zK z 14 = 12) = True := eq_true ⟨Nat.lt_of_lt_of_le (by decide) h.1, h.2.1 14 (by decide)⟩
theorem l14 {z : Hp} (h : Sh z) : zL z 14 = 200 := h.2.2.1 14 (by decide)
theorem o15 {z : Hp} (h : Sh z) : (15 < zn z ∧ zK z 15 = 12) = True := eq_true ⟨Nat.lt_of_lt_of_le (by decide) h.1, h.2.1 15 (by decide)⟩
theorem l15 {z : Hp} (h : Sh z) : zL z 15 = 200 := h.2.2.1 15 (by decide)
theorem o16 {z : Hp} (h : Sh z) : (16 < zn z ∧ zK z 16 = 15) = True := eq_true ⟨Nat.lt_of_lt_of_le (by decide) h.1, h.2.1 16 (by decide)⟩
theorem l16 {z : Hp} (h : Sh z) : zL z 16 = 8 := h.2.2.1 16 (by decide)
theorem o17 {z : Hp} (h : Sh z) : (17 < zn z ∧ zK z 17 = 11) = True := eq_true ⟨Nat.lt_of_lt_of_le (by decide) h.1, h.2.1 17 (by decide)⟩
theorem o18 {z : Hp} (h : Sh z) : (18 < zn z ∧ zK z 18 = 12) = True := eq_true ⟨Nat.lt_of_lt_of_le (by decide) h.1, h.2.1 18 (by decide)⟩
theorem l18 {z : Hp} (h : Sh z) : zL z 18 = 200 := h.2.2.1 18 (by decide)
theorem o19 {z : Hp} (h : Sh z) : (19 < zn z ∧ zK z 19 = 12) = True := eq_true ⟨Nat.lt_of_lt_of_le (by decide) h.1, h.2.1 19 (by decide)⟩
theorem l19 {z : Hp} (h : Sh z) : zL z 19 = 200 := h.2.2.1 19 (by decide)
theorem o20 {z : Hp} (h : Sh z) : (20 < zn z ∧ zK z 20 = 12) = True := eq_true ⟨Nat.lt_of_lt_of_le (by decide) h.1, h.2.1 20 (by decide)⟩
theorem l20 {z : Hp} (h : Sh z) : zL z 20 = 200 := h.2.2.1 20 (by decide)
theorem o21 {z : Hp} (h : Sh z) : (21 < zn z ∧ zK z 21 = 12) = True := eq_true ⟨Nat.lt_of_lt_of_le (by decide) h.1, h.2.1 21 (by decide)⟩
theorem l21 {z : Hp} (h : Sh z) : zL z 21 = 200 := h.2.2.1 21 (by decide)
theorem o22 {z : Hp} (h : Sh z) : (22 < zn z ∧ zK z 22 = 12) = True := eq_true ⟨Nat.lt_of_lt_of_le (by decide) h.1, h.2.1 22 (by decide)⟩
theorem l22 {z : Hp} (h : Sh z) : zL z 22 = 200 := h.2.2.1 22 (by decide)
theorem o23 {z : Hp} (h : Sh z) : (23 < zn z ∧ zK z 23 = 12) = True := eq_true ⟨Nat.lt_of_lt_of_le (by decide) h.1, h.2.1 23 (by decide)⟩
theorem l23 {z : Hp} (h : Sh z) : zL z 23 = 200 := h.2.2.1 23 (by decide)
theorem o24 {z : Hp} (h : Sh z) : (24 < zn z ∧ zK z 24 = 14) = True := eq_true ⟨Nat.lt_of_lt_of_le (by decide) h.1, h.2.1 24 (by decide)⟩
theorem l24 {z : Hp} (h : Sh z) : zL z 24 = 200 := h.2.2.1 24 (by decide)
theorem o25 {z : Hp} (h : Sh z) : (25 < zn z ∧ zK z 25 = 12) = True := eq_true ⟨Nat.lt_of_lt_of_le (by decide) h.1, h.2.1 25 (by decide)⟩
theorem l25 {z : Hp} (h : Sh z) : zL z 25 = 200 := h.2.2.1 25 (by decide)
theorem o26 {z : Hp} (h : Sh z) : (26 < zn z ∧ zK z 26 = 12) = True := eq_true ⟨Nat.lt_of_lt_of_le (by decide) h.1, h.2.1 26 (by decide)⟩
theorem l26 {z : Hp} (h : Sh z) : zL z 26 = 200 := h.2.2.1 26 (by decide)
theorem o27 {z : Hp} (h : Sh z) : (27 < zn z ∧ zK z 27 = 12) = True := eq_true ⟨Nat.lt_of_lt_of_le (by decide) h.1, h.2.1 27 (by decide)⟩
theorem l27 {z : Hp} (h : Sh z) : zL z 27 = 200 := h.2.2.1 27 (by decide)
theorem o28 {z : Hp} (h : Sh z) : (28 < zn z ∧ zK z 28 = 12) = True := eq_true ⟨Nat.lt_of_lt_of_le (by decide) h.1, h.2.1 28 (by decide)⟩
theorem l28 {z : Hp} (h : Sh z) : zL z 28 = 200 := h.2.2.1 28 (by decide)
theorem o29 {z : Hp} (h : Sh z) : (29 < zn z ∧ zK z 29 = 12) = True := eq_true ⟨Nat.lt_of_lt_of_le (by decide) h.1, h.2.1 29 (by decide)⟩
theorem l29 {z : Hp} (h : Sh z) : zL z 29 = 200 := h.2.2.1 29 (by decide)
theorem o30 {z : Hp} (h : Sh z) : (30 < zn z ∧ zK z 30 = 12) = True := eq_true ⟨Nat.lt_of_lt_of_le (by decide) h.1, h.2.1 30 (by decide)⟩
theorem l30 {z : Hp} (h : Sh z) : zL z 30 = 200 := h.2.2.1 30 (by decide)
theorem o31 {z : Hp} (h : Sh z) : (31 < zn z ∧ zK z 31 = 12) = True := eq_true ⟨Nat.lt_of_lt_of_le (by decide) h.1, h.2.1 31 (by decide)⟩
theorem l31 {z : Hp} (h : Sh z) : zL z 31 = 200 := h.2.2.1 31 (by decide)
theorem o32 {z : Hp} (h : Sh z) : (32 < zn z ∧ zK z 32 = 12) = True := eq_true ⟨Nat.lt_of_lt_of_le (by decide) h.1, h.2.1 32 (by decide)⟩
theorem l32 {z : Hp} (h : Sh z) : zL z 32 = 600 := h.2.2.1 32 (by decide)
theorem o33 {z : Hp} (h : Sh z) : (33 < zn z ∧ zK z 33 = 12) = True := eq_true ⟨Nat.lt_of_lt_of_le (by decide) h.1, h.2.1 33 (by decide)⟩
theorem l33 {z : Hp} (h : Sh z) : zL z 33 = 600 := h.2.2.1 33 (by decide)
theorem o34 {z : Hp} (h : Sh z) : (34 < zn z ∧ zK z 34 = 12) = True := eq_true ⟨Nat.lt_of_lt_of_le (by decide) h.1, h.2.1 34 (by decide)⟩
theorem l34 {z : Hp} (h : Sh z) : zL z 34 = 1200 := h.2.2.1 34 (by decide)
theorem o35 {z : Hp} (h : Sh z) : (35 < zn z ∧ zK z 35 = 12) = True := eq_true ⟨Nat.lt_of_lt_of_le (by decide) h.1, h.2.1 35 (by decide)⟩
theorem l35 {z : Hp} (h : Sh z) : zL z 35 = 8 := h.2.2.1 35 (by decide)
theorem o36 {z : Hp} (h : Sh z) : (36 < zn z ∧ zK z 36 = 12) = True := eq_true ⟨Nat.lt_of_lt_of_le (by decide) h.1, h.2.1 36 (by decide)⟩
theorem l36 {z : Hp} (h : Sh z) : zL z 36 = 8 := h.2.2.1 36 (by decide)
theorem o37 {z : Hp} (h : Sh z) : (37 < zn z ∧ zK z 37 = 12) = True := eq_true ⟨Nat.lt_of_lt_of_le (by decide) h.1, h.2.1 37 (by decide)⟩
theorem l37 {z : Hp} (h : Sh z) : zL z 37 = 8 := h.2.2.1 37 (by decide)
theorem o38 {z : Hp} (h : Sh z) : (38 < zn z ∧ zK z 38 = 12) = True := eq_true ⟨Nat.lt_of_lt_of_le (by decide) h.1, h.2.1 38 (by decide)⟩
theorem l38 {z : Hp} (h : Sh z) : zL z 38 = 8 := h.2.2.1 38 (by decide)
theorem o39 {z : Hp} (h : Sh z) : (39 < zn z ∧ zK z 39 = 12) = True := eq_true ⟨Nat.lt_of_lt_of_le (by decide) h.1, h.2.1 39 (by decide)⟩
theorem l39 {z : Hp} (h : Sh z) : zL z 39 = 6 := h.2.2.1 39 (by decide)
theorem o40 {z : Hp} (h : Sh z) : (40 < zn z ∧ zK z 40 = 12) = True := eq_true ⟨Nat.lt_of_lt_of_le (by decide) h.1, h.2.1 40 (by decide)⟩
theorem l40 {z : Hp} (h : Sh z) : zL z 40 = 18 := h.2.2.1 40 (by decide)
theorem o41 {z : Hp} (h : Sh z) : (41 < zn z ∧ zK z 41 = 12) = True := eq_true ⟨Nat.lt_of_lt_of_le (by decide) h.1, h.2.1 41 (by decide)⟩
theorem l41 {z : Hp} (h : Sh z) : zL z 41 = 6 := h.2.2.1 41 (by decide)
theorem o42 {z : Hp} (h : Sh z) : (42 < zn z ∧ zK z 42 = 12) = True := eq_true ⟨Nat.lt_of_lt_of_le (by decide) h.1, h.2.1 42 (by decide)⟩
theorem l42 {z : Hp} (h : Sh z) : zL z 42 = 48 := h.2.2.1 42 (by decide)
theorem o43 {z : Hp} (h : Sh z) : (43 < zn z ∧ zK z 43 = 12) = True := eq_true ⟨Nat.lt_of_lt_of_le (by decide) h.1, h.2.1 43 (by decide)⟩
theorem l43 {z : Hp} (h : Sh z) : zL z 43 = 48 := h.2.2.1 43 (by decide)
theorem o44 {z : Hp} (h : Sh z) : (44 < zn z ∧ zK z 44 = 12) = True := eq_true ⟨Nat.lt_of_lt_of_le (by decide) h.1, h.2.1 44 (by decide)⟩
theorem l44 {z : Hp} (h : Sh z) : zL z 44 = 6 := h.2.2.1 44 (by decide)
theorem o45 {z : Hp} (h : Sh z) : (45 < zn z ∧ zK z 45 = 12) = True := eq_true ⟨Nat.lt_of_lt_of_le (by decide) h.1, h.2.1 45 (by decide)⟩
theorem l45 {z : Hp} (h : Sh z) : zL z 45 = 8 := h.2.2.1 45 (by decide)
theorem o46 {z : Hp} (h : Sh z) : (46 < zn z ∧ zK z 46 = 12) = True := eq_true ⟨Nat.lt_of_lt_of_le (by decide) h.1, h.2.1 46 (by decide)⟩
theorem l46 {z : Hp} (h : Sh z) : zL z 46 = 10 := h.2.2.1 46 (by decide)
theorem o47 {z : Hp} (h : Sh z) : (47 < zn z ∧ zK z 47 = 12) = True := eq_true ⟨Nat.lt_of_lt_of_le (by decide) h.1, h.2.1 47 (by decide)⟩
theorem l47 {z : Hp} (h : Sh z) : zL z 47 = 10 := h.2.2.1 47 (by decide)
theorem g640 {z : Hp} (h : Sh z) : zG z 640 0 = some 1 := h.2.2.2 (640, 0, 1) (by decide)
theorem g641 {z : Hp} (h : Sh z) : zG z 641 0 = some 6 := h.2.2.2 (641, 0, 6) (by decide)
theorem g642 {z : Hp} (h : Sh z) : zG z 642 0 = some 9 := h.2.2.2 (642, 0, 9) (by decide)
theorem g643 {z : Hp} (h : Sh z) : zG z 643 0 = some 11 := h.2.2.2 (643, 0, 11) (by decide)
theorem g644 {z : Hp} (h : Sh z) : zG z 644 0 = some 13 := h.2.2.2 (644, 0, 13) (by decide)
theorem g645 {z : Hp} (h : Sh z) : zG z 645 0 = some 16 := h.2.2.2 (645, 0, 16) (by decide)
theorem g128 {z : Hp} (h : Sh z) : zG z 128 1 = some 2 := h.2.2.2 (128, 1, 2) (by decide)
theorem g129 {z : Hp} (h : Sh z) : zG z 129 1 = some 3 := h.2.2.2 (129, 1, 3) (by decide)
theorem g130 {z : Hp} (h : Sh z) : zG z 130 1 = some 4 := h.2.2.2 (130, 1, 4) (by decide)
theorem g131 {z : Hp} (h : Sh z) : zG z 131 1 = some 5 := h.2.2.2 (131, 1, 5) (by decide)
theorem g384 {z : Hp} (h : Sh z) : zG z 384 6 = some 7 := h.2.2.2 (384, 6, 7) (by decide)
theorem g385 {z : Hp} (h : Sh z) : zG z 385 6 = some 8 := h.2.2.2 (385, 6, 8) (by decide)
theorem g256 {z : Hp} (h : Sh z) : zG z 256 9 = some 10 := h.2.2.2 (256, 9, 10) (by decide)
theorem g576 {z : Hp} (h : Sh z) : zG z 576 11 = some 12 := h.2.2.2 (576, 11, 12) (by decide)
theorem g192 {z : Hp} (h : Sh z) : zG z 192 13 = some 14 := h.2.2.2 (192, 13, 14) (by decide)
theorem g193 {z : Hp} (h : Sh z) : zG z 193 13 = some 15 := h.2.2.2 (193, 13, 15) (by decide)
theorem g707 {z : Hp} (h : Sh z) : zG z 707 17 = some 18 := h.2.2.2 (707, 17, 18) (by decide)
theorem g708 {z : Hp} (h : Sh z) : zG z 708 17 = some 19 := h.2.2.2 (708, 17, 19) (by decide)
theorem g709 {z : Hp} (h : Sh z) : zG z 709 17 = some 20 := h.2.2.2 (709, 17, 20) (by decide)
theorem g710 {z : Hp} (h : Sh z) : zG z 710 17 = some 21 := h.2.2.2 (710, 17, 21) (by decide)
theorem g712 {z : Hp} (h : Sh z) : zG z 712 17 = some 22 := h.2.2.2 (712, 17, 22) (by decide)
theorem g713 {z : Hp} (h : Sh z) : zG z 713 17 = some 23 := h.2.2.2 (713, 17, 23) (by decide)
theorem g714 {z : Hp} (h : Sh z) : zG z 714 17 = some 24 := h.2.2.2 (714, 17, 24) (by decide)
theorem g715 {z : Hp} (h : Sh z) : zG z 715 17 = some 25 := h.2.2.2 (715, 17, 25) (by decide)
theorem g716 {z : Hp} (h : Sh z) : zG z 716 17 = some 26 := h.2.2.2 (716, 17, 26) (by decide)
theorem g720 {z : Hp} (h : Sh z) : zG z 720 17 = some 27 := h.2.2.2 (720, 17, 27) (by decide)
theorem g721 {z : Hp} (h : Sh z) : zG z 721 17 = some 28 := h.2.2.2 (721, 17, 28) (by decide)
theorem g722 {z : Hp} (h : Sh z) : zG z 722 17 = some 29 := h.2.2.2 (722, 17, 29) (by decide)
theorem g723 {z : Hp} (h : Sh z) : zG z 723 17 = some 30 := h.2.2.2 (723, 17, 30) (by decide)
theorem g724 {z : Hp} (h : Sh z) : zG z 724 17 = some 31 := h.2.2.2 (724, 17, 31) (by decide)
theorem g725 {z : Hp} (h : Sh z) : zG z 725 17 = some 32 := h.2.2.2 (725, 17, 32) (by decide)
theorem g726 {z : Hp} (h : Sh z) : zG z 726 17 = some 33 := h.2.2.2 (726, 17, 33) (by decide)
theorem g728 {z : Hp} (h : Sh z) : zG z 728 17 = some 34 := h.2.2.2 (728, 17, 34) (by decide)
theorem g729 {z : Hp} (h : Sh z) : zG z 729 17 = some 35 := h.2.2.2 (729, 17, 35) (by decide)
theorem g730 {z : Hp} (h : Sh z) : zG z 730 17 = some 36 := h.2.2.2 (730, 17, 36) (by decide)
theorem g731 {z : Hp} (h : Sh z) : zG z 731 17 = some 37 := h.2.2.2 (731, 17, 37) (by decide)
theorem g732 {z : Hp} (h : Sh z) : zG z 732 17 = some 38 := h.2.2.2 (732, 17, 38) (by decide)
theorem g733 {z : Hp} (h : Sh z) : zG z 733 17 = some 39 := h.2.2.2 (733, 17, 39) (by decide)
theorem g734 {z : Hp} (h : Sh z) : zG z 734 17 = some 40 := h.2.2.2 (734, 17, 40) (by decide)
theorem g735 {z : Hp} (h : Sh z) : zG z 735 17 = some 41 := h.2.2.2 (735, 17, 41) (by decide)
theorem g736 {z : Hp} (h : Sh z) : zG z 736 17 = some 42 := h.2.2.2 (736, 17, 42) (by decide)
theorem g737 {z : Hp} (h : Sh z) : zG z 737 17 = some 43 := h.2.2.2 (737, 17, 43) (by decide)
theorem g738 {z : Hp} (h : Sh z) : zG z 738 17 = some 44 := h.2.2.2 (738, 17, 44) (by decide)
theorem g740 {z : Hp} (h : Sh z) : zG z 740 17 = some 45 := h.2.2.2 (740, 17, 45) (by decide)
theorem g751 {z : Hp} (h : Sh z) : zG z 751 17 = some 46 := h.2.2.2 (751, 17, 46) (by decide)
theorem g752 {z : Hp} (h : Sh z) : zG z 752 17 = some 47 := h.2.2.2 (752, 17, 47) (by decide)
theorem ne_n {z : Hp} (h : Sh z) {a : Nat} (ha : a < 48) : a ≠ zn z := by have := h.1; omega
-- numbers
theorem inb {k n : Nat} (h : k < n) (hn : n < 2 ^ 31) : (¬ (nI k < 0 ∨ n ≤ k)) = True := eq_true (fun q => by rcases q with q | q; exact nI_pos (by omega) q; omega)
theorem wh_seq {S R : Type} {f : S → Option (S ⊕ R)} {r : R} (s : Nat → S) : ∀ (n i : Nat), (∀ j, i ≤ j → j < i + n → f (s j) = some (.inl (s (j + 1)))) → f (s (i + n)) = some (.inr r) → ∀ N, n < N → wh f N (s i) = some r := by
  intro n
  induction n with
  | zero =>
    intro i _ hx N hN
    obtain ⟨M, rfl⟩ : ∃ M, N = M + 1 := ⟨N - 1, by omega⟩
    simp only [wh, Nat.add_zero] at hx ⊢
    rw [hx]
  | succ n ih =>
    intro i hs hx N hN
    obtain ⟨M, rfl⟩ : ∃ M, N = M + 1 := ⟨N - 1, by omega⟩
    have h0 := hs i (Nat.le_refl i) (by omega)
    simp only [wh, h0]
    exact ih (i + 1) (fun j h1 h2 => hs j (by omega) (by omega)) (by rw [show i + 1 + n = i + (n + 1) by omega]; exact hx) M (by omega)
theorem out_1 {N : Nat} {x a b : Int32} {z : Hp} (h : x < a ∨ b < x) : fX11_isOutside N x a b z = some 1 := by
  unfold fX11_isOutside
  by_cases h1 : x < a
  · simp only [fX11_isOutside_10, br_y h1]
  · rcases h with h | h
    · exact absurd h h1
    · have h2 : ¬ x ≤ b := Int32.not_le.mpr h
      simp only [fX11_isOutside_10, br_n h1, br_n h2]
theorem out_0 {N : Nat} {x a b : Int32} {z : Hp} (h : ¬ (x < a ∨ b < x)) : fX11_isOutside N x a b z = some 0 := by
  unfold fX11_isOutside
  have h1 : ¬ x < a := fun q => h (Or.inl q)
  have h2 : x ≤ b := Int32.not_lt.mp fun q => h (Or.inr q)
  simp only [br_n h1, br_y h2]
theorem in_1 {N : Nat} {x a b : Int32} {A B : Int64} {z : Hp} (hA : A = a.toInt64) (hB : B = b.toInt64) (h : ¬ (x < a ∨ b < x)) : fX12_in N x.toInt64 A B z = some 1 := by
  subst hA; subst hB
  unfold fX12_in
  have h1 : ¬ lg_cmp x.toInt64 a.toInt64 < 0 := by rw [lg_cmp_lt, fa_wide_lt]; exact fun q => h (Or.inl q)
  have h2 : ¬ 0 < lg_cmp x.toInt64 b.toInt64 := by rw [lg_cmp_gt, fa_wide_lt]; exact fun q => h (Or.inr q)
  simp only [br_n h1, br_n h2]
theorem in_0 {N : Nat} {x a b : Int32} {A B : Int64} {z : Hp} (hA : A = a.toInt64) (hB : B = b.toInt64) (h : x < a ∨ b < x) : fX12_in N x.toInt64 A B z = some 0 := by
  subst hA; subst hB
  unfold fX12_in
  by_cases h1 : x < a
  · have q : lg_cmp x.toInt64 a.toInt64 < 0 := by rw [lg_cmp_lt, fa_wide_lt]; exact h1
    simp only [fX12_in_17, br_y q]
  · have h2 : b < x := h.resolve_left h1
    have q1 : ¬ lg_cmp x.toInt64 a.toInt64 < 0 := by rw [lg_cmp_lt, fa_wide_lt]; exact h1
    have q2 : 0 < lg_cmp x.toInt64 b.toInt64 := by rw [lg_cmp_gt, fa_wide_lt]; exact h2
    simp only [fX12_in_17, br_n q1, br_y q2]
