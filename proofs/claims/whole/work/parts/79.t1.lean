-- BAKE, what the lots give: (what is wanted, the flour of the records, how many gifts)
abbrev tkQ (I : Nat → Nat) (B : Nat → Int32) (b g : Nat) (s : Nat × (Nat → Int32) × Nat) : Prop := 0 < s.1 ∧ B (I g) = nI b ∧ 0 < (s.2.1 (I g)).toNatClampNeg
def tkG (I : Nat → Nat) (g : Nat) (s : Nat × (Nat → Int32) × Nat) : Nat := if (s.2.1 (I g)).toNatClampNeg < s.1 then (s.2.1 (I g)).toNatClampNeg else s.1
def tkN (I : Nat → Nat) (B : Nat → Int32) (b : Nat) (s0 : Nat × (Nat → Int32) × Nat) : Nat → Nat × (Nat → Int32) × Nat
  | 0 => s0
  | g + 1 => if tkQ I B b g (tkN I B b s0 g) then ((tkN I B b s0 g).1 - tkG I g (tkN I B b s0 g), va_up (tkN I B b s0 g).2.1 (I g) (nI (((tkN I B b s0 g).2.1 (I g)).toNatClampNeg - tkG I g (tkN I B b s0 g))), (tkN I B b s0 g).2.2 + 1) else tkN I B b s0 g
def gvU (I : Nat → Nat) (B : Nat → Int32) (b : Nat) (s0 : Nat × (Nat → Int32) × Nat) (U : Nat → Int32) : Nat → (Nat → Int32)
  | 0 => U
  | g + 1 => if tkQ I B b g (tkN I B b s0 g) then va_up (gvU I B b s0 U g) (tkN I B b s0 g).2.2 (nI (I g)) else gvU I B b s0 U g
def gvV (I : Nat → Nat) (B : Nat → Int32) (b : Nat) (s0 : Nat × (Nat → Int32) × Nat) (U : Nat → Int32) : Nat → (Nat → Int32)
  | 0 => U
  | g + 1 => if tkQ I B b g (tkN I B b s0 g) then va_up (gvV I B b s0 U g) (tkN I B b s0 g).2.2 (nI (tkG I g (tkN I B b s0 g))) else gvV I B b s0 U g
theorem tkN_y {I : Nat → Nat} {B : Nat → Int32} {b g : Nat} {s0 : Nat × (Nat → Int32) × Nat} (h : tkQ I B b g (tkN I B b s0 g)) : tkN I B b s0 (g + 1) = ((tkN I B b s0 g).1 - tkG I g (tkN I B b s0 g), va_up (tkN I B b s0 g).2.1 (I g) (nI (((tkN I B b s0 g).2.1 (I g)).toNatClampNeg - tkG I g (tkN I B b s0 g))), (tkN I B b s0 g).2.2 + 1) := if_pos h
theorem tkN_n {I : Nat → Nat} {B : Nat → Int32} {b g : Nat} {s0 : Nat × (Nat → Int32) × Nat} (h : ¬ tkQ I B b g (tkN I B b s0 g)) : tkN I B b s0 (g + 1) = tkN I B b s0 g := if_neg h
theorem gvU_y {I : Nat → Nat} {B : Nat → Int32} {b g : Nat} {s0 : Nat × (Nat → Int32) × Nat} {U : Nat → Int32} (h : tkQ I B b g (tkN I B b s0 g)) : gvU I B b s0 U (g + 1) = va_up (gvU I B b s0 U g) (tkN I B b s0 g).2.2 (nI (I g)) := if_pos h
theorem gvU_n {I : Nat → Nat} {B : Nat → Int32} {b g : Nat} {s0 : Nat × (Nat → Int32) × Nat} {U : Nat → Int32} (h : ¬ tkQ I B b g (tkN I B b s0 g)) : gvU I B b s0 U (g + 1) = gvU I B b s0 U g := if_neg h
theorem gvV_y {I : Nat → Nat} {B : Nat → Int32} {b g : Nat} {s0 : Nat × (Nat → Int32) × Nat} {U : Nat → Int32} (h : tkQ I B b g (tkN I B b s0 g)) : gvV I B b s0 U (g + 1) = va_up (gvV I B b s0 U g) (tkN I B b s0 g).2.2 (nI (tkG I g (tkN I B b s0 g))) := if_pos h
theorem gvV_n {I : Nat → Nat} {B : Nat → Int32} {b g : Nat} {s0 : Nat × (Nat → Int32) × Nat} {U : Nat → Int32} (h : ¬ tkQ I B b g (tkN I B b s0 g)) : gvV I B b s0 U (g + 1) = gvV I B b s0 U g := if_neg h
theorem tk_stop {I : Nat → Nat} {B : Nat → Int32} {b g : Nat} {s0 : Nat × (Nat → Int32) × Nat} (h : (tkN I B b s0 g).1 = 0) : ∀ j, tkN I B b s0 (g + j) = tkN I B b s0 g ∧ (∀ U, gvU I B b s0 U (g + j) = gvU I B b s0 U g) ∧ (∀ U, gvV I B b s0 U (g + j) = gvV I B b s0 U g) := by
  intro j
  induction j with
  | zero => exact ⟨rfl, fun _ => rfl, fun _ => rfl⟩
  | succ j ih =>
    obtain ⟨i1, i2, i3⟩ := ih
    have nq : ¬ tkQ I B b (g + j) (tkN I B b s0 (g + j)) := fun q => by
      have := q.1
      rw [i1, h] at this
      omega
    exact ⟨(tkN_n nq).trans i1, fun U => (gvU_n nq).trans (i2 U), fun U => (gvV_n nq).trans (i3 U)⟩
def FlOk (I : Nat → Nat) (F : Nat → Int32) (ng : Nat) : Prop := ∀ g, g < ng → ∃ f, F (I g) = nI f ∧ f ≤ 100000
def LotsOk (I : Nat → Nat) (A18 A24 : Nat → Int32) (nr ng : Nat) : Prop := (∀ g, g < ng → I g < nr ∧ A18 (I g) = 1 ∧ A24 (I g) = 1) ∧ (∀ g g', g < g' → g' < ng → I g ≠ I g')
theorem tk_fl {I : Nat → Nat} {B : Nat → Int32} {b ng : Nat} {s0 : Nat × (Nat → Int32) × Nat} (hF : FlOk I s0.2.1 ng) : ∀ n, n ≤ ng → FlOk I (tkN I B b s0 n).2.1 ng := by
  intro n
  induction n with
  | zero => intro _; exact hF
  | succ n ih =>
    intro hn g hg
    have ih' := ih (by omega)
    by_cases q : tkQ I B b n (tkN I B b s0 n)
    · obtain ⟨f, e, hf⟩ := ih' g hg
      obtain ⟨f', e', hf'⟩ := ih' n (by omega)
      rw [tkN_y q]
      show ∃ f, va_up (tkN I B b s0 n).2.1 (I n) (nI (((tkN I B b s0 n).2.1 (I n)).toNatClampNeg - tkG I n (tkN I B b s0 n))) (I g) = nI f ∧ f ≤ 100000
      by_cases ei : I g = I n
      · rw [ei, va_up_self, e', nI_clamp (by omega)]
        exact ⟨_, rfl, by omega⟩
      · rw [va_up_ne _ _ ei]
        exact ⟨f, e, hf⟩
    · rw [tkN_n q]
      exact ih' g hg
theorem tk_out {I : Nat → Nat} {B : Nat → Int32} {b i : Nat} {s0 : Nat × (Nat → Int32) × Nat} : ∀ n, (∀ g, g < n → I g ≠ i) → (tkN I B b s0 n).2.1 i = s0.2.1 i := by
  intro n
  induction n with
  | zero => intro _; rfl
  | succ n ih =>
    intro h
    have ih' := ih (fun g hg => h g (by omega))
    by_cases q : tkQ I B b n (tkN I B b s0 n)
    · rw [tkN_y q]
      show va_up (tkN I B b s0 n).2.1 (I n) _ i = _
      rw [va_up_ne _ _ (fun e => h n (by omega) e.symm)]
      exact ih'
    · rw [tkN_n q]
      exact ih'
theorem tk_le {I : Nat → Nat} {B : Nat → Int32} {b : Nat} {s0 : Nat × (Nat → Int32) × Nat} : ∀ n, (tkN I B b s0 n).1 ≤ s0.1 ∧ s0.2.2 ≤ (tkN I B b s0 n).2.2 := by
  intro n
  induction n with
  | zero => exact ⟨Nat.le_refl _, Nat.le_refl _⟩
  | succ n ih =>
    obtain ⟨i1, i2⟩ := ih
    by_cases q : tkQ I B b n (tkN I B b s0 n)
    · rw [tkN_y q]
      exact ⟨Nat.le_trans (Nat.sub_le _ _) i1, Nat.le_succ_of_le i2⟩
    · rw [tkN_n q]
      exact ⟨i1, i2⟩
theorem tk_empty {I : Nat → Nat} {B : Nat → Int32} {b ng : Nat} {s0 : Nat × (Nat → Int32) × Nat} (hF : FlOk I s0.2.1 ng) (hinj : ∀ g g', g < g' → g' < ng → I g ≠ I g') : ∀ n, n ≤ ng → 0 < (tkN I B b s0 n).1 → ∀ g, g < n → B (I g) = nI b → (tkN I B b s0 n).2.1 (I g) = 0 := by
  intro n
  induction n with
  | zero => intro _ _ g hg; omega
  | succ n ih =>
    intro hn hm g hg hb
    obtain ⟨f', e', hf'⟩ := tk_fl (B := B) (b := b) hF n (by omega) n (by omega)
    by_cases q : tkQ I B b n (tkN I B b s0 n)
    · rw [tkN_y q] at hm ⊢
      have hm' : 0 < (tkN I B b s0 n).1 - tkG I n (tkN I B b s0 n) := hm
      show va_up (tkN I B b s0 n).2.1 (I n) (nI (((tkN I B b s0 n).2.1 (I n)).toNatClampNeg - tkG I n (tkN I B b s0 n))) (I g) = 0
      rcases Nat.lt_or_ge g n with h | h
      · rw [va_up_ne _ _ (hinj g n h (by omega))]
        exact ih (by omega) (by omega) g h hb
      · have eg : g = n := by omega
        subst eg
        rw [va_up_self]
        unfold tkG at hm' ⊢
        by_cases c : ((tkN I B b s0 g).2.1 (I g)).toNatClampNeg < (tkN I B b s0 g).1
        · rw [if_pos c, Nat.sub_self]; rfl
        · rw [if_neg c] at hm'; omega
    · rw [tkN_n q] at hm ⊢
      rcases Nat.lt_or_ge g n with h | h
      · exact ih (by omega) hm g h hb
      · have eg : g = n := by omega
        subst eg
        have hc : ¬ 0 < ((tkN I B b s0 g).2.1 (I g)).toNatClampNeg := fun k => q ⟨hm, hb, k⟩
        rw [e', nI_clamp (by omega)] at hc
        rw [e', show f' = 0 by omega]
        rfl
theorem i32_a {p q r s : Int32} : p + (r - (r + s)) + (q + s) = p + q := by
  have : r - (r + s) = -s := by rw [Int32.sub_eq_add_neg, Int32.neg_add, Int32.sub_eq_add_neg, ← Int32.add_assoc, Int32.add_right_neg, Int32.zero_add]
  rw [this, Int32.add_comm q s, ← Int32.add_assoc, Int32.add_assoc p, Int32.add_left_neg, Int32.add_zero]
theorem tk_sum {I : Nat → Nat} {A18 A24 B : Nat → Int32} {b nr ng : Nat} {s0 : Nat × (Nat → Int32) × Nat} (hF : FlOk I s0.2.1 ng) (hL : LotsOk I A18 A24 nr ng) : ∀ n, n ≤ ng → flS A18 B (tkN I B b s0 n).2.1 (nI b) nr + nI (s0.1 - (tkN I B b s0 n).1) = flS A18 B s0.2.1 (nI b) nr := by
  intro n
  induction n with
  | zero =>
    intro _
    show flS A18 B s0.2.1 (nI b) nr + nI (s0.1 - s0.1) = _
    rw [Nat.sub_self]
    exact Int32.add_zero _
  | succ n ih =>
    intro hn
    have ih' := ih (by omega)
    by_cases q : tkQ I B b n (tkN I B b s0 n)
    · obtain ⟨f', e', hf'⟩ := tk_fl (B := B) (b := b) hF n (by omega) n (by omega)
      obtain ⟨l1, l2, l3⟩ := hL.1 n (by omega)
      have hle := (tk_le (I := I) (B := B) (b := b) (s0 := s0) n).1
      rw [tkN_y q]
      show flS A18 B (va_up (tkN I B b s0 n).2.1 (I n) (nI (((tkN I B b s0 n).2.1 (I n)).toNatClampNeg - tkG I n (tkN I B b s0 n)))) (nI b) nr + nI (s0.1 - ((tkN I B b s0 n).1 - tkG I n (tkN I B b s0 n))) = _
      rw [flS_up l2 l1, if_pos q.2.1]
      have g1 : tkG I n (tkN I B b s0 n) ≤ (tkN I B b s0 n).1 := by unfold tkG; split <;> omega
      have g2 : tkG I n (tkN I B b s0 n) ≤ f' := by
        unfold tkG
        rw [e', nI_clamp (by omega)]
        split <;> omega
      have x1 : nI f' = nI (f' - tkG I n (tkN I B b s0 n)) + nI (tkG I n (tkN I B b s0 n)) := by
        rw [nI_add]; exact congrArg nI (by omega)
      have x2 : nI (s0.1 - ((tkN I B b s0 n).1 - tkG I n (tkN I B b s0 n))) = nI (s0.1 - (tkN I B b s0 n).1) + nI (tkG I n (tkN I B b s0 n)) := by
        rw [nI_add]; exact congrArg nI (by omega)
      rw [e', nI_clamp (by omega), x2]
      generalize tkG I n (tkN I B b s0 n) = G at *
      rw [x1, i32_a]
      exact ih'
    · rw [tkN_n q]
      exact ih'
theorem tk_other {I : Nat → Nat} {A18 A24 B : Nat → Int32} {b nr ng : Nat} {c : Int32} {s0 : Nat × (Nat → Int32) × Nat} (hL : LotsOk I A18 A24 nr ng) (hc : ¬ nI b = c) : ∀ n, n ≤ ng → flS A18 B (tkN I B b s0 n).2.1 c nr = flS A18 B s0.2.1 c nr := by
  intro n
  induction n with
  | zero => intro _; rfl
  | succ n ih =>
    intro hn
    have ih' := ih (by omega)
    by_cases q : tkQ I B b n (tkN I B b s0 n)
    · obtain ⟨l1, l2, l3⟩ := hL.1 n (by omega)
      rw [tkN_y q]
      show flS A18 B (va_up (tkN I B b s0 n).2.1 (I n) _) c nr = _
      rw [flS_up l2 l1, if_neg (by rw [q.2.1]; exact hc), Int32.add_zero]
      exact ih'
    · rw [tkN_n q]
      exact ih'
theorem usedR_one {A B C : Nat → Int32} {k : Nat} (h1 : A k = 1) (h2 : B k = 1) (h3 : C k ≠ 0) : ∀ {n : Nat}, k < n → usedR A B (va_up C k 0) n = usedR A B C n + 1
  | 0, h => by omega
  | n + 1, h => by
    rcases Nat.lt_or_ge k n with hk | hk
    · have ih := usedR_one (A := A) (B := B) (C := C) h1 h2 h3 hk
      simp only [usedR, ih, va_up_ne _ _ (show n ≠ k by omega)]
      omega
    · have e : n = k := by omega
      subst e
      have ih := usedR_congr (A := A) (A' := A) (B := B) (B' := B) (C := va_up C n 0) (C' := C) (n := n) (fun i hi => ⟨rfl, rfl, up_old hi⟩)
      have q1 : (A n = 1 ∧ B n = 1 ∧ va_up C n 0 n = 0) ∨ A n = 2 := Or.inl ⟨h1, h2, va_up_self _ _ _⟩
      have q2 : ¬ ((A n = 1 ∧ B n = 1 ∧ C n = 0) ∨ A n = 2) := fun q => by
        rcases q with q | q
        · exact h3 q.2.2
        · rw [h1] at q; exact absurd q (by decide)
      simp only [usedR, ih, if_pos q1, if_neg q2]
theorem tk_used {I : Nat → Nat} {A18 A24 B : Nat → Int32} {b nr ng : Nat} {s0 : Nat × (Nat → Int32) × Nat} (hF : FlOk I s0.2.1 ng) (hL : LotsOk I A18 A24 nr ng) (h0 : s0.2.2 ≤ usedR A18 A24 s0.2.1 nr) : ∀ n, n ≤ ng → (0 < (tkN I B b s0 n).1 → (tkN I B b s0 n).2.2 ≤ usedR A18 A24 (tkN I B b s0 n).2.1 nr) ∧ (tkN I B b s0 n).2.2 ≤ usedR A18 A24 (tkN I B b s0 n).2.1 nr + 1 := by
  intro n
  induction n with
  | zero => intro _; exact ⟨fun _ => h0, Nat.le_succ_of_le h0⟩
  | succ n ih =>
    intro hn
    obtain ⟨i1, i2⟩ := ih (by omega)
    by_cases q : tkQ I B b n (tkN I B b s0 n)
    · obtain ⟨f', e', hf'⟩ := tk_fl (B := B) (b := b) hF n (by omega) n (by omega)
      obtain ⟨l1, l2, l3⟩ := hL.1 n (by omega)
      have i1' := i1 q.1
      have hx := q.2.2
      have hne : (tkN I B b s0 n).2.1 (I n) ≠ 0 := fun e => by
        rw [e] at hx
        exact absurd hx (by decide)
      rw [tkN_y q]
      show (0 < (tkN I B b s0 n).1 - tkG I n (tkN I B b s0 n) → (tkN I B b s0 n).2.2 + 1 ≤ usedR A18 A24 (va_up (tkN I B b s0 n).2.1 (I n) (nI (((tkN I B b s0 n).2.1 (I n)).toNatClampNeg - tkG I n (tkN I B b s0 n)))) nr) ∧ (tkN I B b s0 n).2.2 + 1 ≤ usedR A18 A24 (va_up (tkN I B b s0 n).2.1 (I n) (nI (((tkN I B b s0 n).2.1 (I n)).toNatClampNeg - tkG I n (tkN I B b s0 n)))) nr + 1
      unfold tkG
      by_cases c : ((tkN I B b s0 n).2.1 (I n)).toNatClampNeg < (tkN I B b s0 n).1
      · rw [if_pos c, Nat.sub_self]
        have := usedR_one (A := A18) (B := A24) (C := (tkN I B b s0 n).2.1) l2 l3 hne l1
        rw [show nI 0 = (0 : Int32) from rfl, this]
        exact ⟨fun _ => by omega, by omega⟩
      · rw [if_neg c]
        refine ⟨fun k => by omega, ?_⟩
        have : usedR A18 A24 (tkN I B b s0 n).2.1 nr ≤ usedR A18 A24 (va_up (tkN I B b s0 n).2.1 (I n) (nI (((tkN I B b s0 n).2.1 (I n)).toNatClampNeg - (tkN I B b s0 n).1))) nr := usedR_mono (fun k hk p => by
          by_cases ek : k = I n
          · rw [ek] at p
            rcases p with p | p
            · exact absurd p.2.2 hne
            · rw [l2] at p; exact absurd p (by decide)
          · rw [va_up_ne _ _ ek]; exact p)
        omega
    · rw [tkN_n q]
      exact ⟨i1, i2⟩
theorem flS_z {A B C : Nat → Int32} {b : Int32} : ∀ {n : Nat}, (∀ k, k < n → A k = 1 → B k = b → C k = 0) → flS A B C b n = 0
  | 0, _ => rfl
  | n + 1, h => by
    have h1 := flS_z (A := A) (B := B) (C := C) (b := b) (n := n) (fun k hk => h k (by omega))
    simp only [flS, h1]
    by_cases c : A n = 1 ∧ B n = b
    · rw [if_pos c, h n (by omega) c.1 c.2]; rfl
    · rw [if_neg c]; rfl
theorem tk_done {I : Nat → Nat} {A18 A24 B : Nat → Int32} {b nr ng : Nat} {s0 : Nat × (Nat → Int32) × Nat} (hF : FlOk I s0.2.1 ng) (hL : LotsOk I A18 A24 nr ng) (hm : s0.1 ≤ 1000000) (hle : nI s0.1 ≤ flS A18 B s0.2.1 (nI b) nr) (hz : ∀ i, i < nr → A18 i = 1 → B i = nI b → (∃ g, g < ng ∧ I g = i) ∨ (s0.2.1 i = 0 ∧ ∀ g, g < ng → I g ≠ i)) : (tkN I B b s0 ng).1 = 0 := by
  rcases Nat.eq_zero_or_pos (tkN I B b s0 ng).1 with h | h
  · exact h
  have hs := tk_sum (B := B) (b := b) hF hL ng (Nat.le_refl _)
  have hl := (tk_le (I := I) (B := B) (b := b) (s0 := s0) ng).1
  have h0 : flS A18 B (tkN I B b s0 ng).2.1 (nI b) nr = 0 := flS_z (fun i hi k1 k2 => by
    rcases hz i hi k1 k2 with ⟨g, p1, p2⟩ | ⟨p1, p2⟩
    · rw [← p2]
      rw [← p2] at k2
      exact tk_empty hF hL.2 ng (Nat.le_refl _) h g p1 k2
    · rw [tk_out ng p2]; exact p1)
  rw [h0, Int32.zero_add] at hs
  rw [← hs, nI_leI (by omega) (by omega)] at hle
  omega
theorem gvU_old {I : Nat → Nat} {B : Nat → Int32} {b : Nat} {s0 : Nat × (Nat → Int32) × Nat} {U U' : Nat → Int32} (h : ∀ k, k < s0.2.2 → U k = U' k) : ∀ n k, k < (tkN I B b s0 n).2.2 → gvU I B b s0 U n k = gvU I B b s0 U' n k := by
  intro n
  induction n with
  | zero => exact h
  | succ n ih =>
    intro k hk
    by_cases q : tkQ I B b n (tkN I B b s0 n)
    · rw [tkN_y q] at hk
      have hk' : k < (tkN I B b s0 n).2.2 + 1 := hk
      rw [gvU_y q, gvU_y q]
      by_cases e : k = (tkN I B b s0 n).2.2
      · rw [e, va_up_self, va_up_self]
      · rw [va_up_ne _ _ e, va_up_ne _ _ e]
        exact ih k (by omega)
    · rw [tkN_n q] at hk
      rw [gvU_n q, gvU_n q]
      exact ih k hk
theorem gvV_old {I : Nat → Nat} {B : Nat → Int32} {b : Nat} {s0 : Nat × (Nat → Int32) × Nat} {U U' : Nat → Int32} (h : ∀ k, k < s0.2.2 → U k = U' k) : ∀ n k, k < (tkN I B b s0 n).2.2 → gvV I B b s0 U n k = gvV I B b s0 U' n k := by
  intro n
  induction n with
  | zero => exact h
  | succ n ih =>
    intro k hk
    by_cases q : tkQ I B b n (tkN I B b s0 n)
    · rw [tkN_y q] at hk
      have hk' : k < (tkN I B b s0 n).2.2 + 1 := hk
      rw [gvV_y q, gvV_y q]
      by_cases e : k = (tkN I B b s0 n).2.2
      · rw [e, va_up_self, va_up_self]
      · rw [va_up_ne _ _ e, va_up_ne _ _ e]
        exact ih k (by omega)
    · rw [tkN_n q] at hk
      rw [gvV_n q, gvV_n q]
      exact ih k hk
