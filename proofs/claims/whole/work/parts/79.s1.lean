-- SEARCH, the pieces
def lsN (v th age : Nat) : Nat := v * (1000 - th * age) / 1000
theorem mul_b {a b x y : Nat} (ha : a ≤ x) (hb : b ≤ y) : a * b ≤ x * y := Nat.mul_le_mul ha hb
theorem ls_neg {v c : Nat} (hv : v ≤ 3000) (hc : c ≤ 168000) (h : 1000 < c) : ¬ (0 : Int32) < nI v * ((1000 : Int32) - nI c) / (1000 : Int32) := by
  obtain ⟨e, rfl⟩ : ∃ e, c = 1000 + e := ⟨c - 1000, by omega⟩
  have hX : v * e ≤ 3000 * 167000 := mul_b hv (by omega)
  have h1 : nI v * ((1000 : Int32) - nI (1000 + e)) = - nI (v * e) := by
    rw [← nI_add, show (1000 : Int32) = nI 1000 from rfl]
    have : nI 1000 - (nI 1000 + nI e) = - nI e := by
      rw [Int32.sub_eq_add_neg, Int32.neg_add, Int32.sub_eq_add_neg, ← Int32.add_assoc, Int32.add_right_neg, Int32.zero_add]
    rw [this, Int32.mul_neg, pk_mul]
  rw [h1, Int32.lt_iff_toInt_lt, Int32.toInt_div, Int32.toInt_neg, nI_toInt (by omega), show (1000 : Int32).toInt = 1000 by decide, show (0 : Int32).toInt = 0 by decide]
  have h2 : (-((v * e : Nat) : Int)).bmod (2 ^ 32) = -((v * e : Nat) : Int) := by
    rw [Int.bmod_def]
    split <;> omega
  rw [h2]
  have h3 : (-((v * e : Nat) : Int)).tdiv 1000 = -(((v * e / 1000 : Nat)) : Int) := by
    rw [Int.neg_tdiv, Int.tdiv_eq_ediv_of_nonneg (by omega)]
    rfl
  rw [h3, Int.bmod_def]
  have h4 : v * e / 1000 ≤ 3000 * 167000 := Nat.le_trans (Nat.div_le_self _ _) hX
  split <;> omega
theorem lessened_e {N v th age : Nat} {z : Hp} (hv : v ≤ 3000) (ht : th ≤ 5) (ha : age ≤ 33600) : fX11_lessened N (nI v) (nI th) (nI age) z = some (nI (lsN v th age)) := by
  have hc : th * age ≤ 5 * 33600 := mul_b ht ha
  unfold fX11_lessened lsN
  rw [pk_mul]
  by_cases h : th * age ≤ 1000
  · have hX : v * (1000 - th * age) ≤ 3000 * 1000 := mul_b hv (by omega)
    rw [show (1000 : Int32) = nI 1000 from rfl, pk_sub h, pk_mul, pk_div (by omega) (by decide) (by decide)]
    by_cases h0 : 0 < v * (1000 - th * age) / 1000
    · rw [if_pos (nI_gt0' h0 (by have := Nat.div_le_self (v * (1000 - th * age)) 1000; omega))]
    · rw [show v * (1000 - th * age) / 1000 = 0 by omega]
      rfl
  · rw [if_neg (ls_neg hv (by omega) (by omega)), show 1000 - th * age = 0 by omega]
    simp only [Nat.mul_zero, Nat.zero_div]
    rfl
theorem lessBy_e {N v th age : Nat} {z : Hp} (hv : v ≤ 3000) (ht : th ≤ 5) (ha : age ≤ 33600) : fX12_lessBy N (nI v) (nI th) (nI age) z = some (nI (lsN v th age)) := by
  have hc : th * age ≤ 5 * 33600 := mul_b ht ha
  unfold fX12_lessBy lsN
  rw [pk_mul, bd_e]
  by_cases h : th * age ≤ 1000
  · have hX : v * (1000 - th * age) ≤ 3000 * 1000 := mul_b hv (by omega)
    rw [show (1000 : Int32) = nI 1000 from rfl, pk_sub h, br_y (nI_pos' (by omega)), pk_mul, pk_div (by omega) (by decide) (by decide)]
  · have c : ¬ (0 : Int32) ≤ (1000 : Int32) - nI (th * age) := by
      rw [Int32.le_iff_toInt_le, Int32.toInt_sub, nI_toInt (by omega), show (1000 : Int32).toInt = 1000 by decide, show (0 : Int32).toInt = 0 by decide, Int.bmod_def]
      split <;> omega
    rw [br_n c, show 1000 - th * age = 0 by omega]
    simp only [Nat.mul_zero, Nat.zero_div]
    rfl
theorem lsN_le {v th age : Nat} : lsN v th age ≤ v := by
  unfold lsN
  have : v * (1000 - th * age) ≤ v * 1000 := Nat.mul_le_mul_left _ (Nat.sub_le _ _)
  omega
theorem dueT_b {z : Hp} {nr nt k K : Nat} {w : Int32} (htx : I_tx z nt) (hk : k < 3) : ∃ q, dueT z nr nt k K w = nI q ∧ q ≤ 3000 := by
  unfold dueT
  cases hb : txB (zA z 39) w nt with
  | none => exact ⟨0, rfl, by omega⟩
  | some t =>
    obtain ⟨a, ea, ha⟩ := htx.1 t (txB_lt hb)
    obtain ⟨q1, q2, q3, q4, q5, q6, q7, q8, q9, q10, q11, ⟨ns, u1, u2, u3⟩, q13⟩ := ha
    simp only [encT, dueV, u2, nI_clamp (show ns < 2 ^ 31 by omega)]
    cases hb2 : txB (fun j => zA z 42 (8 * t + j)) (prS (moz z nr) (mwz z nr) K) ns with
    | none => exact ⟨0, rfl, by omega⟩
    | some j =>
      obtain ⟨-, -, -, o, e1, o1, o2⟩ := u3 j (txB_lt hb2)
      obtain ⟨-, p, e2, p1, p2⟩ := q13 k hk
      have hX : o * p ≤ 1000 * 300 := mul_b o2 p2
      refine ⟨o * p / 100, ?_, by omega⟩
      simp only [encT, e1, e2]
      rw [pk_mul, show (100 : Int32) = nI 100 from rfl, pk_div (by omega) (by decide) (by decide)]
/-- the allowance of the text in force -/
def alT (z : Hp) (nt : Nat) (w : Int32) : Int32 := encT 0 (zA z 41) (txB (zA z 39) w nt)
theorem alT_b {z : Hp} {nt : Nat} {w : Int32} (htx : I_tx z nt) : ∃ q, alT z nt w = nI q ∧ q ≤ 5 := by
  unfold alT
  cases hb : txB (zA z 39) w nt with
  | none => exact ⟨0, rfl, by omega⟩
  | some t =>
    obtain ⟨a, ea, ha⟩ := htx.1 t (txB_lt hb)
    exact ha.2.2.2.2.2.2.2.2.2.2.1
theorem dueT_cg {z z' : Hp} {nr nt k K : Nat} {w : Int32} (h : ∀ c, c ∈ [18, 19, 22, 23, 39, 40, 42, 43, 44] → zA z' c = zA z c) : dueT z' nr nt k K w = dueT z nr nt k K w := by
  have e1 : ∀ v, moz z' nr v = moz z nr v := fun v => by unfold moz; rw [h 18 (by decide), h 19 (by decide), h 22 (by decide)]
  have e2 : ∀ v, mwz z' nr v = mwz z nr v := fun v => by unfold mwz; rw [h 18 (by decide), h 19 (by decide), h 22 (by decide), h 23 (by decide)]
  unfold dueT dueV
  rw [h 39 (by decide), h 40 (by decide), h 42 (by decide), h 43 (by decide), h 44 (by decide), funext e1, funext e2]
theorem alT_cg {z z' : Hp} {nt : Nat} {w : Int32} (h1 : zA z' 39 = zA z 39) (h2 : zA z' 41 = zA z 41) : alT z' nt w = alT z nt w := by
  unfold alT
  rw [h1, h2]
def weZ (y : Hp) (n0 r age wg ak : Nat) (ss : Int32) : Hp := zsF (zsF (zsF (zsF (zsF y 452 n0 (nI r)) 453 n0 (nI age)) 454 n0 (nI wg)) 455 n0 (nI ak)) 456 n0 ss
theorem weighNone {N n0 b4 : Nat} {y : Hp} (h1 : b4 < zn y) (h2 : zK y b4 = 0) (h3 : zG y 7 b4 = none) : fX11_weighLatest N 0 n0 b4 y = some y := by
  simp only [fX11_weighLatest, okE h1 h2, gdT, bd_e, h3, cs_n]
theorem weigh37 {N n0 c r wi hi q k t dr al D nr nt A W K : Nat} {y : Hp} (hN : 6000 ≤ N) (hS : Sh y) (c1 : c < zn y) (c2 : zK y c = 1) (n1 : n0 < zn y) (n2 : zK y n0 = 7) (hne : c ≠ n0) (e769 : zF y 769 c = nI r) (e770 : zF y 770 c = nI (168 * wi + hi)) (hwi : wi < 200) (hhi : hi < 168) (e70 : zF y 70 c = nI q) (hq : q ≤ 2000) (e68 : zF y 68 c = nI k) (hk : k < 3) (e647 : zF y 647 0 = nI t) (ht : 168 * wi + hi ≤ t) (ht2 : t < 33600) (e649 : zF y 649 0 = nI dr) (hdr : dr ≤ 5) (hnt : nt ≤ 6) (htx : I_tx y nt) (hmk : I_mk y nr) (hal : al ≤ 5) (eD : dueT y nr nt k wi (nI wi) = nI D) (hD : D ≤ 3000) (eA : t - (168 * wi + hi) = A) (eW : lsN q dr A = W) (eK : lsN D al A = K) :
    fX11_weighLatest_37 N 0 n0 c (tAd y (txB (zA y 39) (nI wi) nt)) (nI al) y = some (weZ y n0 r A W K (if W < K then 1 else 0)) := by
  have hS15 : Sh (zsF (zsF (zsF y 452 n0 (nI r)) 453 n0 (nI A)) 454 n0 (nI W)) := hS.sF.sF.sF
  have htx15 : I_tx (zsF (zsF (zsF y 452 n0 (nI r)) 453 n0 (nI A)) 454 n0 (nI W)) nt := ((htx.sF (by decide)).sF (by decide)).sF (by decide)
  have hmk15 : I_mk (zsF (zsF (zsF y 452 n0 (nI r)) 453 n0 (nI A)) 454 n0 (nI W)) nr := hmk.sF.sF.sF
  have kd : ((c < zn (zsF (zsF (zsF y 452 n0 (nI r)) 453 n0 (nI A)) 454 n0 (nI W)) ∧ (zK (zsF (zsF (zsF y 452 n0 (nI r)) 453 n0 (nI A)) 454 n0 (nI W)) c = 1 ∨ zK (zsF (zsF (zsF y 452 n0 (nI r)) 453 n0 (nI A)) 454 n0 (nI W)) c = 5 ∨ zK (zsF (zsF (zsF y 452 n0 (nI r)) 453 n0 (nI A)) 454 n0 (nI W)) c = 7))) = True := eq_true ⟨by simp only [eF_zn, eF_zK, eF_zL, eF_s, eF_n, eF_zG, eF_zA, eF_zJ, eF_zR, eG_zn, eG_zK, eG_zL, eG_zF, eG_s, eG_n, eG_zA, eG_zJ, eG_zR, eA_zn, eA_zK, eA_zL, eA_zF, eA_zG, eA_s, eA_n, eA_zJ, eA_zR, eJ_zn, eJ_zK, eJ_zL, eJ_zF, eJ_zG, eJ_zA, eJ_s, eJ_n, eJ_zR, eR_zn, eR_zK, eR_zL, eR_zF, eR_zG, eR_zA, eR_zJ, eR_s, eR_n]; exact c1, by simp only [eF_zn, eF_zK, eF_zL, eF_s, eF_n, eF_zG, eF_zA, eF_zJ, eF_zR, eG_zn, eG_zK, eG_zL, eG_zF, eG_s, eG_n, eG_zA, eG_zJ, eG_zR, eA_zn, eA_zK, eA_zL, eA_zF, eA_zG, eA_s, eA_n, eA_zJ, eA_zR, eJ_zn, eJ_zK, eJ_zL, eJ_zF, eJ_zG, eJ_zA, eJ_s, eJ_n, eJ_zR, eR_zn, eR_zK, eR_zL, eR_zF, eR_zG, eR_zA, eR_zJ, eR_s, eR_n]; exact Or.inl c2⟩
  have hw := week_e (N := N) kd (wi := wi) (hi := hi) (by simp only [eF_zn, eF_zK, eF_zL, eF_s, eF_n, eF_zG, eF_zA, eF_zJ, eF_zR, eG_zn, eG_zK, eG_zL, eG_zF, eG_s, eG_n, eG_zA, eG_zJ, eG_zR, eA_zn, eA_zK, eA_zL, eA_zF, eA_zG, eA_s, eA_n, eA_zJ, eA_zR, eJ_zn, eJ_zK, eJ_zL, eJ_zF, eJ_zG, eJ_zA, eJ_s, eJ_n, eJ_zR, eR_zn, eR_zK, eR_zL, eR_zF, eR_zG, eR_zA, eR_zJ, eR_s, eR_n, ne_eq, not_false_eq_true, not_true_eq_false, reduceCtorEq, Nat.reduceEqDiff]; exact e770) hwi hhi
  have hdue := dueBy_e (N := N) (nr := nr) (k := k) (K := wi) (w := nI wi) hN hS15 hnt htx15 hmk15 hk (by omega) rfl
  have hdt : dueT (zsF (zsF (zsF y 452 n0 (nI r)) 453 n0 (nI A)) 454 n0 (nI W)) nr nt k wi (nI wi) = nI D := (dueT_cg (fun c _ => by simp only [eF_zn, eF_zK, eF_zL, eF_s, eF_n, eF_zG, eF_zA, eF_zJ, eF_zR, eG_zn, eG_zK, eG_zL, eG_zF, eG_s, eG_n, eG_zA, eG_zJ, eG_zR, eA_zn, eA_zK, eA_zL, eA_zF, eA_zG, eA_s, eA_n, eA_zJ, eA_zR, eJ_zn, eJ_zK, eJ_zL, eJ_zF, eJ_zG, eJ_zA, eJ_s, eJ_n, eJ_zR, eR_zn, eR_zK, eR_zL, eR_zF, eR_zG, eR_zA, eR_zJ, eR_s, eR_n])).trans eD
  rw [hdt] at hdue
  have et : tAd (zsF (zsF (zsF y 452 n0 (nI r)) 453 n0 (nI A)) 454 n0 (nI W)) (txB (zA (zsF (zsF (zsF y 452 n0 (nI r)) 453 n0 (nI A)) 454 n0 (nI W)) 39) (nI wi) nt) = tAd y (txB (zA y 39) (nI wi) nt) := by
    simp only [eF_zn, eF_zK, eF_zL, eF_s, eF_n, eF_zG, eF_zA, eF_zJ, eF_zR, eG_zn, eG_zK, eG_zL, eG_zF, eG_s, eG_n, eG_zA, eG_zJ, eG_zR, eA_zn, eA_zK, eA_zL, eA_zF, eA_zG, eA_s, eA_n, eA_zJ, eA_zR, eJ_zn, eJ_zK, eJ_zL, eJ_zF, eJ_zG, eJ_zA, eJ_s, eJ_n, eJ_zR, eR_zn, eR_zK, eR_zL, eR_zF, eR_zG, eR_zA, eR_zJ, eR_s, eR_n]
    cases txB (zA y 39) (nI wi) nt with
    | none => rfl
    | some b => simp only [tAd, eF_zn, eF_zK, eF_zL, eF_s, eF_n, eF_zG, eF_zA, eF_zJ, eF_zR, eG_zn, eG_zK, eG_zL, eG_zF, eG_s, eG_n, eG_zA, eG_zJ, eG_zR, eA_zn, eA_zK, eA_zL, eA_zF, eA_zG, eA_s, eA_n, eA_zJ, eA_zR, eJ_zn, eJ_zK, eJ_zL, eJ_zF, eJ_zG, eJ_zA, eJ_s, eJ_n, eJ_zR, eR_zn, eR_zK, eR_zL, eR_zF, eR_zG, eR_zA, eR_zJ, eR_s, eR_n]
  rw [et] at hdue
  have hage : A ≤ 33600 := by omega
  have hts : nI t - nI (168 * wi + hi) = nI A := by rw [pk_sub ht, eA]
  have ll1 : ∀ z, fX11_lessened N (nI q) (nI dr) (nI A) z = some (nI W) := fun z => by rw [← eW]; exact lessened_e (show q ≤ 3000 by omega) hdr hage
  have ll2 : ∀ z, fX11_lessened N (nI D) (nI al) (nI A) z = some (nI K) := fun z => by rw [← eK]; exact lessened_e hD hal hage
  have b1 := lsN_le (v := q) (th := dr) (age := A)
  rw [eW] at b1
  have b2 := lsN_le (v := D) (th := al) (age := A)
  rw [eK] at b2
  have a1 : zF (zsF y 452 n0 (nI r)) 647 0 = nI t := by rw [eF_n _ _ _ _ (by decide)]; exact e647
  have a2 : zF (zsF y 452 n0 (nI r)) 770 c = nI (168 * wi + hi) := by rw [eF_n _ _ _ _ (by decide)]; exact e770
  have a3 : zF (zsF (zsF y 452 n0 (nI r)) 453 n0 (nI A)) 70 c = nI q := by rw [eF_n _ _ _ _ (by decide), eF_n _ _ _ _ (by decide)]; exact e70
  have a4 : zF (zsF (zsF y 452 n0 (nI r)) 453 n0 (nI A)) 649 0 = nI dr := by rw [eF_n _ _ _ _ (by decide), eF_n _ _ _ _ (by decide)]; exact e649
  have a5 : zF (zsF (zsF y 452 n0 (nI r)) 453 n0 (nI A)) 453 n0 = nI A := by rw [eF_s, va_up_self]
  have a6 : zF (zsF (zsF (zsF y 452 n0 (nI r)) 453 n0 (nI A)) 454 n0 (nI W)) 68 c = nI k := by rw [eF_n _ _ _ _ (by decide), eF_n _ _ _ _ (by decide), eF_n _ _ _ _ (by decide)]; exact e68
  have a7 : zF (zsF (zsF (zsF y 452 n0 (nI r)) 453 n0 (nI A)) 454 n0 (nI W)) 453 n0 = nI A := by rw [eF_n _ _ _ _ (by decide)]; exact a5
  have a8 : zF (zsF (zsF (zsF (zsF y 452 n0 (nI r)) 453 n0 (nI A)) 454 n0 (nI W)) 455 n0 (nI K)) 455 n0 = nI K := by rw [eF_s, va_up_self]
  have a9 : zF (zsF (zsF (zsF (zsF y 452 n0 (nI r)) 453 n0 (nI A)) 454 n0 (nI W)) 455 n0 (nI K)) 454 n0 = nI W := by rw [eF_n _ _ _ _ (by decide), eF_s, va_up_self]
  have g26 : n0 < zn (zsF (zsF (zsF (zsF y 452 n0 (nI r)) 453 n0 (nI A)) 454 n0 (nI W)) 455 n0 (nI K)) ∧ zK (zsF (zsF (zsF (zsF y 452 n0 (nI r)) 453 n0 (nI A)) 454 n0 (nI W)) 455 n0 (nI K)) n0 = 7 := by rw [eF_zn, eF_zn, eF_zn, eF_zn, eF_zK, eF_zK, eF_zK, eF_zK]; exact ⟨n1, n2⟩
  unfold fX11_weighLatest_37
  rw [gd_t ⟨c1, c2⟩, gd_t ⟨n1, n2⟩, e769, bd_e, gd_t (of_eq_true (o0 hS.sF)), a1, a2, hts, bd_e, a3, a4, a5, ll1, bo_s, bd_e, hw, bo_s, a6, hdue, bo_s, a7, ll2, bo_s, bd_e, a8, a9]
  by_cases hlt : W < K
  · have cc : ¬ nI K ≤ nI W := nI_ge hlt (by omega)
    rw [br_n cc, if_pos hlt]
    unfold fX11_weighLatest_123 weZ
    rw [gd_t g26, gd_t (Or.inr rfl), bd_e]
  · have cc : nI K ≤ nI W := nI_le (by omega) (by omega)
    rw [br_y cc, if_neg hlt]
    unfold fX11_weighLatest_123 weZ
    rw [gd_t g26, gd_t (Or.inl rfl), bd_e]
