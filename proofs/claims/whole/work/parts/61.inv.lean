-- THE INVARIANT that couples the class (object at cell 0) and the model (object at cell 17)
/-- of the first n records those of a sort and a baker -/
def cntR (A18 A21 : Nat → Int32) (srt b : Int32) : Nat → Int32
  | 0 => 0
  | n + 1 => cntR A18 A21 srt b n + (if A18 n = srt ∧ A21 n = b then 1 else 0)
/-- the flour that lots of a baker hold, of the first n records -/
def flS (A18 A21 A25 : Nat → Int32) (b : Int32) : Nat → Int32
  | 0 => 0
  | n + 1 => flS A18 A21 A25 b n + (if A18 n = 1 ∧ A21 n = b then A25 n else 0)
def mkO (A18 A19 A22 : Nat → Int32) (w : Int32) : Nat → Int64
  | 0 => 0
  | n + 1 => if A18 n = 1 ∧ A19 n = w then mkO A18 A19 A22 w n + (A22 n).toInt64 else mkO A18 A19 A22 w n
def mkW (A18 A19 A22 A23 : Nat → Int32) (w : Int32) : Nat → Int64
  | 0 => 0
  | n + 1 => if A18 n = 1 ∧ A19 n = w then mkW A18 A19 A22 A23 w n + (A23 n).toInt64 * (A22 n).toInt64 else mkW A18 A19 A22 A23 w n
/-- the harvests of a week among the first n: ounces, how many -/
def hvS (A46 A47 : Nat → Int32) (v : Nat) : Nat → Nat
  | 0 => 0
  | n + 1 => hvS A46 A47 v n + (if A46 n = nI v then (A47 n).toNatClampNeg else 0)
def hvC (A46 : Nat → Int32) (v : Nat) : Nat → Nat
  | 0 => 0
  | n + 1 => hvC A46 v n + (if A46 n = nI v then 1 else 0)
/-- lots that are ground and empty, and batches, of the first n records -/
def usedR (A18 A24 A25 : Nat → Int32) : Nat → Nat
  | 0 => 0
  | n + 1 => usedR A18 A24 A25 n + (if (A18 n = 1 ∧ A24 n = 1 ∧ A25 n = 0) ∨ A18 n = 2 then 1 else 0)
def I_num (z : Hp) (w h nb nr ng gv nt nh : Nat) : Prop :=
  (zF z 704 17 = nI w ∧ zF z 705 17 = nI h ∧ w < 200 ∧ h < 168 ∧ zF z 647 0 = nI (168 * w + h)) ∧
  (zF z 706 17 = nI nb ∧ zF z 646 0 = nI nb ∧ nb ≤ 8) ∧
  (zF z 711 17 = nI nr ∧ zF z 132 1 = nI nr ∧ nr ≤ 200) ∧
  (zF z 717 17 = nI ng ∧ zF z 133 1 = nI ng ∧ ng ≤ nr) ∧
  (zF z 727 17 = nI gv ∧ zF z 134 1 = nI gv) ∧
  (zF z 739 17 = nI nt ∧ zF z 257 9 = nI nt ∧ nt ≤ 6) ∧
  (zF z 753 17 = nI nh ∧ zF z 194 13 = nI nh ∧ nh ≤ 10)
def I_sc (z : Hp) : Prop :=
  (∃ d, zF z 718 17 = nI d ∧ 2 ≤ d ∧ d ≤ 100) ∧ zF z 648 0 = zF z 718 17 ∧ zF z 651 0 = zF z 719 17 ∧ zF z 649 0 = zF z 744 17 ∧ (∃ d, zF z 744 17 = nI d ∧ d ≤ 5) ∧ zF z 650 0 = zF z 745 17 ∧ zF z 579 11 = zF z 743 17
def I_st (z : Hp) : Prop :=
  (∃ st, zF z 746 17 = nI st ∧ st ≤ 100000000) ∧ (∃ mo, zF z 747 17 = nI mo ∧ mo ≤ 10000) ∧ (∃ ea, zF z 748 17 = nI ea ∧ ea ≤ 1000) ∧ (∃ ra, zF z 749 17 = nI ra ∧ 1 ≤ ra ∧ ra ≤ 100) ∧
  zF z 195 13 = zF z 746 17 ∧ zF z 196 13 = zF z 747 17 ∧ zF z 197 13 = zF z 748 17 ∧ zF z 198 13 = zF z 749 17 ∧ zF z 199 13 = zF z 750 17
def I_hv (z : Hp) (w nh : Nat) : Prop :=
  (∀ k, k < nh → ∃ wk ok, zA z 46 k = nI wk ∧ zA z 47 k = nI ok ∧ w < wk ∧ wk < 200 ∧ 1 ≤ ok ∧ ok ≤ 10000000) ∧
  ∀ v, w < v → v < 200 → zA z 14 v = nI (hvS (zA z 46) (zA z 47) v nh) ∧ zA z 15 v = nI (hvC (zA z 46) v nh)
/-- a lot, a batch, a search: what the object at a holds of record i -/
def lotOf (z : Hp) (i a : Nat) : Prop := zA z 18 i = 1 ∧ zK z a = 5 ∧ zF z 324 a = zA z 22 i ∧ zF z 325 a = zA z 23 i ∧ zF z 326 a = zA z 24 i ∧ zF z 327 a = zA z 25 i ∧ (∃ o, zA z 22 i = nI o ∧ 1 ≤ o ∧ o ≤ 100000) ∧ (∃ q, zA z 23 i = nI q ∧ 1 ≤ q ∧ q ≤ 1000) ∧ ((zA z 24 i = 0 ∧ zA z 25 i = 0) ∨ (zA z 24 i = 1 ∧ ∃ f, zA z 25 i = nI f ∧ f ≤ 100000))
def batchOf (z : Hp) (i a gv : Nat) : Prop := zA z 18 i = 2 ∧ zK z a = 1 ∧ zF z 68 a = zA z 27 i ∧ zF z 69 a = zA z 28 i ∧ zF z 70 a = zA z 29 i ∧ zF z 71 a = zA z 30 i ∧ zF z 72 a = zA z 31 i ∧ (∃ k, zA z 27 i = nI k ∧ k < 3) ∧ (∃ q, zA z 29 i = nI q ∧ 1 ≤ q ∧ q ≤ 2000) ∧ (∃ f g, zA z 30 i = nI f ∧ zA z 31 i = nI g ∧ f + g ≤ gv)
def searchOf (z : Hp) (i a : Nat) : Prop := zA z 18 i = 3 ∧ zK z a = 7 ∧ zF z 452 a = zA z 34 (6 * i) ∧ zF z 453 a = zA z 34 (6 * i + 1) ∧ zF z 454 a = zA z 34 (6 * i + 2) ∧ zF z 455 a = zA z 34 (6 * i + 3) ∧ zF z 456 a = zA z 34 (6 * i + 4) ∧ zF z 457 a = zA z 34 (6 * i + 5) ∧ (zA z 34 (6 * i + 4) = 0 ∨ zA z 34 (6 * i + 4) = 1)
def recOf (z : Hp) (t nb gv i a : Nat) : Prop :=
  48 ≤ a ∧ a < zn z ∧ zF z 768 a = zA z 18 i ∧ zF z 769 a = nI i ∧ zF z 771 a = zA z 21 i ∧
  (∃ wi hi, zA z 19 i = nI wi ∧ zA z 20 i = nI hi ∧ wi < 200 ∧ hi < 168 ∧ zF z 770 a = nI (168 * wi + hi) ∧ 168 * wi + hi ≤ t) ∧
  (∃ b, b < nb ∧ zA z 21 i = nI b) ∧
  (lotOf z i a ∨ batchOf z i a gv ∨ searchOf z i a)
def I_rec (z : Hp) (t nb nr gv : Nat) : Prop :=
  (∀ i, i < nr → ∃ a, zR z 2 i = some a ∧ recOf z t nb gv i a) ∧
  (∀ i j a b, i < j → j < nr → zR z 2 i = some a → zR z 2 j = some b → a < b) ∧
  (∀ i, nr ≤ i → zA z 24 i = 0 ∧ zA z 25 i = 0)
def bakOf (z : Hp) (nr j a : Nat) : Prop :=
  48 ≤ a ∧ a < zn z ∧ zK z a = 0 ∧ zF z 0 a = flS (zA z 18) (zA z 21) (zA z 25) (nI j) nr ∧ zF z 1 a = cntR (zA z 18) (zA z 21) 1 (nI j) nr ∧ zF z 2 a = cntR (zA z 18) (zA z 21) 2 (nI j) nr ∧ zF z 3 a = cntR (zA z 18) (zA z 21) 3 (nI j) nr ∧
  zF z 4 a = zA z 35 j ∧ zF z 5 a = zA z 36 j ∧ zF z 6 a = zA z 37 j ∧
  ((zG z 7 a = none ∧ zA z 38 j = (-6)) ∨ ∃ r b, r < nr ∧ zA z 38 j = nI r ∧ zR z 2 r = some b ∧ zG z 7 a = some b ∧ zA z 18 r = 2)
def I_bk (z : Hp) (nb nr : Nat) : Prop :=
  (∀ j, j < nb → ∃ a, zR z 16 j = some a ∧ bakOf z nr j a) ∧
  (∀ i j a b, i < j → j < nb → zR z 16 i = some a → zR z 16 j = some b → a < b) ∧
  (∀ j, nb ≤ j → zA z 35 j = 0 ∧ zA z 36 j = 0 ∧ zA z 37 j = 0)
def I_gr (z : Hp) (nr ng : Nat) : Prop :=
  (∀ g, g < ng → ∃ i, i < nr ∧ zA z 26 g = nI i ∧ zR z 3 g = zR z 2 i ∧ zA z 18 i = 1 ∧ zA z 24 i = 1) ∧
  (∀ g g', g < g' → g' < ng → zA z 26 g ≠ zA z 26 g') ∧
  (∀ i, i < nr → zA z 18 i = 1 → zA z 24 i = 1 → ∃ g, g < ng ∧ zA z 26 g = nI i)
def I_gf (z : Hp) (nr gv : Nat) : Prop :=
  gv ≤ usedR (zA z 18) (zA z 24) (zA z 25) nr ∧ ∀ k, k < gv → zA z 4 k = zA z 32 k ∧ zA z 5 k = zA z 33 k
def I_mk (z : Hp) (nr : Nat) : Prop :=
  ∀ v, v < 200 → zJ z 7 v = mkO (zA z 18) (zA z 19) (zA z 22) (nI v) nr ∧ zJ z 8 v = mkW (zA z 18) (zA z 19) (zA z 22) (zA z 23) (nI v) nr
def txtOf (z : Hp) (t a : Nat) : Prop :=
  48 ≤ a ∧ a + 3 < zn z ∧ (zK z a = 8 ∧ zK z (a + 1) = 12 ∧ zK z (a + 2) = 12 ∧ zK z (a + 3) = 12) ∧ (zL z (a + 1) = 3 ∧ zL z (a + 2) = 8 ∧ zL z (a + 3) = 8) ∧
  (zG z 515 a = some (a + 1) ∧ zG z 516 a = some (a + 2) ∧ zG z 517 a = some (a + 3)) ∧
  zF z 512 a = nI t ∧ zF z 513 a = zA z 39 t ∧ zF z 514 a = zA z 41 t ∧ zF z 518 a = zA z 44 t ∧ (∃ wk, zA z 39 t = nI wk ∧ wk < 200) ∧ (∃ q, zA z 41 t = nI q ∧ q ≤ 5) ∧
  (∃ ns, ns ≤ 8 ∧ zA z 44 t = nI ns ∧ ∀ j, j < ns → zA z (a + 2) j = zA z 42 (8 * t + j) ∧ zA z (a + 3) j = zA z 43 (8 * t + j) ∧ (∃ q, zA z 42 (8 * t + j) = nI q ∧ q ≤ 1000) ∧ (∃ o, zA z 43 (8 * t + j) = nI o ∧ 1 ≤ o ∧ o ≤ 1000)) ∧
  (∀ k, k < 3 → zA z (a + 1) k = zA z 40 (3 * t + k) ∧ ∃ q, zA z 40 (3 * t + k) = nI q ∧ 10 ≤ q ∧ q ≤ 300)
def I_tx (z : Hp) (nt : Nat) : Prop :=
  (∀ t, t < nt → ∃ a, zR z 10 t = some a ∧ txtOf z t a) ∧
  (∀ i j a b, i < j → j < nt → zR z 10 i = some a → zR z 10 j = some b → a + 4 ≤ b) ∧
  (∀ t, nt ≤ t → zA z 44 t = 0)
def I_tn (z : Hp) (nb : Nat) : Prop :=
  ∃ tl tm len nx, zF z 741 17 = nI tl ∧ zF z 742 17 = nI tm ∧ zF z 577 11 = nI len ∧ zF z 578 11 = nI nx ∧ len ≤ 8 ∧ nx ≤ 8 ∧ tm ≤ 8 ∧ tl ≤ 8 ∧
    ((tl = 0 ∧ len ≤ nx) ∨ (0 < tl ∧ len = tm ∧ nx + tl = tm ∧ tm = nb ∧ ∀ k, k < tm → zA z 12 k = zA z 45 k ∧ ∃ j, j < nb ∧ zA z 45 k = nI j))
def Inv (z : Hp) : Prop := Sh z ∧ I_sc z ∧ I_st z ∧ ∃ w h nb nr ng gv nt nh, I_num z w h nb nr ng gv nt nh ∧ I_hv z w nh ∧ I_rec z (168 * w + h) nb nr gv ∧ I_bk z nb nr ∧ I_gr z nr ng ∧ I_gf z nr gv ∧ I_mk z nr ∧ I_tx z nt ∧ I_tn z nb
