-- THE HEAP AS PLAIN FUNCTIONS: how many cells since n0; kind and length of each; int fields, reference fields (by field's number, by cell); rows of ints, longs, references (by cell, by place). Cells are counted from n0 on.
abbrev Hp : Type := Nat × (Nat → Nat) × (Nat → Nat) × (Nat → Nat → Int32) × (Nat → Nat → Option Nat) × (Nat → Nat → Int32) × (Nat → Nat → Int64) × (Nat → Nat → Option Nat)
def zn (z : Hp) : Nat := z.1
def zK (z : Hp) : Nat → Nat := z.2.1
def zL (z : Hp) : Nat → Nat := z.2.2.1
def zF (z : Hp) : Nat → Nat → Int32 := z.2.2.2.1
def zG (z : Hp) : Nat → Nat → Option Nat := z.2.2.2.2.1
def zA (z : Hp) : Nat → Nat → Int32 := z.2.2.2.2.2.1
def zJ (z : Hp) : Nat → Nat → Int64 := z.2.2.2.2.2.2.1
def zR (z : Hp) : Nat → Nat → Option Nat := z.2.2.2.2.2.2.2
def u2 {α : Type} (f : Nat → Nat → α) (a b : Nat) (v : α) : Nat → Nat → α := fun x y => if x = a ∧ y = b then v else f x y
def zsF (z : Hp) (f a : Nat) (v : Int32) : Hp := (zn z, zK z, zL z, u2 (zF z) f a v, zG z, zA z, zJ z, zR z)
def zsG (z : Hp) (f a : Nat) (v : Option Nat) : Hp := (zn z, zK z, zL z, zF z, u2 (zG z) f a v, zA z, zJ z, zR z)
def zsA (z : Hp) (a i : Nat) (v : Int32) : Hp := (zn z, zK z, zL z, zF z, zG z, u2 (zA z) a i v, zJ z, zR z)
def zsJ (z : Hp) (a i : Nat) (v : Int64) : Hp := (zn z, zK z, zL z, zF z, zG z, zA z, u2 (zJ z) a i v, zR z)
def zsR (z : Hp) (a i : Nat) (v : Option Nat) : Hp := (zn z, zK z, zL z, zF z, zG z, zA z, zJ z, u2 (zR z) a i v)
/-- a new cell of a kind, all its values 0 or null -/
def zal (z : Hp) (k len : Nat) : Hp := (zn z + 1, va_up (zK z) (zn z) k, va_up (zL z) (zn z) len, fun f a => if a = zn z then 0 else zF z f a, fun f a => if a = zn z then none else zG z f a, fun a i => if a = zn z then 0 else zA z a i, fun a i => if a = zn z then 0 else zJ z a i, fun a i => if a = zn z then none else zR z a i)
theorem zF_sF (z : Hp) (f a : Nat) (v : Int32) (g b : Nat) : zF (zsF z f a v) g b = if g = f ∧ b = a then v else zF z g b := rfl
theorem zG_sF (z : Hp) (f a : Nat) (v : Int32) : zG (zsF z f a v) = zG z := rfl
theorem zF_sG (z : Hp) (f a : Nat) (v : Option Nat) : zF (zsG z f a v) = zF z := rfl
theorem zG_sG (z : Hp) (f a : Nat) (v : Option Nat) (g b : Nat) : zG (zsG z f a v) g b = if g = f ∧ b = a then v else zG z g b := rfl
theorem zF_al_self (z : Hp) (k n g : Nat) : zF (zal z k n) g (zn z) = 0 := by simp [zF, zal]
theorem zG_al_self (z : Hp) (k n g : Nat) : zG (zal z k n) g (zn z) = none := by simp [zG, zal]
def rv (n0 : Nat) (r : Option Nat) : Value := match r with
  | none => .null
  | some a => .ref (n0 + a)
theorem rv_cat (n0 : Nat) (r : Option Nat) : (rv n0 r).category = 1 := by cases r <;> rfl
theorem rv_rf (n0 : Nat) (r : Option Nat) : va_rf (r.map (n0 + ·)) = rv n0 r := by cases r <;> rfl
/-- the values of an object, by its kind -/
def fv (n0 : Nat) (z : Hp) (k a : Nat) : List Value := match k with
  | 0 => [.int (zF z 0 a), .int (zF z 1 a), .int (zF z 2 a), .int (zF z 3 a), .int (zF z 4 a), .int (zF z 5 a), .int (zF z 6 a), rv n0 (zG z 7 a)]
  | 1 => [.int (zF z 768 a), .int (zF z 769 a), .int (zF z 770 a), .int (zF z 771 a), .int (zF z 68 a), .int (zF z 69 a), .int (zF z 70 a), .int (zF z 71 a), .int (zF z 72 a)]
  | 2 => [rv n0 (zG z 128 a), rv n0 (zG z 129 a), rv n0 (zG z 130 a), rv n0 (zG z 131 a), .int (zF z 132 a), .int (zF z 133 a), .int (zF z 134 a)]
  | 3 => [rv n0 (zG z 192 a), rv n0 (zG z 193 a), .int (zF z 194 a), .int (zF z 195 a), .int (zF z 196 a), .int (zF z 197 a), .int (zF z 198 a), .int (zF z 199 a)]
  | 4 => [rv n0 (zG z 256 a), .int (zF z 257 a)]
  | 5 => [.int (zF z 768 a), .int (zF z 769 a), .int (zF z 770 a), .int (zF z 771 a), .int (zF z 324 a), .int (zF z 325 a), .int (zF z 326 a), .int (zF z 327 a)]
  | 6 => [rv n0 (zG z 384 a), rv n0 (zG z 385 a)]
  | 7 => [.int (zF z 768 a), .int (zF z 769 a), .int (zF z 770 a), .int (zF z 771 a), .int (zF z 452 a), .int (zF z 453 a), .int (zF z 454 a), .int (zF z 455 a), .int (zF z 456 a), .int (zF z 457 a)]
  | 8 => [.int (zF z 512 a), .int (zF z 513 a), .int (zF z 514 a), rv n0 (zG z 515 a), rv n0 (zG z 516 a), rv n0 (zG z 517 a), .int (zF z 518 a)]
  | 9 => [rv n0 (zG z 576 a), .int (zF z 577 a), .int (zF z 578 a), .int (zF z 579 a)]
  | 10 => [rv n0 (zG z 640 a), rv n0 (zG z 641 a), rv n0 (zG z 642 a), rv n0 (zG z 643 a), rv n0 (zG z 644 a), rv n0 (zG z 645 a), .int (zF z 646 a), .int (zF z 647 a), .int (zF z 648 a), .int (zF z 649 a), .int (zF z 650 a), .int (zF z 651 a)]
  | 11 => [.int (zF z 704 a), .int (zF z 705 a), .int (zF z 706 a), rv n0 (zG z 707 a), rv n0 (zG z 708 a), rv n0 (zG z 709 a), rv n0 (zG z 710 a), .int (zF z 711 a), rv n0 (zG z 712 a), rv n0 (zG z 713 a), rv n0 (zG z 714 a), rv n0 (zG z 715 a), rv n0 (zG z 716 a), .int (zF z 717 a), .int (zF z 718 a), .int (zF z 719 a), rv n0 (zG z 720 a), rv n0 (zG z 721 a), rv n0 (zG z 722 a), rv n0 (zG z 723 a), rv n0 (zG z 724 a), rv n0 (zG z 725 a), rv n0 (zG z 726 a), .int (zF z 727 a), rv n0 (zG z 728 a), rv n0 (zG z 729 a), rv n0 (zG z 730 a), rv n0 (zG z 731 a), rv n0 (zG z 732 a), rv n0 (zG z 733 a), rv n0 (zG z 734 a), rv n0 (zG z 735 a), rv n0 (zG z 736 a), rv n0 (zG z 737 a), rv n0 (zG z 738 a), .int (zF z 739 a), rv n0 (zG z 740 a), .int (zF z 741 a), .int (zF z 742 a), .int (zF z 743 a), .int (zF z 744 a), .int (zF z 745 a), .int (zF z 746 a), .int (zF z 747 a), .int (zF z 748 a), .int (zF z 749 a), .int (zF z 750 a), rv n0 (zG z 751 a), rv n0 (zG z 752 a), .int (zF z 753 a)]
  | _ => []
theorem st_0_0 (n0 : Nat) (z : Hp) (a : Nat) (x : Int32) : fv n0 (zsF z 0 a x) 0 a = (fv n0 z 0 a).set 0 (.int x) := by simp [fv, zF_sF, zG_sF]
theorem st_0_1 (n0 : Nat) (z : Hp) (a : Nat) (x : Int32) : fv n0 (zsF z 1 a x) 0 a = (fv n0 z 0 a).set 1 (.int x) := by simp [fv, zF_sF, zG_sF]
theorem st_0_2 (n0 : Nat) (z : Hp) (a : Nat) (x : Int32) : fv n0 (zsF z 2 a x) 0 a = (fv n0 z 0 a).set 2 (.int x) := by simp [fv, zF_sF, zG_sF]
theorem st_0_3 (n0 : Nat) (z : Hp) (a : Nat) (x : Int32) : fv n0 (zsF z 3 a x) 0 a = (fv n0 z 0 a).set 3 (.int x) := by simp [fv, zF_sF, zG_sF]
theorem st_0_4 (n0 : Nat) (z : Hp) (a : Nat) (x : Int32) : fv n0 (zsF z 4 a x) 0 a = (fv n0 z 0 a).set 4 (.int x) := by simp [fv, zF_sF, zG_sF]
theorem st_0_5 (n0 : Nat) (z : Hp) (a : Nat) (x : Int32) : fv n0 (zsF z 5 a x) 0 a = (fv n0 z 0 a).set 5 (.int x) := by simp [fv, zF_sF, zG_sF]
theorem st_0_6 (n0 : Nat) (z : Hp) (a : Nat) (x : Int32) : fv n0 (zsF z 6 a x) 0 a = (fv n0 z 0 a).set 6 (.int x) := by simp [fv, zF_sF, zG_sF]
theorem st_0_7 (n0 : Nat) (z : Hp) (a : Nat) (x : Option Nat) : fv n0 (zsG z 7 a x) 0 a = (fv n0 z 0 a).set 7 (rv n0 x) := by simp [fv, zF_sG, zG_sG]
theorem nw_0 (n0 : Nat) (z : Hp) (j : Nat) (hj : j < 8) : defaultValue (tyX0 j) = vp_V (fv n0 (zal z 0 0) 0 (zn z)) j := by
  have h : fv n0 (zal z 0 0) 0 (zn z) = [.int 0, .int 0, .int 0, .int 0, .int 0, .int 0, .int 0, .null] := by simp [fv, zF_al_self, zG_al_self, rv]
  rw [h]
  rcases (show j = 0 ∨ j = 1 ∨ j = 2 ∨ j = 3 ∨ j = 4 ∨ j = 5 ∨ j = 6 ∨ j = 7 by omega) with rfl | rfl | rfl | rfl | rfl | rfl | rfl | rfl <;> rfl
theorem st_1_0 (n0 : Nat) (z : Hp) (a : Nat) (x : Int32) : fv n0 (zsF z 768 a x) 1 a = (fv n0 z 1 a).set 0 (.int x) := by simp [fv, zF_sF, zG_sF]
theorem st_1_1 (n0 : Nat) (z : Hp) (a : Nat) (x : Int32) : fv n0 (zsF z 769 a x) 1 a = (fv n0 z 1 a).set 1 (.int x) := by simp [fv, zF_sF, zG_sF]
theorem st_1_2 (n0 : Nat) (z : Hp) (a : Nat) (x : Int32) : fv n0 (zsF z 770 a x) 1 a = (fv n0 z 1 a).set 2 (.int x) := by simp [fv, zF_sF, zG_sF]
theorem st_1_3 (n0 : Nat) (z : Hp) (a : Nat) (x : Int32) : fv n0 (zsF z 771 a x) 1 a = (fv n0 z 1 a).set 3 (.int x) := by simp [fv, zF_sF, zG_sF]
theorem st_1_4 (n0 : Nat) (z : Hp) (a : Nat) (x : Int32) : fv n0 (zsF z 68 a x) 1 a = (fv n0 z 1 a).set 4 (.int x) := by simp [fv, zF_sF, zG_sF]
theorem st_1_5 (n0 : Nat) (z : Hp) (a : Nat) (x : Int32) : fv n0 (zsF z 69 a x) 1 a = (fv n0 z 1 a).set 5 (.int x) := by simp [fv, zF_sF, zG_sF]
theorem st_1_6 (n0 : Nat) (z : Hp) (a : Nat) (x : Int32) : fv n0 (zsF z 70 a x) 1 a = (fv n0 z 1 a).set 6 (.int x) := by simp [fv, zF_sF, zG_sF]
theorem st_1_7 (n0 : Nat) (z : Hp) (a : Nat) (x : Int32) : fv n0 (zsF z 71 a x) 1 a = (fv n0 z 1 a).set 7 (.int x) := by simp [fv, zF_sF, zG_sF]
theorem st_1_8 (n0 : Nat) (z : Hp) (a : Nat) (x : Int32) : fv n0 (zsF z 72 a x) 1 a = (fv n0 z 1 a).set 8 (.int x) := by simp [fv, zF_sF, zG_sF]
theorem nw_1 (n0 : Nat) (z : Hp) (j : Nat) (hj : j < 9) : defaultValue (tyX1 j) = vp_V (fv n0 (zal z 1 0) 1 (zn z)) j := by
  have h : fv n0 (zal z 1 0) 1 (zn z) = [.int 0, .int 0, .int 0, .int 0, .int 0, .int 0, .int 0, .int 0, .int 0] := by simp [fv, zF_al_self, zG_al_self, rv]
  rw [h]
  rcases (show j = 0 ∨ j = 1 ∨ j = 2 ∨ j = 3 ∨ j = 4 ∨ j = 5 ∨ j = 6 ∨ j = 7 ∨ j = 8 by omega) with rfl | rfl | rfl | rfl | rfl | rfl | rfl | rfl | rfl <;> rfl
theorem st_2_0 (n0 : Nat) (z : Hp) (a : Nat) (x : Option Nat) : fv n0 (zsG z 128 a x) 2 a = (fv n0 z 2 a).set 0 (rv n0 x) := by simp [fv, zF_sG, zG_sG]
theorem st_2_1 (n0 : Nat) (z : Hp) (a : Nat) (x : Option Nat) : fv n0 (zsG z 129 a x) 2 a = (fv n0 z 2 a).set 1 (rv n0 x) := by simp [fv, zF_sG, zG_sG]
theorem st_2_2 (n0 : Nat) (z : Hp) (a : Nat) (x : Option Nat) : fv n0 (zsG z 130 a x) 2 a = (fv n0 z 2 a).set 2 (rv n0 x) := by simp [fv, zF_sG, zG_sG]
theorem st_2_3 (n0 : Nat) (z : Hp) (a : Nat) (x : Option Nat) : fv n0 (zsG z 131 a x) 2 a = (fv n0 z 2 a).set 3 (rv n0 x) := by simp [fv, zF_sG, zG_sG]
theorem st_2_4 (n0 : Nat) (z : Hp) (a : Nat) (x : Int32) : fv n0 (zsF z 132 a x) 2 a = (fv n0 z 2 a).set 4 (.int x) := by simp [fv, zF_sF, zG_sF]
theorem st_2_5 (n0 : Nat) (z : Hp) (a : Nat) (x : Int32) : fv n0 (zsF z 133 a x) 2 a = (fv n0 z 2 a).set 5 (.int x) := by simp [fv, zF_sF, zG_sF]
theorem st_2_6 (n0 : Nat) (z : Hp) (a : Nat) (x : Int32) : fv n0 (zsF z 134 a x) 2 a = (fv n0 z 2 a).set 6 (.int x) := by simp [fv, zF_sF, zG_sF]
theorem nw_2 (n0 : Nat) (z : Hp) (j : Nat) (hj : j < 7) : defaultValue (tyX2 j) = vp_V (fv n0 (zal z 2 0) 2 (zn z)) j := by
  have h : fv n0 (zal z 2 0) 2 (zn z) = [.null, .null, .null, .null, .int 0, .int 0, .int 0] := by simp [fv, zF_al_self, zG_al_self, rv]
  rw [h]
  rcases (show j = 0 ∨ j = 1 ∨ j = 2 ∨ j = 3 ∨ j = 4 ∨ j = 5 ∨ j = 6 by omega) with rfl | rfl | rfl | rfl | rfl | rfl | rfl <;> rfl
theorem st_3_0 (n0 : Nat) (z : Hp) (a : Nat) (x : Option Nat) : fv n0 (zsG z 192 a x) 3 a = (fv n0 z 3 a).set 0 (rv n0 x) := by simp [fv, zF_sG, zG_sG]
theorem st_3_1 (n0 : Nat) (z : Hp) (a : Nat) (x : Option Nat) : fv n0 (zsG z 193 a x) 3 a = (fv n0 z 3 a).set 1 (rv n0 x) := by simp [fv, zF_sG, zG_sG]
theorem st_3_2 (n0 : Nat) (z : Hp) (a : Nat) (x : Int32) : fv n0 (zsF z 194 a x) 3 a = (fv n0 z 3 a).set 2 (.int x) := by simp [fv, zF_sF, zG_sF]
theorem st_3_3 (n0 : Nat) (z : Hp) (a : Nat) (x : Int32) : fv n0 (zsF z 195 a x) 3 a = (fv n0 z 3 a).set 3 (.int x) := by simp [fv, zF_sF, zG_sF]
theorem st_3_4 (n0 : Nat) (z : Hp) (a : Nat) (x : Int32) : fv n0 (zsF z 196 a x) 3 a = (fv n0 z 3 a).set 4 (.int x) := by simp [fv, zF_sF, zG_sF]
theorem st_3_5 (n0 : Nat) (z : Hp) (a : Nat) (x : Int32) : fv n0 (zsF z 197 a x) 3 a = (fv n0 z 3 a).set 5 (.int x) := by simp [fv, zF_sF, zG_sF]
theorem st_3_6 (n0 : Nat) (z : Hp) (a : Nat) (x : Int32) : fv n0 (zsF z 198 a x) 3 a = (fv n0 z 3 a).set 6 (.int x) := by simp [fv, zF_sF, zG_sF]
theorem st_3_7 (n0 : Nat) (z : Hp) (a : Nat) (x : Int32) : fv n0 (zsF z 199 a x) 3 a = (fv n0 z 3 a).set 7 (.int x) := by simp [fv, zF_sF, zG_sF]
theorem nw_3 (n0 : Nat) (z : Hp) (j : Nat) (hj : j < 8) : defaultValue (tyX4 j) = vp_V (fv n0 (zal z 3 0) 3 (zn z)) j := by
  have h : fv n0 (zal z 3 0) 3 (zn z) = [.null, .null, .int 0, .int 0, .int 0, .int 0, .int 0, .int 0] := by simp [fv, zF_al_self, zG_al_self, rv]
  rw [h]
  rcases (show j = 0 ∨ j = 1 ∨ j = 2 ∨ j = 3 ∨ j = 4 ∨ j = 5 ∨ j = 6 ∨ j = 7 by omega) with rfl | rfl | rfl | rfl | rfl | rfl | rfl | rfl <;> rfl
theorem st_4_0 (n0 : Nat) (z : Hp) (a : Nat) (x : Option Nat) : fv n0 (zsG z 256 a x) 4 a = (fv n0 z 4 a).set 0 (rv n0 x) := by simp [fv, zF_sG, zG_sG]
theorem st_4_1 (n0 : Nat) (z : Hp) (a : Nat) (x : Int32) : fv n0 (zsF z 257 a x) 4 a = (fv n0 z 4 a).set 1 (.int x) := by simp [fv, zF_sF, zG_sF]
theorem nw_4 (n0 : Nat) (z : Hp) (j : Nat) (hj : j < 2) : defaultValue (tyX5 j) = vp_V (fv n0 (zal z 4 0) 4 (zn z)) j := by
  have h : fv n0 (zal z 4 0) 4 (zn z) = [.null, .int 0] := by simp [fv, zF_al_self, zG_al_self, rv]
  rw [h]
  rcases (show j = 0 ∨ j = 1 by omega) with rfl | rfl <;> rfl
theorem st_5_0 (n0 : Nat) (z : Hp) (a : Nat) (x : Int32) : fv n0 (zsF z 768 a x) 5 a = (fv n0 z 5 a).set 0 (.int x) := by simp [fv, zF_sF, zG_sF]
theorem st_5_1 (n0 : Nat) (z : Hp) (a : Nat) (x : Int32) : fv n0 (zsF z 769 a x) 5 a = (fv n0 z 5 a).set 1 (.int x) := by simp [fv, zF_sF, zG_sF]
theorem st_5_2 (n0 : Nat) (z : Hp) (a : Nat) (x : Int32) : fv n0 (zsF z 770 a x) 5 a = (fv n0 z 5 a).set 2 (.int x) := by simp [fv, zF_sF, zG_sF]
theorem st_5_3 (n0 : Nat) (z : Hp) (a : Nat) (x : Int32) : fv n0 (zsF z 771 a x) 5 a = (fv n0 z 5 a).set 3 (.int x) := by simp [fv, zF_sF, zG_sF]
theorem st_5_4 (n0 : Nat) (z : Hp) (a : Nat) (x : Int32) : fv n0 (zsF z 324 a x) 5 a = (fv n0 z 5 a).set 4 (.int x) := by simp [fv, zF_sF, zG_sF]
theorem st_5_5 (n0 : Nat) (z : Hp) (a : Nat) (x : Int32) : fv n0 (zsF z 325 a x) 5 a = (fv n0 z 5 a).set 5 (.int x) := by simp [fv, zF_sF, zG_sF]
theorem st_5_6 (n0 : Nat) (z : Hp) (a : Nat) (x : Int32) : fv n0 (zsF z 326 a x) 5 a = (fv n0 z 5 a).set 6 (.int x) := by simp [fv, zF_sF, zG_sF]
theorem st_5_7 (n0 : Nat) (z : Hp) (a : Nat) (x : Int32) : fv n0 (zsF z 327 a x) 5 a = (fv n0 z 5 a).set 7 (.int x) := by simp [fv, zF_sF, zG_sF]
theorem nw_5 (n0 : Nat) (z : Hp) (j : Nat) (hj : j < 8) : defaultValue (tyX6 j) = vp_V (fv n0 (zal z 5 0) 5 (zn z)) j := by
  have h : fv n0 (zal z 5 0) 5 (zn z) = [.int 0, .int 0, .int 0, .int 0, .int 0, .int 0, .int 0, .int 0] := by simp [fv, zF_al_self, zG_al_self, rv]
  rw [h]
  rcases (show j = 0 ∨ j = 1 ∨ j = 2 ∨ j = 3 ∨ j = 4 ∨ j = 5 ∨ j = 6 ∨ j = 7 by omega) with rfl | rfl | rfl | rfl | rfl | rfl | rfl | rfl <;> rfl
theorem st_6_0 (n0 : Nat) (z : Hp) (a : Nat) (x : Option Nat) : fv n0 (zsG z 384 a x) 6 a = (fv n0 z 6 a).set 0 (rv n0 x) := by simp [fv, zF_sG, zG_sG]
theorem st_6_1 (n0 : Nat) (z : Hp) (a : Nat) (x : Option Nat) : fv n0 (zsG z 385 a x) 6 a = (fv n0 z 6 a).set 1 (rv n0 x) := by simp [fv, zF_sG, zG_sG]
theorem nw_6 (n0 : Nat) (z : Hp) (j : Nat) (hj : j < 2) : defaultValue (tyX7 j) = vp_V (fv n0 (zal z 6 0) 6 (zn z)) j := by
  have h : fv n0 (zal z 6 0) 6 (zn z) = [.null, .null] := by simp [fv, zF_al_self, zG_al_self, rv]
  rw [h]
  rcases (show j = 0 ∨ j = 1 by omega) with rfl | rfl <;> rfl
theorem st_7_0 (n0 : Nat) (z : Hp) (a : Nat) (x : Int32) : fv n0 (zsF z 768 a x) 7 a = (fv n0 z 7 a).set 0 (.int x) := by simp [fv, zF_sF, zG_sF]
theorem st_7_1 (n0 : Nat) (z : Hp) (a : Nat) (x : Int32) : fv n0 (zsF z 769 a x) 7 a = (fv n0 z 7 a).set 1 (.int x) := by simp [fv, zF_sF, zG_sF]
theorem st_7_2 (n0 : Nat) (z : Hp) (a : Nat) (x : Int32) : fv n0 (zsF z 770 a x) 7 a = (fv n0 z 7 a).set 2 (.int x) := by simp [fv, zF_sF, zG_sF]
theorem st_7_3 (n0 : Nat) (z : Hp) (a : Nat) (x : Int32) : fv n0 (zsF z 771 a x) 7 a = (fv n0 z 7 a).set 3 (.int x) := by simp [fv, zF_sF, zG_sF]
theorem st_7_4 (n0 : Nat) (z : Hp) (a : Nat) (x : Int32) : fv n0 (zsF z 452 a x) 7 a = (fv n0 z 7 a).set 4 (.int x) := by simp [fv, zF_sF, zG_sF]
theorem st_7_5 (n0 : Nat) (z : Hp) (a : Nat) (x : Int32) : fv n0 (zsF z 453 a x) 7 a = (fv n0 z 7 a).set 5 (.int x) := by simp [fv, zF_sF, zG_sF]
theorem st_7_6 (n0 : Nat) (z : Hp) (a : Nat) (x : Int32) : fv n0 (zsF z 454 a x) 7 a = (fv n0 z 7 a).set 6 (.int x) := by simp [fv, zF_sF, zG_sF]
theorem st_7_7 (n0 : Nat) (z : Hp) (a : Nat) (x : Int32) : fv n0 (zsF z 455 a x) 7 a = (fv n0 z 7 a).set 7 (.int x) := by simp [fv, zF_sF, zG_sF]
theorem st_7_8 (n0 : Nat) (z : Hp) (a : Nat) (x : Int32) : fv n0 (zsF z 456 a x) 7 a = (fv n0 z 7 a).set 8 (.int x) := by simp [fv, zF_sF, zG_sF]
theorem st_7_9 (n0 : Nat) (z : Hp) (a : Nat) (x : Int32) : fv n0 (zsF z 457 a x) 7 a = (fv n0 z 7 a).set 9 (.int x) := by simp [fv, zF_sF, zG_sF]
theorem nw_7 (n0 : Nat) (z : Hp) (j : Nat) (hj : j < 10) : defaultValue (tyX8 j) = vp_V (fv n0 (zal z 7 0) 7 (zn z)) j := by
  have h : fv n0 (zal z 7 0) 7 (zn z) = [.int 0, .int 0, .int 0, .int 0, .int 0, .int 0, .int 0, .int 0, .int 0, .int 0] := by simp [fv, zF_al_self, zG_al_self, rv]
  rw [h]
  rcases (show j = 0 ∨ j = 1 ∨ j = 2 ∨ j = 3 ∨ j = 4 ∨ j = 5 ∨ j = 6 ∨ j = 7 ∨ j = 8 ∨ j = 9 by omega) with rfl | rfl | rfl | rfl | rfl | rfl | rfl | rfl | rfl | rfl <;> rfl
theorem st_8_0 (n0 : Nat) (z : Hp) (a : Nat) (x : Int32) : fv n0 (zsF z 512 a x) 8 a = (fv n0 z 8 a).set 0 (.int x) := by simp [fv, zF_sF, zG_sF]
theorem st_8_1 (n0 : Nat) (z : Hp) (a : Nat) (x : Int32) : fv n0 (zsF z 513 a x) 8 a = (fv n0 z 8 a).set 1 (.int x) := by simp [fv, zF_sF, zG_sF]
theorem st_8_2 (n0 : Nat) (z : Hp) (a : Nat) (x : Int32) : fv n0 (zsF z 514 a x) 8 a = (fv n0 z 8 a).set 2 (.int x) := by simp [fv, zF_sF, zG_sF]
theorem st_8_3 (n0 : Nat) (z : Hp) (a : Nat) (x : Option Nat) : fv n0 (zsG z 515 a x) 8 a = (fv n0 z 8 a).set 3 (rv n0 x) := by simp [fv, zF_sG, zG_sG]
theorem st_8_4 (n0 : Nat) (z : Hp) (a : Nat) (x : Option Nat) : fv n0 (zsG z 516 a x) 8 a = (fv n0 z 8 a).set 4 (rv n0 x) := by simp [fv, zF_sG, zG_sG]
theorem st_8_5 (n0 : Nat) (z : Hp) (a : Nat) (x : Option Nat) : fv n0 (zsG z 517 a x) 8 a = (fv n0 z 8 a).set 5 (rv n0 x) := by simp [fv, zF_sG, zG_sG]
theorem st_8_6 (n0 : Nat) (z : Hp) (a : Nat) (x : Int32) : fv n0 (zsF z 518 a x) 8 a = (fv n0 z 8 a).set 6 (.int x) := by simp [fv, zF_sF, zG_sF]
theorem nw_8 (n0 : Nat) (z : Hp) (j : Nat) (hj : j < 7) : defaultValue (tyX9 j) = vp_V (fv n0 (zal z 8 0) 8 (zn z)) j := by
  have h : fv n0 (zal z 8 0) 8 (zn z) = [.int 0, .int 0, .int 0, .null, .null, .null, .int 0] := by simp [fv, zF_al_self, zG_al_self, rv]
  rw [h]
  rcases (show j = 0 ∨ j = 1 ∨ j = 2 ∨ j = 3 ∨ j = 4 ∨ j = 5 ∨ j = 6 by omega) with rfl | rfl | rfl | rfl | rfl | rfl | rfl <;> rfl
theorem st_9_0 (n0 : Nat) (z : Hp) (a : Nat) (x : Option Nat) : fv n0 (zsG z 576 a x) 9 a = (fv n0 z 9 a).set 0 (rv n0 x) := by simp [fv, zF_sG, zG_sG]
theorem st_9_1 (n0 : Nat) (z : Hp) (a : Nat) (x : Int32) : fv n0 (zsF z 577 a x) 9 a = (fv n0 z 9 a).set 1 (.int x) := by simp [fv, zF_sF, zG_sF]
theorem st_9_2 (n0 : Nat) (z : Hp) (a : Nat) (x : Int32) : fv n0 (zsF z 578 a x) 9 a = (fv n0 z 9 a).set 2 (.int x) := by simp [fv, zF_sF, zG_sF]
theorem st_9_3 (n0 : Nat) (z : Hp) (a : Nat) (x : Int32) : fv n0 (zsF z 579 a x) 9 a = (fv n0 z 9 a).set 3 (.int x) := by simp [fv, zF_sF, zG_sF]
theorem nw_9 (n0 : Nat) (z : Hp) (j : Nat) (hj : j < 4) : defaultValue (tyX10 j) = vp_V (fv n0 (zal z 9 0) 9 (zn z)) j := by
  have h : fv n0 (zal z 9 0) 9 (zn z) = [.null, .int 0, .int 0, .int 0] := by simp [fv, zF_al_self, zG_al_self, rv]
  rw [h]
  rcases (show j = 0 ∨ j = 1 ∨ j = 2 ∨ j = 3 by omega) with rfl | rfl | rfl | rfl <;> rfl
theorem st_10_0 (n0 : Nat) (z : Hp) (a : Nat) (x : Option Nat) : fv n0 (zsG z 640 a x) 10 a = (fv n0 z 10 a).set 0 (rv n0 x) := by simp [fv, zF_sG, zG_sG]
theorem st_10_1 (n0 : Nat) (z : Hp) (a : Nat) (x : Option Nat) : fv n0 (zsG z 641 a x) 10 a = (fv n0 z 10 a).set 1 (rv n0 x) := by simp [fv, zF_sG, zG_sG]
theorem st_10_2 (n0 : Nat) (z : Hp) (a : Nat) (x : Option Nat) : fv n0 (zsG z 642 a x) 10 a = (fv n0 z 10 a).set 2 (rv n0 x) := by simp [fv, zF_sG, zG_sG]
theorem st_10_3 (n0 : Nat) (z : Hp) (a : Nat) (x : Option Nat) : fv n0 (zsG z 643 a x) 10 a = (fv n0 z 10 a).set 3 (rv n0 x) := by simp [fv, zF_sG, zG_sG]
theorem st_10_4 (n0 : Nat) (z : Hp) (a : Nat) (x : Option Nat) : fv n0 (zsG z 644 a x) 10 a = (fv n0 z 10 a).set 4 (rv n0 x) := by simp [fv, zF_sG, zG_sG]
theorem st_10_5 (n0 : Nat) (z : Hp) (a : Nat) (x : Option Nat) : fv n0 (zsG z 645 a x) 10 a = (fv n0 z 10 a).set 5 (rv n0 x) := by simp [fv, zF_sG, zG_sG]
theorem st_10_6 (n0 : Nat) (z : Hp) (a : Nat) (x : Int32) : fv n0 (zsF z 646 a x) 10 a = (fv n0 z 10 a).set 6 (.int x) := by simp [fv, zF_sF, zG_sF]
theorem st_10_7 (n0 : Nat) (z : Hp) (a : Nat) (x : Int32) : fv n0 (zsF z 647 a x) 10 a = (fv n0 z 10 a).set 7 (.int x) := by simp [fv, zF_sF, zG_sF]
theorem st_10_8 (n0 : Nat) (z : Hp) (a : Nat) (x : Int32) : fv n0 (zsF z 648 a x) 10 a = (fv n0 z 10 a).set 8 (.int x) := by simp [fv, zF_sF, zG_sF]
theorem st_10_9 (n0 : Nat) (z : Hp) (a : Nat) (x : Int32) : fv n0 (zsF z 649 a x) 10 a = (fv n0 z 10 a).set 9 (.int x) := by simp [fv, zF_sF, zG_sF]
theorem st_10_10 (n0 : Nat) (z : Hp) (a : Nat) (x : Int32) : fv n0 (zsF z 650 a x) 10 a = (fv n0 z 10 a).set 10 (.int x) := by simp [fv, zF_sF, zG_sF]
theorem st_10_11 (n0 : Nat) (z : Hp) (a : Nat) (x : Int32) : fv n0 (zsF z 651 a x) 10 a = (fv n0 z 10 a).set 11 (.int x) := by simp [fv, zF_sF, zG_sF]
theorem nw_10 (n0 : Nat) (z : Hp) (j : Nat) (hj : j < 12) : defaultValue (tyX11 j) = vp_V (fv n0 (zal z 10 0) 10 (zn z)) j := by
  have h : fv n0 (zal z 10 0) 10 (zn z) = [.null, .null, .null, .null, .null, .null, .int 0, .int 0, .int 0, .int 0, .int 0, .int 0] := by simp [fv, zF_al_self, zG_al_self, rv]
  rw [h]
  rcases (show j = 0 ∨ j = 1 ∨ j = 2 ∨ j = 3 ∨ j = 4 ∨ j = 5 ∨ j = 6 ∨ j = 7 ∨ j = 8 ∨ j = 9 ∨ j = 10 ∨ j = 11 by omega) with rfl | rfl | rfl | rfl | rfl | rfl | rfl | rfl | rfl | rfl | rfl | rfl <;> rfl
theorem st_11_0 (n0 : Nat) (z : Hp) (a : Nat) (x : Int32) : fv n0 (zsF z 704 a x) 11 a = (fv n0 z 11 a).set 0 (.int x) := by simp [fv, zF_sF, zG_sF]
theorem st_11_1 (n0 : Nat) (z : Hp) (a : Nat) (x : Int32) : fv n0 (zsF z 705 a x) 11 a = (fv n0 z 11 a).set 1 (.int x) := by simp [fv, zF_sF, zG_sF]
theorem st_11_2 (n0 : Nat) (z : Hp) (a : Nat) (x : Int32) : fv n0 (zsF z 706 a x) 11 a = (fv n0 z 11 a).set 2 (.int x) := by simp [fv, zF_sF, zG_sF]
theorem st_11_3 (n0 : Nat) (z : Hp) (a : Nat) (x : Option Nat) : fv n0 (zsG z 707 a x) 11 a = (fv n0 z 11 a).set 3 (rv n0 x) := by simp [fv, zF_sG, zG_sG]
theorem st_11_4 (n0 : Nat) (z : Hp) (a : Nat) (x : Option Nat) : fv n0 (zsG z 708 a x) 11 a = (fv n0 z 11 a).set 4 (rv n0 x) := by simp [fv, zF_sG, zG_sG]
theorem st_11_5 (n0 : Nat) (z : Hp) (a : Nat) (x : Option Nat) : fv n0 (zsG z 709 a x) 11 a = (fv n0 z 11 a).set 5 (rv n0 x) := by simp [fv, zF_sG, zG_sG]
theorem st_11_6 (n0 : Nat) (z : Hp) (a : Nat) (x : Option Nat) : fv n0 (zsG z 710 a x) 11 a = (fv n0 z 11 a).set 6 (rv n0 x) := by simp [fv, zF_sG, zG_sG]
theorem st_11_7 (n0 : Nat) (z : Hp) (a : Nat) (x : Int32) : fv n0 (zsF z 711 a x) 11 a = (fv n0 z 11 a).set 7 (.int x) := by simp [fv, zF_sF, zG_sF]
theorem st_11_8 (n0 : Nat) (z : Hp) (a : Nat) (x : Option Nat) : fv n0 (zsG z 712 a x) 11 a = (fv n0 z 11 a).set 8 (rv n0 x) := by simp [fv, zF_sG, zG_sG]
theorem st_11_9 (n0 : Nat) (z : Hp) (a : Nat) (x : Option Nat) : fv n0 (zsG z 713 a x) 11 a = (fv n0 z 11 a).set 9 (rv n0 x) := by simp [fv, zF_sG, zG_sG]
theorem st_11_10 (n0 : Nat) (z : Hp) (a : Nat) (x : Option Nat) : fv n0 (zsG z 714 a x) 11 a = (fv n0 z 11 a).set 10 (rv n0 x) := by simp [fv, zF_sG, zG_sG]
theorem st_11_11 (n0 : Nat) (z : Hp) (a : Nat) (x : Option Nat) : fv n0 (zsG z 715 a x) 11 a = (fv n0 z 11 a).set 11 (rv n0 x) := by simp [fv, zF_sG, zG_sG]
theorem st_11_12 (n0 : Nat) (z : Hp) (a : Nat) (x : Option Nat) : fv n0 (zsG z 716 a x) 11 a = (fv n0 z 11 a).set 12 (rv n0 x) := by simp [fv, zF_sG, zG_sG]
theorem st_11_13 (n0 : Nat) (z : Hp) (a : Nat) (x : Int32) : fv n0 (zsF z 717 a x) 11 a = (fv n0 z 11 a).set 13 (.int x) := by simp [fv, zF_sF, zG_sF]
theorem st_11_14 (n0 : Nat) (z : Hp) (a : Nat) (x : Int32) : fv n0 (zsF z 718 a x) 11 a = (fv n0 z 11 a).set 14 (.int x) := by simp [fv, zF_sF, zG_sF]
theorem st_11_15 (n0 : Nat) (z : Hp) (a : Nat) (x : Int32) : fv n0 (zsF z 719 a x) 11 a = (fv n0 z 11 a).set 15 (.int x) := by simp [fv, zF_sF, zG_sF]
theorem st_11_16 (n0 : Nat) (z : Hp) (a : Nat) (x : Option Nat) : fv n0 (zsG z 720 a x) 11 a = (fv n0 z 11 a).set 16 (rv n0 x) := by simp [fv, zF_sG, zG_sG]
theorem st_11_17 (n0 : Nat) (z : Hp) (a : Nat) (x : Option Nat) : fv n0 (zsG z 721 a x) 11 a = (fv n0 z 11 a).set 17 (rv n0 x) := by simp [fv, zF_sG, zG_sG]
theorem st_11_18 (n0 : Nat) (z : Hp) (a : Nat) (x : Option Nat) : fv n0 (zsG z 722 a x) 11 a = (fv n0 z 11 a).set 18 (rv n0 x) := by simp [fv, zF_sG, zG_sG]
theorem st_11_19 (n0 : Nat) (z : Hp) (a : Nat) (x : Option Nat) : fv n0 (zsG z 723 a x) 11 a = (fv n0 z 11 a).set 19 (rv n0 x) := by simp [fv, zF_sG, zG_sG]
theorem st_11_20 (n0 : Nat) (z : Hp) (a : Nat) (x : Option Nat) : fv n0 (zsG z 724 a x) 11 a = (fv n0 z 11 a).set 20 (rv n0 x) := by simp [fv, zF_sG, zG_sG]
theorem st_11_21 (n0 : Nat) (z : Hp) (a : Nat) (x : Option Nat) : fv n0 (zsG z 725 a x) 11 a = (fv n0 z 11 a).set 21 (rv n0 x) := by simp [fv, zF_sG, zG_sG]
theorem st_11_22 (n0 : Nat) (z : Hp) (a : Nat) (x : Option Nat) : fv n0 (zsG z 726 a x) 11 a = (fv n0 z 11 a).set 22 (rv n0 x) := by simp [fv, zF_sG, zG_sG]
theorem st_11_23 (n0 : Nat) (z : Hp) (a : Nat) (x : Int32) : fv n0 (zsF z 727 a x) 11 a = (fv n0 z 11 a).set 23 (.int x) := by simp [fv, zF_sF, zG_sF]
theorem st_11_24 (n0 : Nat) (z : Hp) (a : Nat) (x : Option Nat) : fv n0 (zsG z 728 a x) 11 a = (fv n0 z 11 a).set 24 (rv n0 x) := by simp [fv, zF_sG, zG_sG]
theorem st_11_25 (n0 : Nat) (z : Hp) (a : Nat) (x : Option Nat) : fv n0 (zsG z 729 a x) 11 a = (fv n0 z 11 a).set 25 (rv n0 x) := by simp [fv, zF_sG, zG_sG]
theorem st_11_26 (n0 : Nat) (z : Hp) (a : Nat) (x : Option Nat) : fv n0 (zsG z 730 a x) 11 a = (fv n0 z 11 a).set 26 (rv n0 x) := by simp [fv, zF_sG, zG_sG]
theorem st_11_27 (n0 : Nat) (z : Hp) (a : Nat) (x : Option Nat) : fv n0 (zsG z 731 a x) 11 a = (fv n0 z 11 a).set 27 (rv n0 x) := by simp [fv, zF_sG, zG_sG]
theorem st_11_28 (n0 : Nat) (z : Hp) (a : Nat) (x : Option Nat) : fv n0 (zsG z 732 a x) 11 a = (fv n0 z 11 a).set 28 (rv n0 x) := by simp [fv, zF_sG, zG_sG]
theorem st_11_29 (n0 : Nat) (z : Hp) (a : Nat) (x : Option Nat) : fv n0 (zsG z 733 a x) 11 a = (fv n0 z 11 a).set 29 (rv n0 x) := by simp [fv, zF_sG, zG_sG]
theorem st_11_30 (n0 : Nat) (z : Hp) (a : Nat) (x : Option Nat) : fv n0 (zsG z 734 a x) 11 a = (fv n0 z 11 a).set 30 (rv n0 x) := by simp [fv, zF_sG, zG_sG]
theorem st_11_31 (n0 : Nat) (z : Hp) (a : Nat) (x : Option Nat) : fv n0 (zsG z 735 a x) 11 a = (fv n0 z 11 a).set 31 (rv n0 x) := by simp [fv, zF_sG, zG_sG]
theorem st_11_32 (n0 : Nat) (z : Hp) (a : Nat) (x : Option Nat) : fv n0 (zsG z 736 a x) 11 a = (fv n0 z 11 a).set 32 (rv n0 x) := by simp [fv, zF_sG, zG_sG]
theorem st_11_33 (n0 : Nat) (z : Hp) (a : Nat) (x : Option Nat) : fv n0 (zsG z 737 a x) 11 a = (fv n0 z 11 a).set 33 (rv n0 x) := by simp [fv, zF_sG, zG_sG]
theorem st_11_34 (n0 : Nat) (z : Hp) (a : Nat) (x : Option Nat) : fv n0 (zsG z 738 a x) 11 a = (fv n0 z 11 a).set 34 (rv n0 x) := by simp [fv, zF_sG, zG_sG]
theorem st_11_35 (n0 : Nat) (z : Hp) (a : Nat) (x : Int32) : fv n0 (zsF z 739 a x) 11 a = (fv n0 z 11 a).set 35 (.int x) := by simp [fv, zF_sF, zG_sF]
theorem st_11_36 (n0 : Nat) (z : Hp) (a : Nat) (x : Option Nat) : fv n0 (zsG z 740 a x) 11 a = (fv n0 z 11 a).set 36 (rv n0 x) := by simp [fv, zF_sG, zG_sG]
theorem st_11_37 (n0 : Nat) (z : Hp) (a : Nat) (x : Int32) : fv n0 (zsF z 741 a x) 11 a = (fv n0 z 11 a).set 37 (.int x) := by simp [fv, zF_sF, zG_sF]
theorem st_11_38 (n0 : Nat) (z : Hp) (a : Nat) (x : Int32) : fv n0 (zsF z 742 a x) 11 a = (fv n0 z 11 a).set 38 (.int x) := by simp [fv, zF_sF, zG_sF]
theorem st_11_39 (n0 : Nat) (z : Hp) (a : Nat) (x : Int32) : fv n0 (zsF z 743 a x) 11 a = (fv n0 z 11 a).set 39 (.int x) := by simp [fv, zF_sF, zG_sF]
theorem st_11_40 (n0 : Nat) (z : Hp) (a : Nat) (x : Int32) : fv n0 (zsF z 744 a x) 11 a = (fv n0 z 11 a).set 40 (.int x) := by simp [fv, zF_sF, zG_sF]
theorem st_11_41 (n0 : Nat) (z : Hp) (a : Nat) (x : Int32) : fv n0 (zsF z 745 a x) 11 a = (fv n0 z 11 a).set 41 (.int x) := by simp [fv, zF_sF, zG_sF]
theorem st_11_42 (n0 : Nat) (z : Hp) (a : Nat) (x : Int32) : fv n0 (zsF z 746 a x) 11 a = (fv n0 z 11 a).set 42 (.int x) := by simp [fv, zF_sF, zG_sF]
theorem st_11_43 (n0 : Nat) (z : Hp) (a : Nat) (x : Int32) : fv n0 (zsF z 747 a x) 11 a = (fv n0 z 11 a).set 43 (.int x) := by simp [fv, zF_sF, zG_sF]
theorem st_11_44 (n0 : Nat) (z : Hp) (a : Nat) (x : Int32) : fv n0 (zsF z 748 a x) 11 a = (fv n0 z 11 a).set 44 (.int x) := by simp [fv, zF_sF, zG_sF]
theorem st_11_45 (n0 : Nat) (z : Hp) (a : Nat) (x : Int32) : fv n0 (zsF z 749 a x) 11 a = (fv n0 z 11 a).set 45 (.int x) := by simp [fv, zF_sF, zG_sF]
theorem st_11_46 (n0 : Nat) (z : Hp) (a : Nat) (x : Int32) : fv n0 (zsF z 750 a x) 11 a = (fv n0 z 11 a).set 46 (.int x) := by simp [fv, zF_sF, zG_sF]
theorem st_11_47 (n0 : Nat) (z : Hp) (a : Nat) (x : Option Nat) : fv n0 (zsG z 751 a x) 11 a = (fv n0 z 11 a).set 47 (rv n0 x) := by simp [fv, zF_sG, zG_sG]
theorem st_11_48 (n0 : Nat) (z : Hp) (a : Nat) (x : Option Nat) : fv n0 (zsG z 752 a x) 11 a = (fv n0 z 11 a).set 48 (rv n0 x) := by simp [fv, zF_sG, zG_sG]
theorem st_11_49 (n0 : Nat) (z : Hp) (a : Nat) (x : Int32) : fv n0 (zsF z 753 a x) 11 a = (fv n0 z 11 a).set 49 (.int x) := by simp [fv, zF_sF, zG_sF]
theorem nw_11 (n0 : Nat) (z : Hp) (j : Nat) (hj : j < 50) : defaultValue (tyX12 j) = vp_V (fv n0 (zal z 11 0) 11 (zn z)) j := by
  have h : fv n0 (zal z 11 0) 11 (zn z) = [.int 0, .int 0, .int 0, .null, .null, .null, .null, .int 0, .null, .null, .null, .null, .null, .int 0, .int 0, .int 0, .null, .null, .null, .null, .null, .null, .null, .int 0, .null, .null, .null, .null, .null, .null, .null, .null, .null, .null, .null, .int 0, .null, .int 0, .int 0, .int 0, .int 0, .int 0, .int 0, .int 0, .int 0, .int 0, .int 0, .null, .null, .int 0] := by simp [fv, zF_al_self, zG_al_self, rv]
  rw [h]
  rcases (show j = 0 ∨ j = 1 ∨ j = 2 ∨ j = 3 ∨ j = 4 ∨ j = 5 ∨ j = 6 ∨ j = 7 ∨ j = 8 ∨ j = 9 ∨ j = 10 ∨ j = 11 ∨ j = 12 ∨ j = 13 ∨ j = 14 ∨ j = 15 ∨ j = 16 ∨ j = 17 ∨ j = 18 ∨ j = 19 ∨ j = 20 ∨ j = 21 ∨ j = 22 ∨ j = 23 ∨ j = 24 ∨ j = 25 ∨ j = 26 ∨ j = 27 ∨ j = 28 ∨ j = 29 ∨ j = 30 ∨ j = 31 ∨ j = 32 ∨ j = 33 ∨ j = 34 ∨ j = 35 ∨ j = 36 ∨ j = 37 ∨ j = 38 ∨ j = 39 ∨ j = 40 ∨ j = 41 ∨ j = 42 ∨ j = 43 ∨ j = 44 ∨ j = 45 ∨ j = 46 ∨ j = 47 ∨ j = 48 ∨ j = 49 by omega) with rfl | rfl | rfl | rfl | rfl | rfl | rfl | rfl | rfl | rfl | rfl | rfl | rfl | rfl | rfl | rfl | rfl | rfl | rfl | rfl | rfl | rfl | rfl | rfl | rfl | rfl | rfl | rfl | rfl | rfl | rfl | rfl | rfl | rfl | rfl | rfl | rfl | rfl | rfl | rfl | rfl | rfl | rfl | rfl | rfl | rfl | rfl | rfl | rfl | rfl <;> rfl
/-- the cell -/
def cE (n0 : Nat) (Y : Nat → ClassId) (z : Hp) (a : Nat) : va_E :=
  if zK z a = 12 ∨ zK z a = 14 then .inl (Y (zK z a), zL z a, .inl (zA z a))
  else if zK z a = 13 then .inl (Y 13, zL z a, .inr (.inl (zJ z a)))
  else if 15 ≤ zK z a then .inl (Y (zK z a), zL z a, .inr (.inr (.inr (.inr (fun j => (zR z a j).map (n0 + ·))))))
  else .inr (zK z a, fv n0 z (zK z a) a)
theorem cE_o {n0 : Nat} {Y : Nat → ClassId} {z : Hp} {a k : Nat} (h : zK z a = k) (hk : k < 12) : cE n0 Y z a = .inr (k, fv n0 z k a) := by
  subst h
  unfold cE
  rw [if_neg (by omega), if_neg (by omega), if_neg (by omega)]
theorem cE_i {n0 : Nat} {Y : Nat → ClassId} {z : Hp} {a : Nat} (h : zK z a = 12) : cE n0 Y z a = .inl (Y 12, zL z a, .inl (zA z a)) := by
  unfold cE
  rw [if_pos (Or.inl h), h]
theorem cE_z {n0 : Nat} {Y : Nat → ClassId} {z : Hp} {a : Nat} (h : zK z a = 14) : cE n0 Y z a = .inl (Y 14, zL z a, .inl (zA z a)) := by
  unfold cE
  rw [if_pos (Or.inr h), h]
theorem cE_j {n0 : Nat} {Y : Nat → ClassId} {z : Hp} {a : Nat} (h : zK z a = 13) : cE n0 Y z a = .inl (Y 13, zL z a, .inr (.inl (zJ z a))) := by
  unfold cE
  rw [if_neg (by omega), if_pos h]
theorem cE_r {n0 : Nat} {Y : Nat → ClassId} {z : Hp} {a k : Nat} (h : zK z a = k) (hk : 15 ≤ k) : cE n0 Y z a = .inl (Y k, zL z a, .inr (.inr (.inr (.inr (fun j => (zR z a j).map (n0 + ·)))))) := by
  subst h
  unfold cE
  rw [if_neg (by omega), if_neg (by omega), if_pos hk]
theorem fv_congr {n0 : Nat} {z z' : Hp} {a : Nat} (k : Nat) (hF : ∀ f, zF z' f a = zF z f a) (hG : ∀ f, zG z' f a = zG z f a) : fv n0 z' k a = fv n0 z k a := by
  unfold fv
  split <;> simp only [hF, hG]
theorem cE_congr {n0 : Nat} {Y : Nat → ClassId} {z z' : Hp} {a : Nat} (hK : zK z' a = zK z a) (hL : zL z' a = zL z a) (hF : ∀ f, zF z' f a = zF z f a) (hG : ∀ f, zG z' f a = zG z f a) (hA : zA z' a = zA z a) (hJ : zJ z' a = zJ z a) (hR : zR z' a = zR z a) : cE n0 Y z' a = cE n0 Y z a := by
  unfold cE
  rw [hK, hL, hA, hJ, hR, fv_congr (zK z a) hF hG]
/-- the heap H holds z from n0 on -/
def Rp (n0 : Nat) (D : va_G) (Y : Nat → ClassId) (z : Hp) (H : Heap) : Prop := H.size = n0 + zn z ∧ ∀ a, a < zn z → va_at D vwCl (n0 + a, cE n0 Y z a) H
/-- what the tables say -/
def KK (D : va_G) (Y : Nat → ClassId) (U : State) : Prop :=
  va_K D vwCl [(Y 12, .int), (Y 13, .long), (Y 14, .boolean), (Y 15, .object RX0), (Y 16, .object RX3), (Y 17, .object RX6), (Y 18, .object RX9)] U ∧
  (va_AO RX0 U ∧ va_AO RX3 U ∧ va_AO RX6 U ∧ va_AO RX9 U) ∧
  (va_Nc RX1 RX6 U ∧ va_Nc RX8 RX6 U ∧ va_Nc RX6 RX1 U ∧ va_Nc RX8 RX1 U ∧ va_Nc RX1 RX8 U ∧ va_Nc RX6 RX8 U) ∧
  (va_Nw (.castable RX6 RX3) U ∧ va_Nw (.castable RX1 RX3) U ∧ va_Nw (.castable RX8 RX3) U) ∧
  va_Nw (.methodLinkNest RX11 82 yX0_init RX11) U
theorem KK.warm {D : va_G} {Y : Nat → ClassId} {s U : State} (hW : s.WarmedH U.vm) (h : KK D Y s) : KK D Y U :=
  ⟨va_K.moved hW.alike h.1, ⟨va_AO.moved hW.alike h.2.1.1, va_AO.moved hW.alike h.2.1.2.1, va_AO.moved hW.alike h.2.1.2.2.1, va_AO.moved hW.alike h.2.1.2.2.2⟩,
   ⟨va_Nc.moved hW.alike h.2.2.1.1, va_Nc.moved hW.alike h.2.2.1.2.1, va_Nc.moved hW.alike h.2.2.1.2.2.1, va_Nc.moved hW.alike h.2.2.1.2.2.2.1, va_Nc.moved hW.alike h.2.2.1.2.2.2.2.1, va_Nc.moved hW.alike h.2.2.1.2.2.2.2.2⟩,
   ⟨va_Nw.warmC hW h.2.2.2.1.1, va_Nw.warmC hW h.2.2.2.1.2.1, va_Nw.warmC hW h.2.2.2.1.2.2⟩, va_Nw.warmM hW h.2.2.2.2⟩
theorem KK.same {D : va_G} {Y : Nat → ClassId} {U V : State} (e : U.vm = V.vm) (h : KK D Y U) : KK D Y V := by
  have a : U.vm.Alike V.vm := e ▸ Vm.Alike.refl U.vm
  exact ⟨va_K.moved a h.1, ⟨va_AO.moved a h.2.1.1, va_AO.moved a h.2.1.2.1, va_AO.moved a h.2.1.2.2.1, va_AO.moved a h.2.1.2.2.2⟩,
   ⟨va_Nc.moved a h.2.2.1.1, va_Nc.moved a h.2.2.1.2.1, va_Nc.moved a h.2.2.1.2.2.1, va_Nc.moved a h.2.2.1.2.2.2.1, va_Nc.moved a h.2.2.1.2.2.2.2.1, va_Nc.moved a h.2.2.1.2.2.2.2.2⟩,
   ⟨va_Nw.same rfl e h.2.2.2.1.1, va_Nw.same rfl e h.2.2.2.1.2.1, va_Nw.same rfl e h.2.2.2.1.2.2⟩, va_Nw.same rfl e h.2.2.2.2⟩
def AA (n0 : Nat) : Nat → Prop := fun q => n0 ≤ q
/-- the world: the heap holds z, nothing below n0 has changed -/
def Wd (n0 : Nat) (D : va_G) (Y : Nat → ClassId) (z : Hp) (s : State) (H : Heap) (locs : List Loc) : Prop := Rp n0 D Y z H ∧ va_S (AA n0) s.heap H locs
/-- what holds all through a method's body -/
def Cx (n0 : Nat) (D : va_G) (Y : Nat → ClassId) (own : String) (cc : ByteArray) (ret : Option FieldType) (mL : Nat) (ws : List Cond) (nm : String) (p : Program) (s : State) (m : MethodId) (args : Array Value) (meth : Method) (c : Code) : Prop :=
  p.tables.exec = Jvm.exec ∧ c.code = cc ∧ meth.sig.returnType = ret ∧ c.maxLocals = mL ∧ s.vm.findClass own = some m.cls ∧ (∀ w ∈ ws, w.before args s = true) ∧ meth.locks = false ∧ meth.name = nm ∧ KK D Y s
-- the words of the functions
noncomputable def gd {α : Type} (c : Prop) (k : Option α) : Option α := @ite _ c (Classical.propDecidable c) k none
theorem gdE {α : Type} {c : Prop} {k : Option α} {x : α} (h : gd c k = some x) : c ∧ k = some x := by
  unfold gd at h
  by_cases hc : c
  · rw [if_pos hc] at h; exact ⟨hc, h⟩
  · rw [if_neg hc] at h; cases h
theorem gd_t {α : Type} {c : Prop} {k : Option α} (h : c) : gd c k = k := if_pos h
noncomputable def br {α : Type} (c : Prop) (A B : Option α) : Option α := @ite _ c (Classical.propDecidable c) A B
theorem br_y {α : Type} {c : Prop} {A B : Option α} (h : c) : br c A B = A := if_pos h
theorem br_n {α : Type} {c : Prop} {A B : Option α} (h : ¬ c) : br c A B = B := if_neg h
theorem brT {α : Type} {c : Prop} {A B : Option α} {x : Option α} (h : br c A B = x) (hc : c) : A = x := by rw [br_y hc] at h; exact h
theorem brF {α : Type} {c : Prop} {A B : Option α} {x : Option α} (h : br c A B = x) (hc : ¬ c) : B = x := by rw [br_n hc] at h; exact h
def bd {α β : Type} (x : α) (k : α → β) : β := k x
theorem bdE {α β : Type} {x : α} {k : α → β} {r : β} (h : bd x k = r) : ∃ y, y = x ∧ k y = r := ⟨x, rfl, h⟩
def bo {α β : Type} (x : Option α) (k : α → Option β) : Option β := match x with
  | none => none
  | some a => k a
theorem boE {α β : Type} {x : Option α} {k : α → Option β} {r : β} (h : bo x k = some r) : ∃ y, x = some y ∧ k y = some r := by
  cases x with
  | none => cases h
  | some a => exact ⟨a, rfl, h⟩
def bp {α β γ : Type} (x : Option (α × β)) (k : α → β → Option γ) : Option γ := match x with
  | none => none
  | some w => k w.1 w.2
theorem bpE {α β γ : Type} {x : Option (α × β)} {k : α → β → Option γ} {r : γ} (h : bp x k = some r) : ∃ a b, x = some (a, b) ∧ k a b = some r := by
  cases x with
  | none => cases h
  | some w => exact ⟨w.1, w.2, rfl, h⟩
def irm (x y : Int32) : Int32 := x - x / y * y
theorem ok_new (z : Hp) (k n : Nat) : zn z < zn (zal z k n) ∧ zK (zal z k n) (zn z) = k := ⟨Nat.lt_succ_self _, va_up_self _ _ _⟩
theorem ok_al {z : Hp} {a k : Nat} (k' n : Nat) (g : a < zn z ∧ zK z a = k) : a < zn (zal z k' n) ∧ zK (zal z k' n) a = k := ⟨Nat.lt_succ_of_lt g.1, by rw [← g.2]; exact va_up_ne _ _ (Nat.ne_of_lt g.1)⟩
def cs {α : Type} (r : Option Nat) (A : Option α) (B : Nat → Option α) : Option α := match r with
  | none => A
  | some a => B a
theorem csN {α : Type} {A : Option α} {B : Nat → Option α} {x : Option α} (h : cs none A B = x) : A = x := h
theorem csS {α : Type} {a : Nat} {A : Option α} {B : Nat → Option α} {x : Option α} (h : cs (some a) A B = x) : B a = x := h
def lf {α β : Type} (x : Option α) : Option (β ⊕ α) := match x with
  | none => none
  | some a => some (.inr a)
theorem lfE {α β : Type} {x : Option α} {y : β ⊕ α} (h : lf x = some y) : ∃ r, x = some r ∧ y = .inr r := by
  cases x with
  | none => cases h
  | some a => cases h; exact ⟨a, rfl, rfl⟩
def wh {S R : Type} (f : S → Option (S ⊕ R)) : Nat → S → Option R
  | 0, _ => none
  | n + 1, s => match f s with
    | none => none
    | some (.inl s') => wh f n s'
    | some (.inr r) => some r
def Fn {S R : Type} (P : S → Prop) (G : R → Prop) : S ⊕ R → Prop
  | .inl s => P s
  | .inr r => G r
theorem lfX {α β : Type} {x : Option α} {y : β ⊕ α} {P : β → Prop} {G : α → Prop} (h : lf x = some y) (hF : Fn P G y) : ∃ r, x = some r ∧ G r := by
  cases x with
  | none => cases h
  | some a => cases h; exact ⟨a, rfl, hF⟩
theorem wh_ind {S R : Type} {f : S → Option (S ⊕ R)} {P : S → Prop} {G : R → Prop} (hs : ∀ s x, f s = some x → Fn P G x → P s) : ∀ n s r, wh f n s = some r → G r → P s := by
  intro n
  induction n with
  | zero => intro s r h; cases h
  | succ n ih =>
    intro s r h hG
    cases hf : f s with
    | none => simp only [wh, hf] at h; cases h
    | some x =>
      cases x with
      | inl s' => simp only [wh, hf] at h; exact hs s _ hf (ih s' r h hG)
      | inr r' => simp only [wh, hf] at h; cases h; exact hs s _ hf hG
-- contracts
def PreC (n0 : Nat) (D : va_G) (Y : Nat → ClassId) (z : Hp) (av : List Value) : Array Value → State → Prop := va_Pc av (fun U => Rp n0 D Y z U.heap ∧ KK D Y U)
def PosI (n0 : Nat) (D : va_G) (Y : Nat → ClassId) (z : Hp) (r : Int32) : Array Value → State → Outcome → State → Prop := va_Qi (fun (r' : Int32) (_ : Unit) => r' = r) (fun _ t => Rp n0 D Y z t.heap) (AA n0)
def PosV (n0 : Nat) (D : va_G) (Y : Nat → ClassId) (z : Hp) : Array Value → State → Outcome → State → Prop := va_Qv (fun (_ : Unit) => True) (fun _ t => Rp n0 D Y z t.heap) (AA n0)
def PosQ (n0 : Nat) (D : va_G) (Y : Nat → ClassId) (z : Hp) (r : Option Nat) : Array Value → State → Outcome → State → Prop := va_Qq (fun (r' : Option Nat) (_ : Unit) => r' = r.map (n0 + ·)) (fun _ t => Rp n0 D Y z t.heap) (AA n0)
theorem PreC.blind {n0 : Nat} {D : va_G} {Y : Nat → ClassId} {z : Hp} {av : List Value} : FrameBlind (PreC n0 D Y z av) := fun _ U g mk h => ⟨h.1, h.2.1, KK.same (U := U) rfl h.2.2⟩
theorem Rp.le {n0 : Nat} {D : va_G} {Y : Nat → ClassId} {z : Hp} {H : Heap} (h : Rp n0 D Y z H) : n0 ≤ H.size := by rw [h.1]; omega
section
variable {n0 : Nat} {D : va_G} {Y : Nat → ClassId} {own nm : String} {cc : ByteArray} {ret : Option FieldType} {mL : Nat} {ws : List Cond} {z z' : Hp}
variable {p : Program} {l : Launch} {e : Env} {R : Room} {s : State} {m : MethodId} {args : Array Value} {below : List Frame} {meth : Method} {c : Code} {H : Heap} {locs : List Loc} {cells slots : Nat} {Q : State → Prop} {pc : Nat} {ls : Array Slot} {rest : List Value} {a : Nat}
theorem Wd.at (hw : Wd n0 D Y z s H locs) (h : a < zn z) : va_at D vwCl (n0 + a, cE n0 Y z a) H := hw.1.2 a h
theorem Wd.one (hw : Wd n0 D Y z s H locs) (h : a < zn z) {x : va_E} (e : cE n0 Y z a = x) : va_P D vwCl [(n0 + a, x)] H := by
  intro k q hk
  have hz : k < 1 := (List.getElem?_eq_some_iff.mp hk).1
  rw [show k = 0 by omega] at hk
  cases hk
  rw [← e]
  exact hw.at h
/-- a cell is written -/
theorem Wd.put (hw : Wd n0 D Y z s H locs) (ha : a < zn z) {H' : Heap} {k : Nat} (hn : zn z' = zn z) (ho : ∀ b, b ≠ a → cE n0 Y z' b = cE n0 Y z b) (h1 : va_at D vwCl (n0 + a, cE n0 Y z' a) H') (hz : H'.size = H.size) (oq : ∀ q, q ≠ n0 + a → H'[q]? = H[q]?) : Wd n0 D Y z' s H' (locs ++ [⟨n0 + a, k⟩]) := by
  refine ⟨⟨by rw [hz, hw.1.1, hn], fun b hb => ?_⟩, hw.2.put hz oq (Nat.le_add_right n0 a)⟩
  by_cases h : b = a
  · subst h; exact h1
  · rw [ho b h]
    exact (hw.at (by omega)).kept (oq _ (fun (q : n0 + b = n0 + a) => h (by omega)))
/-- a cell is made -/
theorem Wd.new (hw : Wd n0 D Y z s H locs) {H' : Heap} {k len : Nat} (h1 : va_at D vwCl (n0 + zn z, cE n0 Y (zal z k len) (zn z)) H') (hz : H'.size = H.size + 1) (oq : ∀ q, q < H.size → H'[q]? = H[q]?) : Wd n0 D Y (zal z k len) s H' locs := by
  refine ⟨⟨by rw [hz, hw.1.1]; rfl, fun b hb => ?_⟩, Nat.le_trans hw.2.1 (by omega), fun q h1 h2 => (oq q (Nat.lt_of_lt_of_le h1 hw.2.1)).trans (hw.2.2.1 q h1 h2), hw.2.2.2⟩
  by_cases h : b = zn z
  · subst h; exact h1
  · have hb' : b < zn z := by have : zn (zal z k len) = zn z + 1 := rfl; omega
    have hc : cE n0 Y (zal z k len) b = cE n0 Y z b := by
      refine cE_congr ?_ ?_ (fun f => ?_) (fun f => ?_) ?_ ?_ ?_
      · exact va_up_ne _ _ h
      · exact va_up_ne _ _ h
      · show (if b = zn z then _ else _) = _; rw [if_neg h]
      · show (if b = zn z then _ else _) = _; rw [if_neg h]
      · funext i; show (if b = zn z then _ else _) = _; rw [if_neg h]
      · funext i; show (if b = zn z then _ else _) = _; rw [if_neg h]
      · funext i; show (if b = zn z then _ else _) = _; rw [if_neg h]
    rw [hc]
    exact (hw.at hb').kept (oq _ (by rw [hw.1.1]; show n0 + b < n0 + zn z; omega))
theorem cE_sF {f b : Nat} {x : Int32} (h : b ≠ a) : cE n0 Y (zsF z f a x) b = cE n0 Y z b := cE_congr rfl rfl (fun g => by rw [zF_sF, if_neg (fun q => h q.2)]) (fun _ => rfl) rfl rfl rfl
theorem cE_sG {f b : Nat} {x : Option Nat} (h : b ≠ a) : cE n0 Y (zsG z f a x) b = cE n0 Y z b := cE_congr rfl rfl (fun _ => rfl) (fun g => by rw [zG_sG, if_neg (fun q => h q.2)]) rfl rfl rfl
theorem cE_sA {i b : Nat} {x : Int32} (h : b ≠ a) : cE n0 Y (zsA z a i x) b = cE n0 Y z b := cE_congr rfl rfl (fun _ => rfl) (fun _ => rfl) (by funext j; show u2 _ _ _ _ b j = _; unfold u2; rw [if_neg (fun q => h q.1)]) rfl rfl
theorem cE_sJ {i b : Nat} {x : Int64} (h : b ≠ a) : cE n0 Y (zsJ z a i x) b = cE n0 Y z b := cE_congr rfl rfl (fun _ => rfl) (fun _ => rfl) rfl (by funext j; show u2 _ _ _ _ b j = _; unfold u2; rw [if_neg (fun q => h q.1)]) rfl
theorem cE_sR {i b : Nat} {x : Option Nat} (h : b ≠ a) : cE n0 Y (zsR z a i x) b = cE n0 Y z b := cE_congr rfl rfl (fun _ => rfl) (fun _ => rfl) rfl rfl (by funext j; show u2 _ _ _ _ b j = _; unfold u2; rw [if_neg (fun q => h q.1)])
-- ROWS
theorem r_get (C : Cx n0 D Y own cc ret mL ws nm p s m args meth c) (hw : Wd n0 D Y z s H locs) {ki : Nat} (g : a < zn z ∧ zK z a = ki) (h12 : ki < 12) {ref Cn : String} {T : u_T} {N index : Nat} (hc : vwCl[ki]? = some (Cn, T, N)) (hin : ∀ w ∈ u_ws Cn T N, w ∈ ws) (k : Nat) (hk : k < N) (hl : Cond.fieldLink own index ref (T k).2.1 (T k).2.2.1 ∈ ws) (hsame : ∀ x, s.fieldFound? (T k).1 (T k).2.1 (T k).2.2.1 = some x → s.fieldFound? ref (T k).2.1 (T k).2.2.1 = some x) {v : Value} (hv : (fv n0 z ki a)[k]? = some v) (hdg : decode cc pc = .ok (.getfield index, 3))
    (kk : W p l e R s m args below meth c H locs cells slots Q (F0 m (pc + 3) ls (v :: rest))) : W p l e R s m args below meth c H locs cells slots Q (F0 m pc ls (.ref (n0 + a) :: rest)) :=
  va_get C.1 C.2.1 C.2.2.2.2.2.1 hin C.2.2.2.2.1 C.2.2.2.2.2.2.2.2.1 (hw.one g.1 (cE_o g.2 h12)) 0 rfl hc k hk (C.2.2.2.2.2.1 _ hl) hsame hv hdg kk
/-- a field of Entry, of a lot, a batch or a search -/
theorem r_getE (C : Cx n0 D Y own cc ret mL ws nm p s m args meth c) (hw : Wd n0 D Y z s H locs) (g : a < zn z ∧ (zK z a = 1 ∨ zK z a = 5 ∨ zK z a = 7)) {ref : String} {index : Nat} (h1 : ∀ w ∈ wsX10, w ∈ ws) (h5 : ∀ w ∈ wsX60, w ∈ ws) (h7 : ∀ w ∈ wsX80, w ∈ ws) (k : Nat) (hk : k < 4) (hl : Cond.fieldLink own index ref (TX6 k).2.1 (TX6 k).2.2.1 ∈ ws) (hsame : ∀ x, s.fieldFound? (TX6 k).1 (TX6 k).2.1 (TX6 k).2.2.1 = some x → s.fieldFound? ref (TX6 k).2.1 (TX6 k).2.2.1 = some x) (hdg : decode cc pc = .ok (.getfield index, 3))
    (kk : W p l e R s m args below meth c H locs cells slots Q (F0 m (pc + 3) ls (.int (zF z (768 + k) a) :: rest))) : W p l e R s m args below meth c H locs cells slots Q (F0 m pc ls (.ref (n0 + a) :: rest)) := by
  obtain ⟨g0, g1 | g1 | g1⟩ := g
  · rcases (show k = 0 ∨ k = 1 ∨ k = 2 ∨ k = 3 by omega) with rfl | rfl | rfl | rfl
    · exact r_get C hw ⟨g0, g1⟩ (by decide) (Cn := RX1) (T := TX1) (N := 9) rfl h1 0 (by decide) hl hsame rfl hdg kk
    · exact r_get C hw ⟨g0, g1⟩ (by decide) (Cn := RX1) (T := TX1) (N := 9) rfl h1 1 (by decide) hl hsame rfl hdg kk
    · exact r_get C hw ⟨g0, g1⟩ (by decide) (Cn := RX1) (T := TX1) (N := 9) rfl h1 2 (by decide) hl hsame rfl hdg kk
    · exact r_get C hw ⟨g0, g1⟩ (by decide) (Cn := RX1) (T := TX1) (N := 9) rfl h1 3 (by decide) hl hsame rfl hdg kk
  · rcases (show k = 0 ∨ k = 1 ∨ k = 2 ∨ k = 3 by omega) with rfl | rfl | rfl | rfl
    · exact r_get C hw ⟨g0, g1⟩ (by decide) (Cn := RX6) (T := TX6) (N := 8) rfl h5 0 (by decide) hl hsame rfl hdg kk
    · exact r_get C hw ⟨g0, g1⟩ (by decide) (Cn := RX6) (T := TX6) (N := 8) rfl h5 1 (by decide) hl hsame rfl hdg kk
    · exact r_get C hw ⟨g0, g1⟩ (by decide) (Cn := RX6) (T := TX6) (N := 8) rfl h5 2 (by decide) hl hsame rfl hdg kk
    · exact r_get C hw ⟨g0, g1⟩ (by decide) (Cn := RX6) (T := TX6) (N := 8) rfl h5 3 (by decide) hl hsame rfl hdg kk
  · rcases (show k = 0 ∨ k = 1 ∨ k = 2 ∨ k = 3 by omega) with rfl | rfl | rfl | rfl
    · exact r_get C hw ⟨g0, g1⟩ (by decide) (Cn := RX8) (T := TX8) (N := 10) rfl h7 0 (by decide) hl hsame rfl hdg kk
    · exact r_get C hw ⟨g0, g1⟩ (by decide) (Cn := RX8) (T := TX8) (N := 10) rfl h7 1 (by decide) hl hsame rfl hdg kk
    · exact r_get C hw ⟨g0, g1⟩ (by decide) (Cn := RX8) (T := TX8) (N := 10) rfl h7 2 (by decide) hl hsame rfl hdg kk
    · exact r_get C hw ⟨g0, g1⟩ (by decide) (Cn := RX8) (T := TX8) (N := 10) rfl h7 3 (by decide) hl hsame rfl hdg kk
theorem r_put0 (C : Cx n0 D Y own cc ret mL ws nm p s m args meth c) (hw : Wd n0 D Y z s H locs) {ki : Nat} (g : a < zn z ∧ zK z a = ki) (h12 : ki < 12) {ref Cn : String} {T : u_T} {N index : Nat} (hc : vwCl[ki]? = some (Cn, T, N)) (hin : ∀ w ∈ u_ws Cn T N, w ∈ ws) (ty0 : Nat → FieldType) (hty : ∀ k, k < N → parseFieldDescriptor (T k).2.2.1 = some (ty0 k)) (hnm : ∀ a, a < N → ∀ b, b < N → a ≠ b → (T a).2.1 ≠ (T b).2.1) (k : Nat) (hk : k < N) (hl : Cond.fieldLink own index ref (T k).2.1 (T k).2.2.1 ∈ ws) (hsame : ∀ x, s.fieldFound? (T k).1 (T k).2.1 (T k).2.2.1 = some x → s.fieldFound? ref (T k).2.1 (T k).2.2.1 = some x) (hfin : (T k).2.2.2 = false ∨ ((T k).2.2.2 = true ∧ nm = "<init>" ∧ (T k).1 = own)) {ty : FieldType} {v : Value} (hd : parseFieldDescriptor (T k).2.2.1 = some ty) (hn : narrow ty v = v) (hfit : fits ty v = true) (hlen : k < (fv n0 z ki a).length)
    (en : zn z' = zn z) (eK : zK z' a = zK z a) (ev : fv n0 z' ki a = (fv n0 z ki a).set k v) (eo : ∀ b, b ≠ a → cE n0 Y z' b = cE n0 Y z b) (hdg : decode cc pc = .ok (.putfield index, 3))
    (kk : ∀ (H : Heap) (locs : List Loc), Wd n0 D Y z' s H locs → W p l e R s m args below meth c H locs cells slots Q (F0 m (pc + 3) ls rest)) : W p l e R s m args below meth c H locs cells slots Q (F0 m pc ls (v :: .ref (n0 + a) :: rest)) := by
  have hts := C.2.2.2.2.2.1
  have hown := C.2.2.2.2.1
  have hK := C.2.2.2.2.2.2.2.2.1
  have hlink := hts _ hl
  have hap := va_apart (own := own) hts hin ty0 hty hnm hK hc
  have hat := hw.at g.1
  rw [cE_o g.2 h12] at hat
  obtain ⟨r, h1, cell, q1, q2, q3, q4⟩ := hat
  have hr : r = (Cn, T, N) := Option.some.inj (h1.symm.trans hc)
  subst hr
  obtain ⟨hS, hfc, kC, hkC, hkind⟩ := hK.1 ki _ hc
  obtain ⟨cf, kf, fi, f, hi, hsl⟩ := hS k hk
  have hlay := hts _ (hin _ (u_in_lay hk))
  unfold u_lay at hlay
  have hst := (u_facts hfc hkC (u_lays hts hin hk) hi).1
  have done : ∀ H' : Heap, H'[n0 + a]? = some (cell.setSlot f.slot v) → H'.size = H.size → (∀ q, q ≠ n0 + a → H'[q]? = H[q]?) → Wd n0 D Y z' s H' (locs ++ [⟨n0 + a, f.slot⟩]) := by
    intro H' e1 e2 e3
    refine hw.put g.1 en eo ?_ e2 e3
    rw [cE_o (eK.trans g.2) h12, ev]
    rw [hsl] at e1
    exact ⟨_, hc, t_OB.to (V := updV (vp_V (fv n0 z ki a)) k v) ⟨_, e1, q2, q3, t_set q4 hap hk v⟩ (fun j _ => vp_updV_set hlen v j)⟩
  rcases hfin with hfin | ⟨hfin, hin2, hdecl⟩
  · rw [if_neg (by rw [hfin]; decide)] at hlay
    have h6 := u_store hfc hkC hkind hlay hi hd hn hfit
    refine W.putK C.1 C.2.1 (f := f) ⟨hown, hlink, ⟨_, _, _, hsame _ hi⟩, hst⟩ (by rw [q2]; exact h6) q1 q3 (by rw [hsl]; exact k2_hasslot (q4 k hk)) rfl rfl hdg fun H' e1 e2 e3 => ?_
    exact kk H' _ (done H' e1 e2 e3)
  · rw [if_pos hfin] at hlay
    have hcf : m.cls = cf := by
      obtain ⟨_, _, c', _, _, _, -, -, hf', -, -, -, hown2, -⟩ := Cond.laysFinal_spec hlay
      have e1 : c' = cf := by have := hi.symm.trans hf'; simp at this; exact this.1.symm
      rw [hdecl] at hown2
      rw [← e1]; exact Option.some.inj (hown.symm.trans hown2)
    have h6 := u_fits hfc hkC hkind (Or.inr hlay) hi hd hn hfit
    refine W.putFinK C.1 C.2.1 hown hlink (hsame _ hi) hst hcf (C.2.2.2.2.2.2.2.1.trans hin2) (by rw [q2]; exact h6) q1 q3 (by rw [hsl]; exact k2_hasslot (q4 k hk)) rfl rfl hdg fun H' e1 e2 e3 => ?_
    exact kk H' _ (done H' e1 e2 e3)
theorem r_putI (C : Cx n0 D Y own cc ret mL ws nm p s m args meth c) (hw : Wd n0 D Y z s H locs) {ki : Nat} (g : a < zn z ∧ zK z a = ki) (h12 : ki < 12) {ref Cn : String} {T : u_T} {N index : Nat} (hc : vwCl[ki]? = some (Cn, T, N)) (hin : ∀ w ∈ u_ws Cn T N, w ∈ ws) (ty0 : Nat → FieldType) (hty : ∀ k, k < N → parseFieldDescriptor (T k).2.2.1 = some (ty0 k)) (hnm : ∀ a, a < N → ∀ b, b < N → a ≠ b → (T a).2.1 ≠ (T b).2.1) (k : Nat) (hk : k < N) (hl : Cond.fieldLink own index ref (T k).2.1 (T k).2.2.1 ∈ ws) (hsame : ∀ x, s.fieldFound? (T k).1 (T k).2.1 (T k).2.2.1 = some x → s.fieldFound? ref (T k).2.1 (T k).2.2.1 = some x) (hfin : (T k).2.2.2 = false ∨ ((T k).2.2.2 = true ∧ nm = "<init>" ∧ (T k).1 = own)) {ty : FieldType} {f : Nat} {x : Int32} (hd : parseFieldDescriptor (T k).2.2.1 = some ty) (hn : narrow ty (.int x) = .int x) (hfit : fits ty (.int x) = true) (hlen : k < (fv n0 z ki a).length)
    (st : fv n0 (zsF z f a x) ki a = (fv n0 z ki a).set k (.int x)) (ez : z' = zsF z f a x) (hdg : decode cc pc = .ok (.putfield index, 3))
    (kk : ∀ (H : Heap) (locs : List Loc), Wd n0 D Y z' s H locs → W p l e R s m args below meth c H locs cells slots Q (F0 m (pc + 3) ls rest)) : W p l e R s m args below meth c H locs cells slots Q (F0 m pc ls (.int x :: .ref (n0 + a) :: rest)) := by
  subst ez
  exact r_put0 (z' := zsF z f a x) C hw g h12 hc hin ty0 hty hnm k hk hl hsame hfin hd hn hfit hlen rfl rfl st (fun b hb => cE_sF hb) hdg kk
theorem r_putG (C : Cx n0 D Y own cc ret mL ws nm p s m args meth c) (hw : Wd n0 D Y z s H locs) {ki : Nat} (g : a < zn z ∧ zK z a = ki) (h12 : ki < 12) {ref Cn : String} {T : u_T} {N index : Nat} (hc : vwCl[ki]? = some (Cn, T, N)) (hin : ∀ w ∈ u_ws Cn T N, w ∈ ws) (ty0 : Nat → FieldType) (hty : ∀ k, k < N → parseFieldDescriptor (T k).2.2.1 = some (ty0 k)) (hnm : ∀ a, a < N → ∀ b, b < N → a ≠ b → (T a).2.1 ≠ (T b).2.1) (k : Nat) (hk : k < N) (hl : Cond.fieldLink own index ref (T k).2.1 (T k).2.2.1 ∈ ws) (hsame : ∀ x, s.fieldFound? (T k).1 (T k).2.1 (T k).2.2.1 = some x → s.fieldFound? ref (T k).2.1 (T k).2.2.1 = some x) (hfin : (T k).2.2.2 = false ∨ ((T k).2.2.2 = true ∧ nm = "<init>" ∧ (T k).1 = own)) {ty : FieldType} {f b : Nat} (hd : parseFieldDescriptor (T k).2.2.1 = some ty) (hn : narrow ty (.ref (n0 + b)) = .ref (n0 + b)) (hfit : fits ty (.ref (n0 + b)) = true) (hlen : k < (fv n0 z ki a).length)
    (st : fv n0 (zsG z f a (some b)) ki a = (fv n0 z ki a).set k (rv n0 (some b))) (ez : z' = zsG z f a (some b)) (hdg : decode cc pc = .ok (.putfield index, 3))
    (kk : ∀ (H : Heap) (locs : List Loc), Wd n0 D Y z' s H locs → W p l e R s m args below meth c H locs cells slots Q (F0 m (pc + 3) ls rest)) : W p l e R s m args below meth c H locs cells slots Q (F0 m pc ls (.ref (n0 + b) :: .ref (n0 + a) :: rest)) := by
  subst ez
  exact r_put0 (z' := zsG z f a (some b)) C hw g h12 hc hin ty0 hty hnm k hk hl hsame hfin hd hn hfit hlen rfl rfl st (fun b hb => cE_sG hb) hdg kk
/-- a field of Entry, written in its constructor -/
theorem r_putE (C : Cx n0 D Y RX3 cc ret mL ws "<init>" p s m args meth c) (hw : Wd n0 D Y z s H locs) (g : a < zn z ∧ (zK z a = 1 ∨ zK z a = 5 ∨ zK z a = 7)) {index : Nat} (h1 : ∀ w ∈ wsX10, w ∈ ws) (h5 : ∀ w ∈ wsX60, w ∈ ws) (h7 : ∀ w ∈ wsX80, w ∈ ws) (k : Nat) (hk : k < 4) (hl : Cond.fieldLink RX3 index "BreadLaw$Entry" (TX6 k).2.1 (TX6 k).2.2.1 ∈ ws) {x : Int32} (ez : z' = zsF z (768 + k) a x) (hdg : decode cc pc = .ok (.putfield index, 3))
    (kk : ∀ (H : Heap) (locs : List Loc), Wd n0 D Y z' s H locs → W p l e R s m args below meth c H locs cells slots Q (F0 m (pc + 3) ls rest)) : W p l e R s m args below meth c H locs cells slots Q (F0 m pc ls (.int x :: .ref (n0 + a) :: rest)) := by
  obtain ⟨g0, g1 | g1 | g1⟩ := g
  · rcases (show k = 0 ∨ k = 1 ∨ k = 2 ∨ k = 3 by omega) with rfl | rfl | rfl | rfl
    · exact r_putI C hw ⟨g0, g1⟩ (by decide) (Cn := RX1) (T := TX1) (N := 9) rfl h1 tyX1 tyX1_ok nmX1 0 (by decide) hl (fun _ h => h) (Or.inr ⟨rfl, rfl, rfl⟩) (ty := .int) (by decide +kernel) rfl rfl (Nat.le_of_ble_eq_true rfl) (st_1_0 n0 z a x) ez hdg kk
    · exact r_putI C hw ⟨g0, g1⟩ (by decide) (Cn := RX1) (T := TX1) (N := 9) rfl h1 tyX1 tyX1_ok nmX1 1 (by decide) hl (fun _ h => h) (Or.inr ⟨rfl, rfl, rfl⟩) (ty := .int) (by decide +kernel) rfl rfl (Nat.le_of_ble_eq_true rfl) (st_1_1 n0 z a x) ez hdg kk
    · exact r_putI C hw ⟨g0, g1⟩ (by decide) (Cn := RX1) (T := TX1) (N := 9) rfl h1 tyX1 tyX1_ok nmX1 2 (by decide) hl (fun _ h => h) (Or.inr ⟨rfl, rfl, rfl⟩) (ty := .int) (by decide +kernel) rfl rfl (Nat.le_of_ble_eq_true rfl) (st_1_2 n0 z a x) ez hdg kk
    · exact r_putI C hw ⟨g0, g1⟩ (by decide) (Cn := RX1) (T := TX1) (N := 9) rfl h1 tyX1 tyX1_ok nmX1 3 (by decide) hl (fun _ h => h) (Or.inr ⟨rfl, rfl, rfl⟩) (ty := .int) (by decide +kernel) rfl rfl (Nat.le_of_ble_eq_true rfl) (st_1_3 n0 z a x) ez hdg kk
  · rcases (show k = 0 ∨ k = 1 ∨ k = 2 ∨ k = 3 by omega) with rfl | rfl | rfl | rfl
    · exact r_putI C hw ⟨g0, g1⟩ (by decide) (Cn := RX6) (T := TX6) (N := 8) rfl h5 tyX6 tyX6_ok nmX6 0 (by decide) hl (fun _ h => h) (Or.inr ⟨rfl, rfl, rfl⟩) (ty := .int) (by decide +kernel) rfl rfl (Nat.le_of_ble_eq_true rfl) (st_5_0 n0 z a x) ez hdg kk
    · exact r_putI C hw ⟨g0, g1⟩ (by decide) (Cn := RX6) (T := TX6) (N := 8) rfl h5 tyX6 tyX6_ok nmX6 1 (by decide) hl (fun _ h => h) (Or.inr ⟨rfl, rfl, rfl⟩) (ty := .int) (by decide +kernel) rfl rfl (Nat.le_of_ble_eq_true rfl) (st_5_1 n0 z a x) ez hdg kk
    · exact r_putI C hw ⟨g0, g1⟩ (by decide) (Cn := RX6) (T := TX6) (N := 8) rfl h5 tyX6 tyX6_ok nmX6 2 (by decide) hl (fun _ h => h) (Or.inr ⟨rfl, rfl, rfl⟩) (ty := .int) (by decide +kernel) rfl rfl (Nat.le_of_ble_eq_true rfl) (st_5_2 n0 z a x) ez hdg kk
    · exact r_putI C hw ⟨g0, g1⟩ (by decide) (Cn := RX6) (T := TX6) (N := 8) rfl h5 tyX6 tyX6_ok nmX6 3 (by decide) hl (fun _ h => h) (Or.inr ⟨rfl, rfl, rfl⟩) (ty := .int) (by decide +kernel) rfl rfl (Nat.le_of_ble_eq_true rfl) (st_5_3 n0 z a x) ez hdg kk
  · rcases (show k = 0 ∨ k = 1 ∨ k = 2 ∨ k = 3 by omega) with rfl | rfl | rfl | rfl
    · exact r_putI C hw ⟨g0, g1⟩ (by decide) (Cn := RX8) (T := TX8) (N := 10) rfl h7 tyX8 tyX8_ok nmX8 0 (by decide) hl (fun _ h => h) (Or.inr ⟨rfl, rfl, rfl⟩) (ty := .int) (by decide +kernel) rfl rfl (Nat.le_of_ble_eq_true rfl) (st_7_0 n0 z a x) ez hdg kk
    · exact r_putI C hw ⟨g0, g1⟩ (by decide) (Cn := RX8) (T := TX8) (N := 10) rfl h7 tyX8 tyX8_ok nmX8 1 (by decide) hl (fun _ h => h) (Or.inr ⟨rfl, rfl, rfl⟩) (ty := .int) (by decide +kernel) rfl rfl (Nat.le_of_ble_eq_true rfl) (st_7_1 n0 z a x) ez hdg kk
    · exact r_putI C hw ⟨g0, g1⟩ (by decide) (Cn := RX8) (T := TX8) (N := 10) rfl h7 tyX8 tyX8_ok nmX8 2 (by decide) hl (fun _ h => h) (Or.inr ⟨rfl, rfl, rfl⟩) (ty := .int) (by decide +kernel) rfl rfl (Nat.le_of_ble_eq_true rfl) (st_7_2 n0 z a x) ez hdg kk
    · exact r_putI C hw ⟨g0, g1⟩ (by decide) (Cn := RX8) (T := TX8) (N := 10) rfl h7 tyX8 tyX8_ok nmX8 3 (by decide) hl (fun _ h => h) (Or.inr ⟨rfl, rfl, rfl⟩) (ty := .int) (by decide +kernel) rfl rfl (Nat.le_of_ble_eq_true rfl) (st_7_3 n0 z a x) ez hdg kk
theorem r_new (C : Cx n0 D Y own cc ret mL ws nm p s m args meth c) (hw : Wd n0 D Y z s H locs) (ki : Nat) (h12 : ki < 12) {Cn : String} {T : u_T} {N index : Nat} (hc : vwCl[ki]? = some (Cn, T, N)) (hin : ∀ w ∈ u_ws Cn T N, w ∈ ws) (ty : Nat → FieldType) (hty : ∀ k, k < N → parseFieldDescriptor (T k).2.2.1 = some (ty k)) (hcl : Cond.classLink own index Cn ∈ ws) (hinst : Cond.instantiable Cn N ∈ ws) (hini : Cond.initialized Cn ∈ ws) (hfs : ∀ j, j < N → defaultValue (ty j) = vp_V (fv n0 (zal z ki 0) ki (zn z)) j) (hcells : cells + 1 ≤ R.cells) (hslots : slots + N ≤ R.slots) (hdg : decode cc pc = .ok (.new index, 3))
    (kk : ∀ H : Heap, Wd n0 D Y (zal z ki 0) s H locs → W p l e R s m args below meth c H locs (cells + 1) (slots + N) Q (F0 m (pc + 3) ls (.ref (n0 + zn z) :: rest))) : W p l e R s m args below meth c H locs cells slots Q (F0 m pc ls rest) := by
  have hts := C.2.2.2.2.2.1
  have hKn := C.2.2.2.2.2.2.2.2.1.1 ki _ hc
  refine W.newcK C.1 C.2.1 C.2.2.2.2.1 (hts _ hcl) (hts _ hinst) (hts _ hini) rfl hdg hcells hslots hKn.2.1 hw.1.1 fun H1 kC hkC e1 z1 o1 => ?_
  refine kk H1 (hw.new ?_ (by rw [z1, hw.1.1]) (fun q hq => o1 q (by rw [← hw.1.1]; exact hq)))
  rw [cE_o (ok_new z ki 0).2 h12]
  exact ⟨_, hc, (u_born ty hts hin hKn hkC e1 hty).to hfs⟩
theorem r_iald (C : Cx n0 D Y own cc ret mL ws nm p s m args meth c) (hw : Wd n0 D Y z s H locs) (g : a < zn z ∧ zK z a = 12) {i : Int32} (hi : ¬ (i < 0 ∨ zL z a ≤ i.toNatClampNeg)) (hdg : decode cc pc = .ok (.iaload, 1))
    (kk : W p l e R s m args below meth c H locs cells slots Q (F0 m (pc + 1) ls (.int (zA z a i.toNatClampNeg) :: rest))) : W p l e R s m args below meth c H locs cells slots Q (F0 m pc ls (.int i :: .ref (n0 + a) :: rest)) :=
  va_iald C.1 C.2.1 C.2.2.2.2.2.2.2.2.1 (hw.one g.1 (cE_i g.2)) 0 0 rfl rfl hi hdg kk
theorem r_zald (C : Cx n0 D Y own cc ret mL ws nm p s m args meth c) (hw : Wd n0 D Y z s H locs) (g : a < zn z ∧ zK z a = 14) {i : Int32} (hi : ¬ (i < 0 ∨ zL z a ≤ i.toNatClampNeg)) (hdg : decode cc pc = .ok (.baload, 1))
    (kk : W p l e R s m args below meth c H locs cells slots Q (F0 m (pc + 1) ls (.int (zA z a i.toNatClampNeg) :: rest))) : W p l e R s m args below meth c H locs cells slots Q (F0 m pc ls (.int i :: .ref (n0 + a) :: rest)) :=
  va_zald C.1 C.2.1 C.2.2.2.2.2.2.2.2.1 (hw.one g.1 (cE_z g.2)) 0 2 rfl rfl hi hdg kk
theorem r_lald (C : Cx n0 D Y own cc ret mL ws nm p s m args meth c) (hw : Wd n0 D Y z s H locs) (g : a < zn z ∧ zK z a = 13) {i : Int32} (hi : ¬ (i < 0 ∨ zL z a ≤ i.toNatClampNeg)) (hdg : decode cc pc = .ok (.laload, 1))
    (kk : W p l e R s m args below meth c H locs cells slots Q (F0 m (pc + 1) ls (.long (zJ z a i.toNatClampNeg) :: rest))) : W p l e R s m args below meth c H locs cells slots Q (F0 m pc ls (.int i :: .ref (n0 + a) :: rest)) :=
  va_lald C.1 C.2.1 C.2.2.2.2.2.2.2.2.1 (hw.one g.1 (cE_j g.2)) 0 1 rfl rfl hi hdg kk
theorem r_aald (C : Cx n0 D Y own cc ret mL ws nm p s m args meth c) (hw : Wd n0 D Y z s H locs) {ki t0 : Nat} {E : String} (g : a < zn z ∧ zK z a = ki) (h15 : 15 ≤ ki) (ht : [(Y 12, FieldType.int), (Y 13, .long), (Y 14, .boolean), (Y 15, .object RX0), (Y 16, .object RX3), (Y 17, .object RX6), (Y 18, .object RX9)][t0]? = some (Y ki, .object E)) {i : Int32} (hi : ¬ (i < 0 ∨ zL z a ≤ i.toNatClampNeg)) (hdg : decode cc pc = .ok (.aaload, 1))
    (kk : W p l e R s m args below meth c H locs cells slots Q (F0 m (pc + 1) ls (rv n0 (zR z a i.toNatClampNeg) :: rest))) : W p l e R s m args below meth c H locs cells slots Q (F0 m pc ls (.int i :: .ref (n0 + a) :: rest)) :=
  va_aldq C.1 C.2.1 C.2.2.2.2.2.2.2.2.1 (hw.one g.1 (cE_r g.2 h15)) 0 t0 rfl ht hi hdg (by rw [rv_rf]; exact kk)
theorem r_alen (C : Cx n0 D Y own cc ret mL ws nm p s m args meth c) (hw : Wd n0 D Y z s H locs) (g : a < zn z ∧ zK z a = 12) (hdg : decode cc pc = .ok (.arraylength, 1))
    (kk : W p l e R s m args below meth c H locs cells slots Q (F0 m (pc + 1) ls (.int (Int32.ofNat (zL z a)) :: rest))) : W p l e R s m args below meth c H locs cells slots Q (F0 m pc ls (.ref (n0 + a) :: rest)) :=
  va_alen C.1 C.2.1 C.2.2.2.2.2.2.2.2.1 (hw.one g.1 (cE_i g.2)) 0 0 rfl rfl rfl hdg kk
theorem r_iast (C : Cx n0 D Y own cc ret mL ws nm p s m args meth c) (hw : Wd n0 D Y z s H locs) (g : a < zn z ∧ zK z a = 12) {i x : Int32} (hi : ¬ (i < 0 ∨ zL z a ≤ i.toNatClampNeg)) (ez : z' = zsA z a i.toNatClampNeg x) (hdg : decode cc pc = .ok (.iastore, 1))
    (kk : ∀ (H : Heap) (locs : List Loc), Wd n0 D Y z' s H locs → W p l e R s m args below meth c H locs cells slots Q (F0 m (pc + 1) ls rest)) : W p l e R s m args below meth c H locs cells slots Q (F0 m pc ls (.int x :: .int i :: .ref (n0 + a) :: rest)) := by
  subst ez
  have hat := hw.at g.1
  rw [cE_i g.2] at hat
  refine W.iast C.1 C.2.1 hat ((C.2.2.2.2.2.2.2.2.1.2 0 _ rfl).1 (zL z a) (fun j => .int (zA z a j))) (fun q => by cases q) (by show ¬ (i < 0 ∨ (arrV _ _ _).slots.size ≤ _); rw [arrV_size]; exact hi) rfl rfl hdg fun H1 e1 z1 o1 => ?_
  refine kk H1 _ (hw.put g.1 rfl (fun b hb => cE_sA hb) ?_ z1 o1)
  rw [cE_i (show zK (zsA z a i.toNatClampNeg x) a = 12 from g.2)]
  show H1[n0 + a]? = some (vp_cell _ _)
  rw [e1, vp_cell_i, vp_cell_i, arrV_store]
  congr 2
  funext q
  by_cases hq : q = i.toNatClampNeg
  · subst hq; simp [updV, zA, zsA, u2]
  · simp [updV, zA, zsA, u2, hq]
theorem r_zast (C : Cx n0 D Y own cc ret mL ws nm p s m args meth c) (hw : Wd n0 D Y z s H locs) (g : a < zn z ∧ zK z a = 14) {i x : Int32} (hi : ¬ (i < 0 ∨ zL z a ≤ i.toNatClampNeg)) (hx : x = 0 ∨ x = 1) (ez : z' = zsA z a i.toNatClampNeg x) (hdg : decode cc pc = .ok (.bastore, 1))
    (kk : ∀ (H : Heap) (locs : List Loc), Wd n0 D Y z' s H locs → W p l e R s m args below meth c H locs cells slots Q (F0 m (pc + 1) ls rest)) : W p l e R s m args below meth c H locs cells slots Q (F0 m pc ls (.int x :: .int i :: .ref (n0 + a) :: rest)) := by
  subst ez
  have hat := hw.at g.1
  rw [cE_z g.2] at hat
  refine W.zast C.1 C.2.1 hat ((C.2.2.2.2.2.2.2.2.1.2 2 _ rfl).1 (zL z a) (fun j => .int (zA z a j))) (fun q => by cases q) (by show ¬ (i < 0 ∨ (arrV _ _ _).slots.size ≤ _); rw [arrV_size]; exact hi) rfl rfl hdg fun H1 e1 z1 o1 => ?_
  refine kk H1 _ (hw.put g.1 rfl (fun b hb => cE_sA hb) ?_ z1 o1)
  rw [cE_z (show zK (zsA z a i.toNatClampNeg x) a = 14 from g.2)]
  show H1[n0 + a]? = some (vp_cell _ _)
  rw [e1, vp_cell_i, vp_cell_i, arrV_store]
  congr 2
  funext q
  by_cases hq : q = i.toNatClampNeg
  · subst hq
    rcases hx with rfl | rfl <;> simp [updV, zA, zsA, u2, narrow]
  · simp [updV, zA, zsA, u2, hq]
theorem r_last (C : Cx n0 D Y own cc ret mL ws nm p s m args meth c) (hw : Wd n0 D Y z s H locs) (g : a < zn z ∧ zK z a = 13) {i : Int32} {x : Int64} (hi : ¬ (i < 0 ∨ zL z a ≤ i.toNatClampNeg)) (ez : z' = zsJ z a i.toNatClampNeg x) (hdg : decode cc pc = .ok (.lastore, 1))
    (kk : ∀ (H : Heap) (locs : List Loc), Wd n0 D Y z' s H locs → W p l e R s m args below meth c H locs cells slots Q (F0 m (pc + 1) ls rest)) : W p l e R s m args below meth c H locs cells slots Q (F0 m pc ls (.long x :: .int i :: .ref (n0 + a) :: rest)) := by
  subst ez
  have hat := hw.at g.1
  rw [cE_j g.2] at hat
  refine W.last C.1 C.2.1 hat ((C.2.2.2.2.2.2.2.2.1.2 1 _ rfl).1 (zL z a) (fun j => .long (zJ z a j))) (fun q => by cases q) (by show ¬ (i < 0 ∨ (arrV _ _ _).slots.size ≤ _); rw [arrV_size]; exact hi) rfl rfl hdg fun H1 e1 z1 o1 => ?_
  refine kk H1 _ (hw.put g.1 rfl (fun b hb => cE_sJ hb) ?_ z1 o1)
  rw [cE_j (show zK (zsJ z a i.toNatClampNeg x) a = 13 from g.2)]
  show H1[n0 + a]? = some (vp_cell _ _)
  rw [e1, vp_cell_l, vp_cell_l, arrV_store]
  congr 2
  funext q
  by_cases hq : q = i.toNatClampNeg
  · subst hq; simp [updV, zJ, zsJ, u2]
  · simp [updV, zJ, zsJ, u2, hq]
theorem r_aast (C : Cx n0 D Y own cc ret mL ws nm p s m args meth c) (hw : Wd n0 D Y z s H locs) {ki kv t0 v : Nat} {E : String} {rv0 : vw_C} (g : a < zn z ∧ zK z a = ki) (h15 : 15 ≤ ki) (ht : [(Y 12, FieldType.int), (Y 13, .long), (Y 14, .boolean), (Y 15, .object RX0), (Y 16, .object RX3), (Y 17, .object RX6), (Y 18, .object RX9)][t0]? = some (Y ki, .object E)) (gv : v < zn z ∧ zK z v = kv) (hv12 : kv < 12) (hcv : vwCl[kv]? = some rv0) (hasg : ∀ comp c0 : ClassId, s.vm.findClass E = some comp → s.vm.findClass rv0.1 = some c0 → s.vm.assignable c0 comp = true) {i : Int32} (hi : ¬ (i < 0 ∨ zL z a ≤ i.toNatClampNeg)) (ez : z' = zsR z a i.toNatClampNeg (some v)) (hdg : decode cc pc = .ok (.aastore, 1))
    (kk : ∀ (H : Heap) (locs : List Loc), Wd n0 D Y z' s H locs → W p l e R s m args below meth c H locs cells slots Q (F0 m (pc + 1) ls rest)) : W p l e R s m args below meth c H locs cells slots Q (F0 m pc ls (.ref (n0 + v) :: .int i :: .ref (n0 + a) :: rest)) := by
  subst ez
  have hat := hw.at g.1
  rw [cE_r g.2 h15] at hat
  have hK := C.2.2.2.2.2.2.2.2.1
  obtain ⟨cellV, g1, g3, ⟨kC, hkC⟩, hasg2⟩ := va_rAny (E := E) hK (hw.one gv.1 (cE_o gv.2 hv12)) (q0 := 0) rfl hcv hasg
  obtain ⟨kA, comp, k1, k2, k3, -⟩ := (hK.2 t0 _ ht).2
  obtain ⟨kE, hkE, -⟩ := Vm.findClass_spec k3
  have h0 : ¬ i < 0 := fun q => hi (Or.inl q)
  have hlt : i.toNatClampNeg < zL z a := Nat.not_le.mp fun q => hi (Or.inr q)
  refine W.aast C.1 C.2.1 hat (fun q h => by cases h) (fun h => by cases h) k1 k2 rfl hkE ⟨h0, by show _ < (arrV _ _ _).slots.size; rw [arrV_size]; exact hlt⟩ g1 (fun q h => by rw [h] at g3; cases g3) hkC (hasg2 _ k3) rfl rfl hdg fun H1 e1 z1 o1 => ?_
  refine kk H1 _ (hw.put g.1 rfl (fun b hb => cE_sR hb) ?_ z1 o1)
  rw [cE_r (show zK (zsR z a i.toNatClampNeg (some v)) a = ki from g.2) h15]
  show H1[n0 + a]? = some (vp_cell _ _)
  rw [e1, vp_cell_q, vp_cell_q, arrV_store]
  congr 2
  funext q
  by_cases hq : q = i.toNatClampNeg
  · subst hq; simp [updV, zR, zsR, u2, va_rf]
  · simp [updV, zR, zsR, u2, hq]
theorem asg_self (C : Cx n0 D Y own cc ret mL ws nm p s m args meth c) (kv : Nat) {r : vw_C} (hc : vwCl[kv]? = some r) : ∀ comp c0 : ClassId, s.vm.findClass r.1 = some comp → s.vm.findClass r.1 = some c0 → s.vm.assignable c0 comp = true := by
  intro comp c0 h1 h2
  have hcl := (C.2.2.2.2.2.2.2.2.1.1 kv _ hc).2
  cases h1.symm.trans h2
  cases h1.symm.trans hcl.1
  exact va_assign hcl
theorem asg_up {C T : String} {U : State} (h : va_Nw (.castable C T) U) : ∀ comp c0 : ClassId, U.vm.findClass T = some comp → U.vm.findClass C = some c0 → U.vm.assignable c0 comp = true := by
  intro comp c0 h1 h2
  obtain ⟨a1, t1, f1, f2, f3⟩ := Cond.castable_spec (va_Nw.use (A := #[]) rfl h)
  cases h2.symm.trans f1
  cases h1.symm.trans f2
  exact f3
theorem r_aastE (C : Cx n0 D Y own cc ret mL ws nm p s m args meth c) (hw : Wd n0 D Y z s H locs) {v : Nat} (g : a < zn z ∧ zK z a = 16) (gv : v < zn z ∧ (zK z v = 1 ∨ zK z v = 5 ∨ zK z v = 7)) {i : Int32} (hi : ¬ (i < 0 ∨ zL z a ≤ i.toNatClampNeg)) (ez : z' = zsR z a i.toNatClampNeg (some v)) (hdg : decode cc pc = .ok (.aastore, 1))
    (kk : ∀ (H : Heap) (locs : List Loc), Wd n0 D Y z' s H locs → W p l e R s m args below meth c H locs cells slots Q (F0 m (pc + 1) ls rest)) : W p l e R s m args below meth c H locs cells slots Q (F0 m pc ls (.ref (n0 + v) :: .int i :: .ref (n0 + a) :: rest)) := by
  have hK := C.2.2.2.2.2.2.2.2
  obtain ⟨g0, g1 | g1 | g1⟩ := gv
  · exact r_aast C hw (t0 := 4) (E := RX3) g (by decide) rfl ⟨g0, g1⟩ (by decide) rfl (asg_up hK.2.2.2.1.2.1) hi ez hdg kk
  · exact r_aast C hw (t0 := 4) (E := RX3) g (by decide) rfl ⟨g0, g1⟩ (by decide) rfl (asg_up hK.2.2.2.1.1) hi ez hdg kk
  · exact r_aast C hw (t0 := 4) (E := RX3) g (by decide) rfl ⟨g0, g1⟩ (by decide) rfl (asg_up hK.2.2.2.1.2.2) hi ez hdg kk
/-- arrays are made -/
theorem r_newi (C : Cx n0 D Y own cc ret mL ws nm p s m args meth c) (hw : Wd n0 D Y z s H locs) (harr : Cond.arrayClass .int ∈ ws) {n : Int32} {N' : Nat} (hn : ¬ n < 0) (hN : n.toNatClampNeg = N') (hb : N' * componentBytes .int ≤ 536870912) (hcells : cells + 1 ≤ R.cells) (hslots : slots + N' ≤ R.slots) (hdg : decode cc pc = .ok (.newarray .int, 2))
    (kk : ∀ H : Heap, Wd n0 D Y (zal z 12 N') s H locs → W p l e R s m args below meth c H locs (cells + 1) (slots + N') Q (F0 m (pc + 2) ls (.ref (n0 + zn z) :: rest))) : W p l e R s m args below meth c H locs cells slots Q (F0 m pc ls (.int n :: rest)) := by
  refine va_newaK (atype := .int) C.1 C.2.1 (C.2.2.2.2.2.1 _ harr) rfl hdg rfl hn hN hb hcells hslots hw.1.1 fun H1 cA e1 z1 o1 hAr hNm => ?_
  have hY : cA = Y 12 := Option.some.inj (hNm.symm.trans (C.2.2.2.2.2.2.2.2.1.2 0 _ rfl).2)
  subst hY
  refine kk H1 (hw.new ?_ (by rw [z1, hw.1.1]) (fun q hq => o1 q (by rw [← hw.1.1]; exact hq)))
  rw [cE_i (ok_new z 12 N').2]
  show H1[n0 + zn z]? = some (vp_cell _ _)
  rw [e1, vp_cell_i]
  simp [zL, zA, zal, va_up, zn]
  rfl
theorem r_newz (C : Cx n0 D Y own cc ret mL ws nm p s m args meth c) (hw : Wd n0 D Y z s H locs) (harr : Cond.arrayClass .boolean ∈ ws) {n : Int32} {N' : Nat} (hn : ¬ n < 0) (hN : n.toNatClampNeg = N') (hb : N' * componentBytes .boolean ≤ 536870912) (hcells : cells + 1 ≤ R.cells) (hslots : slots + N' ≤ R.slots) (hdg : decode cc pc = .ok (.newarray .boolean, 2))
    (kk : ∀ H : Heap, Wd n0 D Y (zal z 14 N') s H locs → W p l e R s m args below meth c H locs (cells + 1) (slots + N') Q (F0 m (pc + 2) ls (.ref (n0 + zn z) :: rest))) : W p l e R s m args below meth c H locs cells slots Q (F0 m pc ls (.int n :: rest)) := by
  refine va_newaK (atype := .boolean) C.1 C.2.1 (C.2.2.2.2.2.1 _ harr) rfl hdg rfl hn hN hb hcells hslots hw.1.1 fun H1 cA e1 z1 o1 hAr hNm => ?_
  have hY : cA = Y 14 := Option.some.inj (hNm.symm.trans (C.2.2.2.2.2.2.2.2.1.2 2 _ rfl).2)
  subst hY
  refine kk H1 (hw.new ?_ (by rw [z1, hw.1.1]) (fun q hq => o1 q (by rw [← hw.1.1]; exact hq)))
  rw [cE_z (ok_new z 14 N').2]
  show H1[n0 + zn z]? = some (vp_cell _ _)
  rw [e1, vp_cell_i]
  simp [zL, zA, zal, va_up, zn]
  rfl
theorem r_newj (C : Cx n0 D Y own cc ret mL ws nm p s m args meth c) (hw : Wd n0 D Y z s H locs) (harr : Cond.arrayClass .long ∈ ws) {n : Int32} {N' : Nat} (hn : ¬ n < 0) (hN : n.toNatClampNeg = N') (hb : N' * componentBytes .long ≤ 536870912) (hcells : cells + 1 ≤ R.cells) (hslots : slots + N' ≤ R.slots) (hdg : decode cc pc = .ok (.newarray .long, 2))
    (kk : ∀ H : Heap, Wd n0 D Y (zal z 13 N') s H locs → W p l e R s m args below meth c H locs (cells + 1) (slots + N') Q (F0 m (pc + 2) ls (.ref (n0 + zn z) :: rest))) : W p l e R s m args below meth c H locs cells slots Q (F0 m pc ls (.int n :: rest)) := by
  refine va_newaK (atype := .long) C.1 C.2.1 (C.2.2.2.2.2.1 _ harr) rfl hdg rfl hn hN hb hcells hslots hw.1.1 fun H1 cA e1 z1 o1 hAr hNm => ?_
  have hY : cA = Y 13 := Option.some.inj (hNm.symm.trans (C.2.2.2.2.2.2.2.2.1.2 1 _ rfl).2)
  subst hY
  refine kk H1 (hw.new ?_ (by rw [z1, hw.1.1]) (fun q hq => o1 q (by rw [← hw.1.1]; exact hq)))
  rw [cE_j (ok_new z 13 N').2]
  show H1[n0 + zn z]? = some (vp_cell _ _)
  rw [e1, vp_cell_l]
  simp [zL, zJ, zal, va_up, zn]
  rfl
theorem r_newq (C : Cx n0 D Y own cc ret mL ws nm p s m args meth c) (hw : Wd n0 D Y z s H locs) {ki t0 index : Nat} {E : String} (h15 : 15 ≤ ki) (ht : [(Y 12, FieldType.int), (Y 13, .long), (Y 14, .boolean), (Y 15, .object RX0), (Y 16, .object RX3), (Y 17, .object RX6), (Y 18, .object RX9)][t0]? = some (Y ki, .object E)) (hcl : Cond.classLink own index E ∈ ws) (hover : va_AO E s) {n : Int32} {N' : Nat} (hn : ¬ n < 0) (hN : n.toNatClampNeg = N') (hb : N' * 4 ≤ 536870912) (hcells : cells + 1 ≤ R.cells) (hslots : slots + N' ≤ R.slots) (hdg : decode cc pc = .ok (.anewarray index, 3))
    (kk : ∀ H : Heap, Wd n0 D Y (zal z ki N') s H locs → W p l e R s m args below meth c H locs (cells + 1) (slots + N') Q (F0 m (pc + 3) ls (.ref (n0 + zn z) :: rest))) : W p l e R s m args below meth c H locs cells slots Q (F0 m pc ls (.int n :: rest)) := by
  subst hN
  refine W.anew C.1 C.2.1 C.2.2.2.2.1 (C.2.2.2.2.2.1 _ hcl) (va_AO.use hover) rfl hdg rfl hn hb hcells hslots fun cA kA comp f1 f2 f3 f4 => ?_
  obtain ⟨kA', comp', k1, k2, k3, k4⟩ := (C.2.2.2.2.2.2.2.2.1.2 t0 _ ht).2
  have hY : cA = Y ki := Option.some.inj (f1.symm.trans k4)
  subst hY
  generalize hH1 : H.push ({ cls := Y ki, slots := Array.replicate n.toNatClampNeg .null, vm := .none } : Cell) = H1
  have z1 : H1.size = H.size + 1 := by rw [← hH1, Array.size_push]
  have e1 : H1[H.size]? = some (arrV (Y ki) n.toNatClampNeg (fun _ => .null)) := by rw [← hH1, Array.getElem?_push_size, ← arrV_new]
  have o1 : ∀ q : Nat, q < H.size → H1[q]? = H[q]? := fun q hq => by rw [← hH1, Array.getElem?_push, if_neg (Nat.ne_of_lt hq)]
  have e2 : (Value.ref H.size) = .ref (n0 + zn z) := by rw [hw.1.1]
  refine W.eq (g2 := F0 m (pc + 3) ls (.ref (n0 + zn z) :: rest)) (by rw [← e2]) ?_
  refine kk H1 (hw.new ?_ z1 o1)
  rw [cE_r (ok_new z ki n.toNatClampNeg).2 h15]
  show H1[n0 + zn z]? = some (vp_cell _ _)
  rw [← hw.1.1, e1, vp_cell_q]
  simp [zL, zR, zal, va_up, zn, va_rf]
-- nullable references
theorem r_aload_n (C : Cx n0 D Y own cc ret mL ws nm p s m args meth c) {k : Fin 4} {i : Nat} {r : Option Nat} (hdg : decode cc pc = .ok (.aload_n k, 1)) (hi : (k : Nat) = i) (hl : ls[i]? = some (.val (rv n0 r))) (kk : W p l e R s m args below meth c H locs cells slots Q (F0 m (pc + 1) ls (rv n0 r :: rest))) : W p l e R s m args below meth c H locs cells slots Q (F0 m pc ls rest) := by
  cases r with
  | none => exact lv_aload_nN C.1 C.2.1 hdg hi hl kk
  | some a => exact lv_aload_n C.1 C.2.1 hdg hi hl kk
theorem r_aload (C : Cx n0 D Y own cc ret mL ws nm p s m args meth c) {i : Nat} {r : Option Nat} (hdg : decode cc pc = .ok (.aload i, 2)) (hl : ls[i]? = some (.val (rv n0 r))) (kk : W p l e R s m args below meth c H locs cells slots Q (F0 m (pc + 2) ls (rv n0 r :: rest))) : W p l e R s m args below meth c H locs cells slots Q (F0 m pc ls rest) := by
  cases r with
  | none => exact lv_aloadN C.1 C.2.1 hdg hl kk
  | some a => exact lv_aload C.1 C.2.1 hdg hl kk
theorem r_astore_n (C : Cx n0 D Y own cc ret mL ws nm p s m args meth c) {k : Fin 4} {i nL : Nat} {r : Option Nat} {lv lv' : List (Nat × Value)} (hdg : decode cc pc = .ok (.astore_n k, 1)) (hi : (k : Nat) = i) (h : lv_has ls nL lv) (hn : i < nL) (hl : (i, rv n0 r) :: lv.filter (fun q => !(q.1 == i) && !(q.1 + 1 == i && q.2.category == 2)) = lv')
    (kk : ∀ ls' : Array Slot, lv_has ls' nL lv' → W p l e R s m args below meth c H locs cells slots Q (F0 m (pc + 1) ls' rest)) : W p l e R s m args below meth c H locs cells slots Q (F0 m pc ls (rv n0 r :: rest)) := by
  cases r with
  | none => exact lv_astore_nN C.1 C.2.1 hdg hi h hn hl kk
  | some a => exact lv_astore_n C.1 C.2.1 hdg hi h hn hl kk
theorem r_astore (C : Cx n0 D Y own cc ret mL ws nm p s m args meth c) {i nL : Nat} {r : Option Nat} {lv lv' : List (Nat × Value)} (hdg : decode cc pc = .ok (.astore i, 2)) (h : lv_has ls nL lv) (hn : i < nL) (hl : (i, rv n0 r) :: lv.filter (fun q => !(q.1 == i) && !(q.1 + 1 == i && q.2.category == 2)) = lv')
    (kk : ∀ ls' : Array Slot, lv_has ls' nL lv' → W p l e R s m args below meth c H locs cells slots Q (F0 m (pc + 2) ls' rest)) : W p l e R s m args below meth c H locs cells slots Q (F0 m pc ls (rv n0 r :: rest)) := by
  cases r with
  | none => exact lv_astoreN C.1 C.2.1 hdg h hn hl kk
  | some a => exact lv_astore C.1 C.2.1 hdg h hn hl kk
theorem r_ifnull (C : Cx n0 D Y own cc ret mL ws nm p s m args meth c) {r : Option Nat} {off : Int} {tgt : Nat} (hdg : decode cc pc = .ok (.ifnull off, 3)) (ht : (pc : Int) + off = (tgt : Int)) (k0 : r = none → W p l e R s m args below meth c H locs cells slots Q (F0 m tgt ls rest)) (k1 : ∀ a, r = some a → W p l e R s m args below meth c H locs cells slots Q (F0 m (pc + 3) ls rest)) : W p l e R s m args below meth c H locs cells slots Q (F0 m pc ls (rv n0 r :: rest)) := by
  cases r with
  | none => exact lv_ifnullN C.1 C.2.1 hdg ht (k0 rfl)
  | some a => exact lv_ifnull C.1 C.2.1 hdg (k1 a rfl)
theorem r_ifnonnull (C : Cx n0 D Y own cc ret mL ws nm p s m args meth c) {r : Option Nat} {off : Int} {tgt : Nat} (hdg : decode cc pc = .ok (.ifnonnull off, 3)) (ht : (pc : Int) + off = (tgt : Int)) (k0 : r = none → W p l e R s m args below meth c H locs cells slots Q (F0 m (pc + 3) ls rest)) (k1 : ∀ a, r = some a → W p l e R s m args below meth c H locs cells slots Q (F0 m tgt ls rest)) : W p l e R s m args below meth c H locs cells slots Q (F0 m pc ls (rv n0 r :: rest)) := by
  cases r with
  | none => exact lv_ifnonnullN C.1 C.2.1 hdg (k0 rfl)
  | some a => exact lv_ifnonnull C.1 C.2.1 hdg ht (k1 a rfl)
theorem r_topr {r : Option Nat} (e1 : r = some a) (k : W p l e R s m args below meth c H locs cells slots Q (F0 m pc ls (.ref (n0 + a) :: rest))) : W p l e R s m args below meth c H locs cells slots Q (F0 m pc ls (rv n0 r :: rest)) := by subst e1; exact k
theorem r_topq {r r' : Option Nat} (e1 : r' = r) (k : W p l e R s m args below meth c H locs cells slots Q (F0 m pc ls (rv n0 r' :: rest))) : W p l e R s m args below meth c H locs cells slots Q (F0 m pc ls (rv n0 r :: rest)) := by subst e1; exact k
theorem r_topi {x y : Int32} (e1 : y = x) (k : W p l e R s m args below meth c H locs cells slots Q (F0 m pc ls (.int y :: rest))) : W p l e R s m args below meth c H locs cells slots Q (F0 m pc ls (.int x :: rest)) := by subst e1; exact k
theorem r_topl {x y : Int64} (e1 : y = x) (k : W p l e R s m args below meth c H locs cells slots Q (F0 m pc ls (.long y :: rest))) : W p l e R s m args below meth c H locs cells slots Q (F0 m pc ls (.long x :: rest)) := by subst e1; exact k
-- instanceof, checkcast
theorem Wd.recv (C : Cx n0 D Y own cc ret mL ws nm p s m args meth c) (hw : Wd n0 D Y z s H locs) {ki : Nat} (g : a < zn z ∧ zK z a = ki) (h12 : ki < 12) {r : vw_C} (hc : vwCl[ki]? = some r) : ∃ cell : Cell, H[n0 + a]? = some cell ∧ cell.vm.isStatics = false ∧ s.vm.findClass r.1 = some cell.cls :=
  va_recv C.2.2.2.2.2.2.2.2.1 (hw.one g.1 (cE_o g.2 h12)) hc (q0 := 0) rfl
theorem r_inst1 (C : Cx n0 D Y own cc ret mL ws nm p s m args meth c) (hw : Wd n0 D Y z s H locs) (g : a < zn z ∧ (zK z a = 1 ∨ zK z a = 5 ∨ zK z a = 7)) {index : Nat} (hl : Cond.classLink own index RX1 ∈ ws) (hdg : decode cc pc = .ok (.instanceof index, 3))
    (ky : zK z a = 1 → W p l e R s m args below meth c H locs cells slots Q (F0 m (pc + 3) ls (.int 1 :: rest))) (kn : ¬ zK z a = 1 → W p l e R s m args below meth c H locs cells slots Q (F0 m (pc + 3) ls (.int 0 :: rest))) : W p l e R s m args below meth c H locs cells slots Q (F0 m pc ls (.ref (n0 + a) :: rest)) := by
  have hK := C.2.2.2.2.2.2.2.2
  obtain ⟨g0, g1 | g1 | g1⟩ := g
  · exact va_instS C.1 C.2.1 C.2.2.2.2.1 (C.2.2.2.2.2.1 _ hl) (hK.1.1 1 _ rfl).2 (hw.recv C ⟨g0, g1⟩ (by decide) rfl) hdg (ky g1)
  · exact va_instNo C.1 C.2.1 C.2.2.2.2.1 (C.2.2.2.2.2.1 _ hl) hK.2.2.1.2.2.1 (hw.recv C ⟨g0, g1⟩ (by decide) rfl) hdg (kn (by omega))
  · exact va_instNo C.1 C.2.1 C.2.2.2.2.1 (C.2.2.2.2.2.1 _ hl) hK.2.2.1.2.2.2.1 (hw.recv C ⟨g0, g1⟩ (by decide) rfl) hdg (kn (by omega))
theorem r_inst5 (C : Cx n0 D Y own cc ret mL ws nm p s m args meth c) (hw : Wd n0 D Y z s H locs) (g : a < zn z ∧ (zK z a = 1 ∨ zK z a = 5 ∨ zK z a = 7)) {index : Nat} (hl : Cond.classLink own index RX6 ∈ ws) (hdg : decode cc pc = .ok (.instanceof index, 3))
    (ky : zK z a = 5 → W p l e R s m args below meth c H locs cells slots Q (F0 m (pc + 3) ls (.int 1 :: rest))) (kn : ¬ zK z a = 5 → W p l e R s m args below meth c H locs cells slots Q (F0 m (pc + 3) ls (.int 0 :: rest))) : W p l e R s m args below meth c H locs cells slots Q (F0 m pc ls (.ref (n0 + a) :: rest)) := by
  have hK := C.2.2.2.2.2.2.2.2
  obtain ⟨g0, g1 | g1 | g1⟩ := g
  · exact va_instNo C.1 C.2.1 C.2.2.2.2.1 (C.2.2.2.2.2.1 _ hl) hK.2.2.1.1 (hw.recv C ⟨g0, g1⟩ (by decide) rfl) hdg (kn (by omega))
  · exact va_instS C.1 C.2.1 C.2.2.2.2.1 (C.2.2.2.2.2.1 _ hl) (hK.1.1 5 _ rfl).2 (hw.recv C ⟨g0, g1⟩ (by decide) rfl) hdg (ky g1)
  · exact va_instNo C.1 C.2.1 C.2.2.2.2.1 (C.2.2.2.2.2.1 _ hl) hK.2.2.1.2.1 (hw.recv C ⟨g0, g1⟩ (by decide) rfl) hdg (kn (by omega))
theorem r_inst7 (C : Cx n0 D Y own cc ret mL ws nm p s m args meth c) (hw : Wd n0 D Y z s H locs) (g : a < zn z ∧ (zK z a = 1 ∨ zK z a = 5 ∨ zK z a = 7)) {index : Nat} (hl : Cond.classLink own index RX8 ∈ ws) (hdg : decode cc pc = .ok (.instanceof index, 3))
    (ky : zK z a = 7 → W p l e R s m args below meth c H locs cells slots Q (F0 m (pc + 3) ls (.int 1 :: rest))) (kn : ¬ zK z a = 7 → W p l e R s m args below meth c H locs cells slots Q (F0 m (pc + 3) ls (.int 0 :: rest))) : W p l e R s m args below meth c H locs cells slots Q (F0 m pc ls (.ref (n0 + a) :: rest)) := by
  have hK := C.2.2.2.2.2.2.2.2
  obtain ⟨g0, g1 | g1 | g1⟩ := g
  · exact va_instNo C.1 C.2.1 C.2.2.2.2.1 (C.2.2.2.2.2.1 _ hl) hK.2.2.1.2.2.2.2.1 (hw.recv C ⟨g0, g1⟩ (by decide) rfl) hdg (kn (by omega))
  · exact va_instNo C.1 C.2.1 C.2.2.2.2.1 (C.2.2.2.2.2.1 _ hl) hK.2.2.1.2.2.2.2.2 (hw.recv C ⟨g0, g1⟩ (by decide) rfl) hdg (kn (by omega))
  · exact va_instS C.1 C.2.1 C.2.2.2.2.1 (C.2.2.2.2.2.1 _ hl) (hK.1.1 7 _ rfl).2 (hw.recv C ⟨g0, g1⟩ (by decide) rfl) hdg (ky g1)
theorem r_cast (C : Cx n0 D Y own cc ret mL ws nm p s m args meth c) (hw : Wd n0 D Y z s H locs) {ki : Nat} (g : a < zn z ∧ zK z a = ki) (h12 : ki < 12) {r : vw_C} (hc : vwCl[ki]? = some r) {index : Nat} (hl : Cond.classLink own index r.1 ∈ ws) (hdg : decode cc pc = .ok (.checkcast index, 3))
    (kk : W p l e R s m args below meth c H locs cells slots Q (F0 m (pc + 3) ls (.ref (n0 + a) :: rest))) : W p l e R s m args below meth c H locs cells slots Q (F0 m pc ls (.ref (n0 + a) :: rest)) :=
  va_castS C.1 C.2.1 C.2.2.2.2.1 (C.2.2.2.2.2.1 _ hl) (C.2.2.2.2.2.2.2.2.1.1 ki _ hc).2 (hw.recv C g h12 hc) hdg kk
-- calls
variable {y : MethodName} {bytes : ByteArray} {maxL mc ms n index : Nat} {rc : Option FieldType} {wc : List Cond} {rm : Room} {As st0 : List Value}
theorem Cx.fix (C : Cx n0 D Y own cc ret mL ws nm p s m args meth c) : CallFix p m c cc mL s args ws own := ⟨C.1, C.2.1, C.2.2.2.1, C.2.2.2.2.1, C.2.2.2.2.2.1⟩
theorem Wd.pre (C : Cx n0 D Y own cc ret mL ws nm p s m args meth c) (hw : Wd n0 D Y z s H locs) {av : List Value} : ∀ U : State, U.heap = H → s.WarmedH U.vm → PreC n0 D Y z av av.toArray U := fun U hU hW => ⟨rfl, by rw [hU]; exact hw.1, KK.warm hW C.2.2.2.2.2.2.2.2⟩
theorem r_afti (hw : Wd n0 D Y z s H locs) {r : Int32} {aa : Array Value} (hr : va_Run p l e R s m args below meth c H locs cells slots mc ms (F0 m pc ls st0) rest (PosI n0 D Y z' r aa) (AA n0)) (kk : ∀ (H : Heap) (locs : List Loc), Wd n0 D Y z' s H locs → W p l e R s m args below meth c H locs (cells + mc) (slots + ms) Q (F0 m (pc + 3) ls (.int r :: rest))) : W p l e R s m args below meth c H locs cells slots Q (F0 m pc ls st0) :=
  va_calli hr hw.2 (fun _ _ h => h) (fun _ h => h) (fun r' u t H1 locs1 ht hvm hp hB hz hk hS => by subst hp; exact kk H1 locs1 ⟨by rw [← ht]; exact hB, hS⟩)
theorem r_aftv (hw : Wd n0 D Y z s H locs) {aa : Array Value} (hr : va_Run p l e R s m args below meth c H locs cells slots mc ms (F0 m pc ls st0) rest (PosV n0 D Y z' aa) (AA n0)) (kk : ∀ (H : Heap) (locs : List Loc), Wd n0 D Y z' s H locs → W p l e R s m args below meth c H locs (cells + mc) (slots + ms) Q (F0 m (pc + 3) ls rest)) : W p l e R s m args below meth c H locs cells slots Q (F0 m pc ls st0) :=
  va_callv hr hw.2 (fun _ _ h => h) (fun _ h => h) (fun u t H1 locs1 ht hvm hp hB hz hk hS => kk H1 locs1 ⟨by rw [← ht]; exact hB, hS⟩)
theorem r_aftq (hw : Wd n0 D Y z s H locs) {r : Option Nat} {aa : Array Value} (hr : va_Run p l e R s m args below meth c H locs cells slots mc ms (F0 m pc ls st0) rest (PosQ n0 D Y z' r aa) (AA n0)) (kk : ∀ (H : Heap) (locs : List Loc), Wd n0 D Y z' s H locs → W p l e R s m args below meth c H locs (cells + mc) (slots + ms) Q (F0 m (pc + 3) ls (rv n0 r :: rest))) : W p l e R s m args below meth c H locs cells slots Q (F0 m pc ls st0) :=
  va_callq hr hw.2 (fun _ _ h => h) (fun _ h => h) (fun r' u t H1 locs1 ht hvm hp hB hz hk hS => by subst hp; rw [rv_rf]; exact kk H1 locs1 ⟨by rw [← ht]; exact hB, hS⟩)
variable {Qc : Array Value → State → Outcome → State → Prop}
theorem r_runV (C : Cx n0 D Y own cc ret mL ws nm p s m args meth c) (hw : Wd n0 D Y z s H locs) {ki : Nat} (g : a < zn z ∧ zK z a = ki) (h12 : ki < 12) {r : vw_C} (hc : vwCl[ki]? = some r) (hM : Met l y wc rm (PreC n0 D Y z (.ref (n0 + a) :: As)) Qc mc ms (AA n0)) (cw : CallW R s args own r.1 index y bytes maxL rc wc rm mc ms n) (hn : As.length = n) (hs : ls.size = mL) (hst : st0 = As.reverse ++ .ref (n0 + a) :: rest) (hW : (rest.map fun v => v.category).sum ≤ 8) (hdg : decode cc pc = .ok (.invokevirtual index, 3)) (hf : cells + mc ≤ R.cells ∧ slots + ms ≤ R.slots) :
    va_Run p l e R s m args below meth c H locs cells slots mc ms (F0 m pc ls st0) rest (Qc (Value.ref (n0 + a) :: As).toArray) (AA n0) :=
  va_runV C.fix hM cw ⟨PreC.blind, hw.recv C g h12 hc, hw.pre C⟩ rfl hn hs hst (lv_room hW) hdg hf
theorem r_runU (C : Cx n0 D Y own cc ret mL ws nm p s m args meth c) (hw : Wd n0 D Y z s H locs) {ki : Nat} (g : a < zn z ∧ zK z a = ki) (h12 : ki < 12) {r : vw_C} (hc : vwCl[ki]? = some r) {x : MethodName} {owner : String} (hM : Met l y wc rm (PreC n0 D Y z (.ref (n0 + a) :: As)) Qc mc ms (AA n0)) (cw : va_CU R s args own r.1 owner index x y bytes maxL rc wc rm mc ms n) (hn : As.length = n) (hs : ls.size = mL) (hst : st0 = As.reverse ++ .ref (n0 + a) :: rest) (hW : (rest.map fun v => v.category).sum ≤ 8) (hdg : decode cc pc = .ok (.invokevirtual index, 3)) (hf : cells + mc ≤ R.cells ∧ slots + ms ≤ R.slots) :
    va_Run p l e R s m args below meth c H locs cells slots mc ms (F0 m pc ls st0) rest (Qc (Value.ref (n0 + a) :: As).toArray) (AA n0) :=
  va_runU C.fix hM cw ⟨PreC.blind, hw.recv C g h12 hc, hw.pre C⟩ rfl hn hs hst (lv_room hW) hdg hf
theorem r_runS (C : Cx n0 D Y own cc ret mL ws nm p s m args meth c) (hw : Wd n0 D Y z s H locs) (hM : Met l y wc rm (PreC n0 D Y z As) Qc mc ms (AA n0)) (cw : CallB R s args own index y bytes maxL rc wc rm mc ms n ∧ (Cond.static y).before args s = true) (hn : As.length = n) (hs : ls.size = mL) (hst : st0 = As.reverse ++ rest) (hW : (rest.map fun v => v.category).sum ≤ 8) (hdg : decode cc pc = .ok (.invokestatic index, 3)) (hf : cells + mc ≤ R.cells ∧ slots + ms ≤ R.slots) :
    va_Run p l e R s m args below meth c H locs cells slots mc ms (F0 m pc ls st0) rest (Qc As.toArray) (AA n0) :=
  va_runS C.fix hM cw ⟨PreC.blind, hw.pre C⟩ rfl hn hs hst (lv_room hW) hdg hf
theorem r_runI (C : Cx n0 D Y own cc ret mL ws nm p s m args meth c) (hw : Wd n0 D Y z s H locs) (hM : Met l y wc rm (PreC n0 D Y z (.ref (n0 + a) :: As)) Qc mc ms (AA n0)) (cw : CallB R s args own index y bytes maxL none wc rm mc ms n ∧ y.name = "<init>" ∧ (Cond.instanceMethod y).before args s = true) (hn : As.length = n) (hs : ls.size = mL) (hst : st0 = As.reverse ++ .ref (n0 + a) :: rest) (hW : (rest.map fun v => v.category).sum ≤ 8) (hdg : decode cc pc = .ok (.invokespecial index, 3)) (hf : cells + mc ≤ R.cells ∧ slots + ms ≤ R.slots) :
    va_Run p l e R s m args below meth c H locs cells slots mc ms (F0 m pc ls st0) rest (Qc (Value.ref (n0 + a) :: As).toArray) (AA n0) :=
  va_runI C.fix hM cw ⟨PreC.blind, hw.pre C⟩ rfl hn hs hst (lv_room hW) hdg hf
theorem r_runIN (C : Cx n0 D Y own cc ret mL ws nm p s m args meth c) (hw : Wd n0 D Y z s H locs) {host : String} (hM : Met l y wc rm (PreC n0 D Y z (.ref (n0 + a) :: As)) Qc mc ms (AA n0)) (cw : va_CN R s args own index y host bytes maxL none wc rm mc ms n ∧ y.name = "<init>" ∧ (Cond.instanceMethod y).before args s = true) (hn : As.length = n) (hs : ls.size = mL) (hst : st0 = As.reverse ++ .ref (n0 + a) :: rest) (hW : (rest.map fun v => v.category).sum ≤ 8) (hdg : decode cc pc = .ok (.invokespecial index, 3)) (hf : cells + mc ≤ R.cells ∧ slots + ms ≤ R.slots) :
    va_Run p l e R s m args below meth c H locs cells slots mc ms (F0 m pc ls st0) rest (Qc (Value.ref (n0 + a) :: As).toArray) (AA n0) :=
  va_runIN C.fix hM cw ⟨PreC.blind, hw.pre C⟩ rfl hn hs hst (lv_room hW) hdg hf
-- ends
theorem r_iret (C : Cx n0 D Y own cc (some .int) mL ws nm p s m args meth c) (hw : Wd n0 D Y z s H locs) {r : Int32} (hdg : decode cc pc = .ok (.ireturn, 1)) : W p l e R s m args below meth c H locs cells slots (MQ below (PosI n0 D Y z r) args s cells slots (AA n0)) (F0 m pc ls [.int r]) :=
  W.iret (v := r) C.1 C.2.1 C.2.2.1 (fun t ht hW => ⟨⟨r, (), rfl, rfl, (show Rp n0 D Y z t.heap by rw [ht]; exact hw.1)⟩, hw.2.F ht⟩) hw.2.2.2 hdg C.2.2.2.2.2.2.1
theorem r_zret (C : Cx n0 D Y own cc (some .boolean) mL ws nm p s m args meth c) (hw : Wd n0 D Y z s H locs) {r : Int32} (h01 : r = 0 ∨ r = 1) (hdg : decode cc pc = .ok (.ireturn, 1)) : W p l e R s m args below meth c H locs cells slots (MQ below (PosI n0 D Y z r) args s cells slots (AA n0)) (F0 m pc ls [.int r]) :=
  W.zret (v := r) C.1 C.2.1 C.2.2.1 (by rcases h01 with rfl | rfl <;> rfl) (fun t ht hW => ⟨⟨r, (), rfl, rfl, (show Rp n0 D Y z t.heap by rw [ht]; exact hw.1)⟩, hw.2.F ht⟩) hw.2.2.2 hdg C.2.2.2.2.2.2.1
theorem r_vret (C : Cx n0 D Y own cc none mL ws nm p s m args meth c) (hw : Wd n0 D Y z s H locs) (hdg : decode cc pc = .ok (.return_, 1)) : W p l e R s m args below meth c H locs cells slots (MQ below (PosV n0 D Y z) args s cells slots (AA n0)) (F0 m pc ls []) :=
  W.vret C.1 C.2.1 C.2.2.1 (fun t ht hW => ⟨⟨(), rfl, trivial, (show Rp n0 D Y z t.heap by rw [ht]; exact hw.1)⟩, hw.2.F ht⟩) hw.2.2.2 hdg C.2.2.2.2.2.2.1
theorem r_aret {nC : String} (C : Cx n0 D Y own cc (some (.object nC)) mL ws nm p s m args meth c) (hw : Wd n0 D Y z s H locs) {r : Option Nat} (hdg : decode cc pc = .ok (.areturn, 1)) : W p l e R s m args below meth c H locs cells slots (MQ below (PosQ n0 D Y z r) args s cells slots (AA n0)) (F0 m pc ls [rv n0 r]) :=
  W.aret (v := rv n0 r) C.1 C.2.1 C.2.2.1 (Or.inl ⟨_, rfl⟩) (by cases r with | none => exact Or.inl rfl | some a => exact Or.inr ⟨_, rfl⟩) (fun t ht hW => ⟨⟨r.map (n0 + ·), (), by rw [rv_rf], rfl, (show Rp n0 D Y z t.heap by rw [ht]; exact hw.1)⟩, hw.2.F ht⟩) hw.2.2.2 hdg C.2.2.2.2.2.2.1
end
theorem ne_ti {x k : Int32} (h : ¬ x = k) : x.toInt ≠ k.toInt := fun q => h (Int32.toInt_inj.mp q)
