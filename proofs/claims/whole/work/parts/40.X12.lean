theorem in_X12_init_X12 : ∀ w ∈ wsX120, w ∈ wsX12_init := by decide +kernel
abbrev rmX12_init : Room := { frames := 1, cells := 30, slots := 5392, locals := 24 }
noncomputable def fX12_init (N : Nat) (x0 : Nat) (z : Hp) : Option (Hp) := bd (zal z 12 200) fun z1 => gd (x0 < zn z1 ∧ zK z1 x0 = 11) <| bd (zsG z1 707 x0 (some (zn z))) fun z4 => bd (zal z4 12 200) fun z7 => bd (zsG z7 708 x0 (some (zn z4))) fun z10 => bd (zal z10 12 200) fun z14 => bd (zsG z14 709 x0 (some (zn z10))) fun z17 => bd (zal z17 12 200) fun z21 => bd (zsG z21 710 x0 (some (zn z17))) fun z24 => bd (zal z24 12 200) fun z28 => bd (zsG z28 712 x0 (some (zn z24))) fun z31 => bd (zal z31 12 200) fun z35 => bd (zsG z35 713 x0 (some (zn z31))) fun z38 => bd (zal z38 14 200) fun z42 => bd (zsG z42 714 x0 (some (zn z38))) fun z45 => bd (zal z45 12 200) fun z49 => bd (zsG z49 715 x0 (some (zn z45))) fun z52 => bd (zal z52 12 200) fun z56 => bd (zsG z56 716 x0 (some (zn z52))) fun z59 => bd (zsF z59 718 x0 (16 : Int32)) fun z63 => bd (zal z63 12 200) fun z66 => bd (zsG z66 720 x0 (some (zn z63))) fun z69 => bd (zal z69 12 200) fun z73 => bd (zsG z73 721 x0 (some (zn z69))) fun z76 => bd (zal z76 12 200) fun z80 => bd (zsG z80 722 x0 (some (zn z76))) fun z83 => bd (zal z83 12 200) fun z87 => bd (zsG z87 723 x0 (some (zn z83))) fun z90 => bd (zal z90 12 200) fun z94 => bd (zsG z94 724 x0 (some (zn z90))) fun z97 => bd (zal z97 12 600) fun z101 => bd (zsG z101 725 x0 (some (zn z97))) fun z104 => bd (zal z104 12 600) fun z108 => bd (zsG z108 726 x0 (some (zn z104))) fun z111 => bd (zal z111 12 1200) fun z115 => bd (zsG z115 728 x0 (some (zn z111))) fun z118 => bd (zal z118 12 8) fun z122 => bd (zsG z122 729 x0 (some (zn z118))) fun z125 => bd (zal z125 12 8) fun z129 => bd (zsG z129 730 x0 (some (zn z125))) fun z132 => bd (zal z132 12 8) fun z136 => bd (zsG z136 731 x0 (some (zn z132))) fun z139 => bd (zal z139 12 8) fun z143 => bd (zsG z143 732 x0 (some (zn z139))) fun z146 => bd (zal z146 12 6) fun z150 => bd (zsG z150 733 x0 (some (zn z146))) fun z153 => bd (zal z153 12 18) fun z157 => bd (zsG z157 734 x0 (some (zn z153))) fun z160 => bd (zal z160 12 6) fun z164 => bd (zsG z164 735 x0 (some (zn z160))) fun z167 => bd (zal z167 12 48) fun z171 => bd (zsG z171 736 x0 (some (zn z167))) fun z174 => bd (zal z174 12 48) fun z178 => bd (zsG z178 737 x0 (some (zn z174))) fun z181 => bd (zal z181 12 6) fun z185 => bd (zsG z185 738 x0 (some (zn z181))) fun z188 => bd (zal z188 12 8) fun z192 => bd (zsG z192 740 x0 (some (zn z188))) fun z195 => bd (zsF z195 743 x0 (1 : Int32)) fun z199 => bd (zsF z199 744 x0 (1 : Int32)) fun z202 => bd (zsF z202 745 x0 (12 : Int32)) fun z205 => bd (zsF z205 748 x0 (100 : Int32)) fun z208 => bd (zsF z208 749 x0 (100 : Int32)) fun z211 => bd (zal z211 12 10) fun z214 => bd (zsG z214 751 x0 (some (zn z211))) fun z217 => bd (zal z217 12 10) fun z221 => bd (zsG z221 752 x0 (some (zn z217))) fun z224 => some z224
set_option maxHeartbeats 4000000 in
set_option maxRecDepth 100000 in
theorem tX12_init_0 {n0 : Nat} {D : va_G} {Y : Nat → ClassId} {p : Program} {l : Launch} {e : Env} {s : State} {m : MethodId} {args : Array Value} {below : List Frame} {meth : Method} {c : Code} {N : Nat} {fin : Hp} {x0 : Nat}  {z : Hp} (C : Cx n0 D Y RX12 cX12_init none 1 wsX12_init "<init>" p s m args meth c) {x : (Hp)} (h : fX12_init N x0  z = some x) (hF : (fun x => x = fin) x) {H : Heap} {locs : List Loc} {ls : Array Slot} (hw : Wd n0 D Y z s H locs) (hl : lv_has ls 1 [(0, .ref (n0 + x0))]) : W p l e rmX12_init s m args below meth c H locs 0 0 (MQ below (PosV n0 D Y fin) args s 30 5392 (AA n0)) (F0 m 0 ls []) := by
  unfold fX12_init at h
  refine lv_aload_n C.1 C.2.1 dX12_init_0 rfl (lv_at hl 0 rfl) ?_
  refine W.objInit C.1 C.2.1 C.2.2.2.2.1 (C.2.2.2.2.2.1 (.methodLink RX12 1 objectInit) (by decide +kernel)) (C.2.2.2.2.2.1 (.instanceMethod objectInit) (by decide +kernel)) (C.2.2.2.2.2.1 _ (List.mem_of_getElem? (i := 3) rfl)) rfl (by rw [C.2.2.2.1]; exact hl.1) rfl dX12_init_1 (Nat.le_of_ble_eq_true rfl) (Nat.le_of_ble_eq_true rfl) ?_
  refine W.eq (g2 := F0 m 4 ls []) rfl ?_
  refine lv_aload_n C.1 C.2.1 dX12_init_4 rfl (lv_at hl 0 rfl) ?_
  refine lv_sipush (v := (200 : Int32)) C.1 C.2.1 dX12_init_5 (by decide) ?_
  obtain ⟨z1, e2, h⟩ := bdE h
  refine r_newi C hw (by decide +kernel) (N' := 200) (by decide) (by decide) (by decide) (by decide) (by decide) dX12_init_8 (fun H hw => ?_)
  rw [← e2] at hw
  have g3 : (zn z) < zn z1 ∧ zK z1 (zn z) = 12 := by rw [e2]; exact ok_new _ _ _
  obtain ⟨g6, h⟩ := gdE h
  obtain ⟨z4, e5, h⟩ := bdE h
  refine r_putG C hw g6 (by decide) (Cn := RX12) (T := TX12) (N := 50) rfl in_X12_init_X12 tyX12 tyX12_ok nmX12 3 (by decide) (by decide +kernel) (fun _ h => h) (Or.inr ⟨rfl, rfl, rfl⟩) (ty := .array .int) (by decide +kernel) rfl rfl (Nat.le_of_ble_eq_true rfl) (st_11_3 n0 z1 x0 (some (zn z))) e5 dX12_init_10 (fun H locs hw => ?_)
  refine lv_aload_n C.1 C.2.1 dX12_init_13 rfl (lv_at hl 0 rfl) ?_
  refine lv_sipush (v := (200 : Int32)) C.1 C.2.1 dX12_init_14 (by decide) ?_
  obtain ⟨z7, e8, h⟩ := bdE h
  refine r_newi C hw (by decide +kernel) (N' := 200) (by decide) (by decide) (by decide) (by decide) (by decide) dX12_init_17 (fun H hw => ?_)
  rw [← e8] at hw
  have g9 : (zn z4) < zn z7 ∧ zK z7 (zn z4) = 12 := by rw [e8]; exact ok_new _ _ _
  have g12 : x0 < zn z4 ∧ zK z4 x0 = 11 := by rw [e5]; exact g6
  have g13 : x0 < zn z7 ∧ zK z7 x0 = 11 := by rw [e8]; exact ok_al _ _ g12
  obtain ⟨z10, e11, h⟩ := bdE h
  refine r_putG C hw g13 (by decide) (Cn := RX12) (T := TX12) (N := 50) rfl in_X12_init_X12 tyX12 tyX12_ok nmX12 4 (by decide) (by decide +kernel) (fun _ h => h) (Or.inr ⟨rfl, rfl, rfl⟩) (ty := .array .int) (by decide +kernel) rfl rfl (Nat.le_of_ble_eq_true rfl) (st_11_4 n0 z7 x0 (some (zn z4))) e11 dX12_init_19 (fun H locs hw => ?_)
  refine lv_aload_n C.1 C.2.1 dX12_init_22 rfl (lv_at hl 0 rfl) ?_
  refine lv_sipush (v := (200 : Int32)) C.1 C.2.1 dX12_init_23 (by decide) ?_
  obtain ⟨z14, e15, h⟩ := bdE h
  refine r_newi C hw (by decide +kernel) (N' := 200) (by decide) (by decide) (by decide) (by decide) (by decide) dX12_init_26 (fun H hw => ?_)
  rw [← e15] at hw
  have g16 : (zn z10) < zn z14 ∧ zK z14 (zn z10) = 12 := by rw [e15]; exact ok_new _ _ _
  have g19 : x0 < zn z10 ∧ zK z10 x0 = 11 := by rw [e11]; exact g13
  have g20 : x0 < zn z14 ∧ zK z14 x0 = 11 := by rw [e15]; exact ok_al _ _ g19
  obtain ⟨z17, e18, h⟩ := bdE h
  refine r_putG C hw g20 (by decide) (Cn := RX12) (T := TX12) (N := 50) rfl in_X12_init_X12 tyX12 tyX12_ok nmX12 5 (by decide) (by decide +kernel) (fun _ h => h) (Or.inr ⟨rfl, rfl, rfl⟩) (ty := .array .int) (by decide +kernel) rfl rfl (Nat.le_of_ble_eq_true rfl) (st_11_5 n0 z14 x0 (some (zn z10))) e18 dX12_init_28 (fun H locs hw => ?_)
  refine lv_aload_n C.1 C.2.1 dX12_init_31 rfl (lv_at hl 0 rfl) ?_
  refine lv_sipush (v := (200 : Int32)) C.1 C.2.1 dX12_init_32 (by decide) ?_
  obtain ⟨z21, e22, h⟩ := bdE h
  refine r_newi C hw (by decide +kernel) (N' := 200) (by decide) (by decide) (by decide) (by decide) (by decide) dX12_init_35 (fun H hw => ?_)
  rw [← e22] at hw
  have g23 : (zn z17) < zn z21 ∧ zK z21 (zn z17) = 12 := by rw [e22]; exact ok_new _ _ _
  have g26 : x0 < zn z17 ∧ zK z17 x0 = 11 := by rw [e18]; exact g20
  have g27 : x0 < zn z21 ∧ zK z21 x0 = 11 := by rw [e22]; exact ok_al _ _ g26
  obtain ⟨z24, e25, h⟩ := bdE h
  refine r_putG C hw g27 (by decide) (Cn := RX12) (T := TX12) (N := 50) rfl in_X12_init_X12 tyX12 tyX12_ok nmX12 6 (by decide) (by decide +kernel) (fun _ h => h) (Or.inr ⟨rfl, rfl, rfl⟩) (ty := .array .int) (by decide +kernel) rfl rfl (Nat.le_of_ble_eq_true rfl) (st_11_6 n0 z21 x0 (some (zn z17))) e25 dX12_init_37 (fun H locs hw => ?_)
  refine lv_aload_n C.1 C.2.1 dX12_init_40 rfl (lv_at hl 0 rfl) ?_
  refine lv_sipush (v := (200 : Int32)) C.1 C.2.1 dX12_init_41 (by decide) ?_
  obtain ⟨z28, e29, h⟩ := bdE h
  refine r_newi C hw (by decide +kernel) (N' := 200) (by decide) (by decide) (by decide) (by decide) (by decide) dX12_init_44 (fun H hw => ?_)
  rw [← e29] at hw
  have g30 : (zn z24) < zn z28 ∧ zK z28 (zn z24) = 12 := by rw [e29]; exact ok_new _ _ _
  have g33 : x0 < zn z24 ∧ zK z24 x0 = 11 := by rw [e25]; exact g27
  have g34 : x0 < zn z28 ∧ zK z28 x0 = 11 := by rw [e29]; exact ok_al _ _ g33
  obtain ⟨z31, e32, h⟩ := bdE h
  refine r_putG C hw g34 (by decide) (Cn := RX12) (T := TX12) (N := 50) rfl in_X12_init_X12 tyX12 tyX12_ok nmX12 8 (by decide) (by decide +kernel) (fun _ h => h) (Or.inr ⟨rfl, rfl, rfl⟩) (ty := .array .int) (by decide +kernel) rfl rfl (Nat.le_of_ble_eq_true rfl) (st_11_8 n0 z28 x0 (some (zn z24))) e32 dX12_init_46 (fun H locs hw => ?_)
  refine lv_aload_n C.1 C.2.1 dX12_init_49 rfl (lv_at hl 0 rfl) ?_
  refine lv_sipush (v := (200 : Int32)) C.1 C.2.1 dX12_init_50 (by decide) ?_
  obtain ⟨z35, e36, h⟩ := bdE h
  refine r_newi C hw (by decide +kernel) (N' := 200) (by decide) (by decide) (by decide) (by decide) (by decide) dX12_init_53 (fun H hw => ?_)
  rw [← e36] at hw
  have g37 : (zn z31) < zn z35 ∧ zK z35 (zn z31) = 12 := by rw [e36]; exact ok_new _ _ _
  have g40 : x0 < zn z31 ∧ zK z31 x0 = 11 := by rw [e32]; exact g34
  have g41 : x0 < zn z35 ∧ zK z35 x0 = 11 := by rw [e36]; exact ok_al _ _ g40
  obtain ⟨z38, e39, h⟩ := bdE h
  refine r_putG C hw g41 (by decide) (Cn := RX12) (T := TX12) (N := 50) rfl in_X12_init_X12 tyX12 tyX12_ok nmX12 9 (by decide) (by decide +kernel) (fun _ h => h) (Or.inr ⟨rfl, rfl, rfl⟩) (ty := .array .int) (by decide +kernel) rfl rfl (Nat.le_of_ble_eq_true rfl) (st_11_9 n0 z35 x0 (some (zn z31))) e39 dX12_init_55 (fun H locs hw => ?_)
  refine lv_aload_n C.1 C.2.1 dX12_init_58 rfl (lv_at hl 0 rfl) ?_
  refine lv_sipush (v := (200 : Int32)) C.1 C.2.1 dX12_init_59 (by decide) ?_
  obtain ⟨z42, e43, h⟩ := bdE h
  refine r_newz C hw (by decide +kernel) (N' := 200) (by decide) (by decide) (by decide) (by decide) (by decide) dX12_init_62 (fun H hw => ?_)
  rw [← e43] at hw
  have g44 : (zn z38) < zn z42 ∧ zK z42 (zn z38) = 14 := by rw [e43]; exact ok_new _ _ _
  have g47 : x0 < zn z38 ∧ zK z38 x0 = 11 := by rw [e39]; exact g41
  have g48 : x0 < zn z42 ∧ zK z42 x0 = 11 := by rw [e43]; exact ok_al _ _ g47
  obtain ⟨z45, e46, h⟩ := bdE h
  refine r_putG C hw g48 (by decide) (Cn := RX12) (T := TX12) (N := 50) rfl in_X12_init_X12 tyX12 tyX12_ok nmX12 10 (by decide) (by decide +kernel) (fun _ h => h) (Or.inr ⟨rfl, rfl, rfl⟩) (ty := .array .boolean) (by decide +kernel) rfl rfl (Nat.le_of_ble_eq_true rfl) (st_11_10 n0 z42 x0 (some (zn z38))) e46 dX12_init_64 (fun H locs hw => ?_)
  refine lv_aload_n C.1 C.2.1 dX12_init_67 rfl (lv_at hl 0 rfl) ?_
  refine lv_sipush (v := (200 : Int32)) C.1 C.2.1 dX12_init_68 (by decide) ?_
  obtain ⟨z49, e50, h⟩ := bdE h
  refine r_newi C hw (by decide +kernel) (N' := 200) (by decide) (by decide) (by decide) (by decide) (by decide) dX12_init_71 (fun H hw => ?_)
  rw [← e50] at hw
  have g51 : (zn z45) < zn z49 ∧ zK z49 (zn z45) = 12 := by rw [e50]; exact ok_new _ _ _
  have g54 : x0 < zn z45 ∧ zK z45 x0 = 11 := by rw [e46]; exact g48
  have g55 : x0 < zn z49 ∧ zK z49 x0 = 11 := by rw [e50]; exact ok_al _ _ g54
  obtain ⟨z52, e53, h⟩ := bdE h
  refine r_putG C hw g55 (by decide) (Cn := RX12) (T := TX12) (N := 50) rfl in_X12_init_X12 tyX12 tyX12_ok nmX12 11 (by decide) (by decide +kernel) (fun _ h => h) (Or.inr ⟨rfl, rfl, rfl⟩) (ty := .array .int) (by decide +kernel) rfl rfl (Nat.le_of_ble_eq_true rfl) (st_11_11 n0 z49 x0 (some (zn z45))) e53 dX12_init_73 (fun H locs hw => ?_)
  refine lv_aload_n C.1 C.2.1 dX12_init_76 rfl (lv_at hl 0 rfl) ?_
  refine lv_sipush (v := (200 : Int32)) C.1 C.2.1 dX12_init_77 (by decide) ?_
  obtain ⟨z56, e57, h⟩ := bdE h
  refine r_newi C hw (by decide +kernel) (N' := 200) (by decide) (by decide) (by decide) (by decide) (by decide) dX12_init_80 (fun H hw => ?_)
  rw [← e57] at hw
  have g58 : (zn z52) < zn z56 ∧ zK z56 (zn z52) = 12 := by rw [e57]; exact ok_new _ _ _
  have g61 : x0 < zn z52 ∧ zK z52 x0 = 11 := by rw [e53]; exact g55
  have g62 : x0 < zn z56 ∧ zK z56 x0 = 11 := by rw [e57]; exact ok_al _ _ g61
  obtain ⟨z59, e60, h⟩ := bdE h
  refine r_putG C hw g62 (by decide) (Cn := RX12) (T := TX12) (N := 50) rfl in_X12_init_X12 tyX12 tyX12_ok nmX12 12 (by decide) (by decide +kernel) (fun _ h => h) (Or.inr ⟨rfl, rfl, rfl⟩) (ty := .array .int) (by decide +kernel) rfl rfl (Nat.le_of_ble_eq_true rfl) (st_11_12 n0 z56 x0 (some (zn z52))) e60 dX12_init_82 (fun H locs hw => ?_)
  refine lv_aload_n C.1 C.2.1 dX12_init_85 rfl (lv_at hl 0 rfl) ?_
  refine lv_bipush (v := (16 : Int32)) C.1 C.2.1 dX12_init_86 (by decide) ?_
  have g65 : x0 < zn z59 ∧ zK z59 x0 = 11 := by rw [e60]; exact g62
  obtain ⟨z63, e64, h⟩ := bdE h
  refine r_putI C hw g65 (by decide) (Cn := RX12) (T := TX12) (N := 50) rfl in_X12_init_X12 tyX12 tyX12_ok nmX12 14 (by decide) (by decide +kernel) (fun _ h => h) (Or.inl rfl) (ty := .int) (by decide +kernel) rfl rfl (Nat.le_of_ble_eq_true rfl) (st_11_14 n0 z59 x0 (16 : Int32)) e64 dX12_init_88 (fun H locs hw => ?_)
  refine lv_aload_n C.1 C.2.1 dX12_init_91 rfl (lv_at hl 0 rfl) ?_
  refine lv_sipush (v := (200 : Int32)) C.1 C.2.1 dX12_init_92 (by decide) ?_
  obtain ⟨z66, e67, h⟩ := bdE h
  refine r_newi C hw (by decide +kernel) (N' := 200) (by decide) (by decide) (by decide) (by decide) (by decide) dX12_init_95 (fun H hw => ?_)
  rw [← e67] at hw
  have g68 : (zn z63) < zn z66 ∧ zK z66 (zn z63) = 12 := by rw [e67]; exact ok_new _ _ _
  have g71 : x0 < zn z63 ∧ zK z63 x0 = 11 := by rw [e64]; exact g65
  have g72 : x0 < zn z66 ∧ zK z66 x0 = 11 := by rw [e67]; exact ok_al _ _ g71
  obtain ⟨z69, e70, h⟩ := bdE h
  refine r_putG C hw g72 (by decide) (Cn := RX12) (T := TX12) (N := 50) rfl in_X12_init_X12 tyX12 tyX12_ok nmX12 16 (by decide) (by decide +kernel) (fun _ h => h) (Or.inr ⟨rfl, rfl, rfl⟩) (ty := .array .int) (by decide +kernel) rfl rfl (Nat.le_of_ble_eq_true rfl) (st_11_16 n0 z66 x0 (some (zn z63))) e70 dX12_init_97 (fun H locs hw => ?_)
  refine lv_aload_n C.1 C.2.1 dX12_init_100 rfl (lv_at hl 0 rfl) ?_
  refine lv_sipush (v := (200 : Int32)) C.1 C.2.1 dX12_init_101 (by decide) ?_
  obtain ⟨z73, e74, h⟩ := bdE h
  refine r_newi C hw (by decide +kernel) (N' := 200) (by decide) (by decide) (by decide) (by decide) (by decide) dX12_init_104 (fun H hw => ?_)
  rw [← e74] at hw
  have g75 : (zn z69) < zn z73 ∧ zK z73 (zn z69) = 12 := by rw [e74]; exact ok_new _ _ _
  have g78 : x0 < zn z69 ∧ zK z69 x0 = 11 := by rw [e70]; exact g72
  have g79 : x0 < zn z73 ∧ zK z73 x0 = 11 := by rw [e74]; exact ok_al _ _ g78
  obtain ⟨z76, e77, h⟩ := bdE h
  refine r_putG C hw g79 (by decide) (Cn := RX12) (T := TX12) (N := 50) rfl in_X12_init_X12 tyX12 tyX12_ok nmX12 17 (by decide) (by decide +kernel) (fun _ h => h) (Or.inr ⟨rfl, rfl, rfl⟩) (ty := .array .int) (by decide +kernel) rfl rfl (Nat.le_of_ble_eq_true rfl) (st_11_17 n0 z73 x0 (some (zn z69))) e77 dX12_init_106 (fun H locs hw => ?_)
  refine lv_aload_n C.1 C.2.1 dX12_init_109 rfl (lv_at hl 0 rfl) ?_
  refine lv_sipush (v := (200 : Int32)) C.1 C.2.1 dX12_init_110 (by decide) ?_
  obtain ⟨z80, e81, h⟩ := bdE h
  refine r_newi C hw (by decide +kernel) (N' := 200) (by decide) (by decide) (by decide) (by decide) (by decide) dX12_init_113 (fun H hw => ?_)
  rw [← e81] at hw
  have g82 : (zn z76) < zn z80 ∧ zK z80 (zn z76) = 12 := by rw [e81]; exact ok_new _ _ _
  have g85 : x0 < zn z76 ∧ zK z76 x0 = 11 := by rw [e77]; exact g79
  have g86 : x0 < zn z80 ∧ zK z80 x0 = 11 := by rw [e81]; exact ok_al _ _ g85
  obtain ⟨z83, e84, h⟩ := bdE h
  refine r_putG C hw g86 (by decide) (Cn := RX12) (T := TX12) (N := 50) rfl in_X12_init_X12 tyX12 tyX12_ok nmX12 18 (by decide) (by decide +kernel) (fun _ h => h) (Or.inr ⟨rfl, rfl, rfl⟩) (ty := .array .int) (by decide +kernel) rfl rfl (Nat.le_of_ble_eq_true rfl) (st_11_18 n0 z80 x0 (some (zn z76))) e84 dX12_init_115 (fun H locs hw => ?_)
  refine lv_aload_n C.1 C.2.1 dX12_init_118 rfl (lv_at hl 0 rfl) ?_
  refine lv_sipush (v := (200 : Int32)) C.1 C.2.1 dX12_init_119 (by decide) ?_
  obtain ⟨z87, e88, h⟩ := bdE h
  refine r_newi C hw (by decide +kernel) (N' := 200) (by decide) (by decide) (by decide) (by decide) (by decide) dX12_init_122 (fun H hw => ?_)
  rw [← e88] at hw
  have g89 : (zn z83) < zn z87 ∧ zK z87 (zn z83) = 12 := by rw [e88]; exact ok_new _ _ _
  have g92 : x0 < zn z83 ∧ zK z83 x0 = 11 := by rw [e84]; exact g86
  have g93 : x0 < zn z87 ∧ zK z87 x0 = 11 := by rw [e88]; exact ok_al _ _ g92
  obtain ⟨z90, e91, h⟩ := bdE h
  refine r_putG C hw g93 (by decide) (Cn := RX12) (T := TX12) (N := 50) rfl in_X12_init_X12 tyX12 tyX12_ok nmX12 19 (by decide) (by decide +kernel) (fun _ h => h) (Or.inr ⟨rfl, rfl, rfl⟩) (ty := .array .int) (by decide +kernel) rfl rfl (Nat.le_of_ble_eq_true rfl) (st_11_19 n0 z87 x0 (some (zn z83))) e91 dX12_init_124 (fun H locs hw => ?_)
  refine lv_aload_n C.1 C.2.1 dX12_init_127 rfl (lv_at hl 0 rfl) ?_
  refine lv_sipush (v := (200 : Int32)) C.1 C.2.1 dX12_init_128 (by decide) ?_
  obtain ⟨z94, e95, h⟩ := bdE h
  refine r_newi C hw (by decide +kernel) (N' := 200) (by decide) (by decide) (by decide) (by decide) (by decide) dX12_init_131 (fun H hw => ?_)
  rw [← e95] at hw
  have g96 : (zn z90) < zn z94 ∧ zK z94 (zn z90) = 12 := by rw [e95]; exact ok_new _ _ _
  have g99 : x0 < zn z90 ∧ zK z90 x0 = 11 := by rw [e91]; exact g93
  have g100 : x0 < zn z94 ∧ zK z94 x0 = 11 := by rw [e95]; exact ok_al _ _ g99
  obtain ⟨z97, e98, h⟩ := bdE h
  refine r_putG C hw g100 (by decide) (Cn := RX12) (T := TX12) (N := 50) rfl in_X12_init_X12 tyX12 tyX12_ok nmX12 20 (by decide) (by decide +kernel) (fun _ h => h) (Or.inr ⟨rfl, rfl, rfl⟩) (ty := .array .int) (by decide +kernel) rfl rfl (Nat.le_of_ble_eq_true rfl) (st_11_20 n0 z94 x0 (some (zn z90))) e98 dX12_init_133 (fun H locs hw => ?_)
  refine lv_aload_n C.1 C.2.1 dX12_init_136 rfl (lv_at hl 0 rfl) ?_
  refine lv_sipush (v := (600 : Int32)) C.1 C.2.1 dX12_init_137 (by decide) ?_
  obtain ⟨z101, e102, h⟩ := bdE h
  refine r_newi C hw (by decide +kernel) (N' := 600) (by decide) (by decide) (by decide) (by decide) (by decide) dX12_init_140 (fun H hw => ?_)
  rw [← e102] at hw
  have g103 : (zn z97) < zn z101 ∧ zK z101 (zn z97) = 12 := by rw [e102]; exact ok_new _ _ _
  have g106 : x0 < zn z97 ∧ zK z97 x0 = 11 := by rw [e98]; exact g100
  have g107 : x0 < zn z101 ∧ zK z101 x0 = 11 := by rw [e102]; exact ok_al _ _ g106
  obtain ⟨z104, e105, h⟩ := bdE h
  refine r_putG C hw g107 (by decide) (Cn := RX12) (T := TX12) (N := 50) rfl in_X12_init_X12 tyX12 tyX12_ok nmX12 21 (by decide) (by decide +kernel) (fun _ h => h) (Or.inr ⟨rfl, rfl, rfl⟩) (ty := .array .int) (by decide +kernel) rfl rfl (Nat.le_of_ble_eq_true rfl) (st_11_21 n0 z101 x0 (some (zn z97))) e105 dX12_init_142 (fun H locs hw => ?_)
  refine lv_aload_n C.1 C.2.1 dX12_init_145 rfl (lv_at hl 0 rfl) ?_
  refine lv_sipush (v := (600 : Int32)) C.1 C.2.1 dX12_init_146 (by decide) ?_
  obtain ⟨z108, e109, h⟩ := bdE h
  refine r_newi C hw (by decide +kernel) (N' := 600) (by decide) (by decide) (by decide) (by decide) (by decide) dX12_init_149 (fun H hw => ?_)
  rw [← e109] at hw
  have g110 : (zn z104) < zn z108 ∧ zK z108 (zn z104) = 12 := by rw [e109]; exact ok_new _ _ _
  have g113 : x0 < zn z104 ∧ zK z104 x0 = 11 := by rw [e105]; exact g107
  have g114 : x0 < zn z108 ∧ zK z108 x0 = 11 := by rw [e109]; exact ok_al _ _ g113
  obtain ⟨z111, e112, h⟩ := bdE h
  refine r_putG C hw g114 (by decide) (Cn := RX12) (T := TX12) (N := 50) rfl in_X12_init_X12 tyX12 tyX12_ok nmX12 22 (by decide) (by decide +kernel) (fun _ h => h) (Or.inr ⟨rfl, rfl, rfl⟩) (ty := .array .int) (by decide +kernel) rfl rfl (Nat.le_of_ble_eq_true rfl) (st_11_22 n0 z108 x0 (some (zn z104))) e112 dX12_init_151 (fun H locs hw => ?_)
  refine lv_aload_n C.1 C.2.1 dX12_init_154 rfl (lv_at hl 0 rfl) ?_
  refine lv_sipush (v := (1200 : Int32)) C.1 C.2.1 dX12_init_155 (by decide) ?_
  obtain ⟨z115, e116, h⟩ := bdE h
  refine r_newi C hw (by decide +kernel) (N' := 1200) (by decide) (by decide) (by decide) (by decide) (by decide) dX12_init_158 (fun H hw => ?_)
  rw [← e116] at hw
  have g117 : (zn z111) < zn z115 ∧ zK z115 (zn z111) = 12 := by rw [e116]; exact ok_new _ _ _
  have g120 : x0 < zn z111 ∧ zK z111 x0 = 11 := by rw [e112]; exact g114
  have g121 : x0 < zn z115 ∧ zK z115 x0 = 11 := by rw [e116]; exact ok_al _ _ g120
  obtain ⟨z118, e119, h⟩ := bdE h
  refine r_putG C hw g121 (by decide) (Cn := RX12) (T := TX12) (N := 50) rfl in_X12_init_X12 tyX12 tyX12_ok nmX12 24 (by decide) (by decide +kernel) (fun _ h => h) (Or.inr ⟨rfl, rfl, rfl⟩) (ty := .array .int) (by decide +kernel) rfl rfl (Nat.le_of_ble_eq_true rfl) (st_11_24 n0 z115 x0 (some (zn z111))) e119 dX12_init_160 (fun H locs hw => ?_)
  refine lv_aload_n C.1 C.2.1 dX12_init_163 rfl (lv_at hl 0 rfl) ?_
  refine lv_bipush (v := (8 : Int32)) C.1 C.2.1 dX12_init_164 (by decide) ?_
  obtain ⟨z122, e123, h⟩ := bdE h
  refine r_newi C hw (by decide +kernel) (N' := 8) (by decide) (by decide) (by decide) (by decide) (by decide) dX12_init_166 (fun H hw => ?_)
  rw [← e123] at hw
  have g124 : (zn z118) < zn z122 ∧ zK z122 (zn z118) = 12 := by rw [e123]; exact ok_new _ _ _
  have g127 : x0 < zn z118 ∧ zK z118 x0 = 11 := by rw [e119]; exact g121
  have g128 : x0 < zn z122 ∧ zK z122 x0 = 11 := by rw [e123]; exact ok_al _ _ g127
  obtain ⟨z125, e126, h⟩ := bdE h
  refine r_putG C hw g128 (by decide) (Cn := RX12) (T := TX12) (N := 50) rfl in_X12_init_X12 tyX12 tyX12_ok nmX12 25 (by decide) (by decide +kernel) (fun _ h => h) (Or.inr ⟨rfl, rfl, rfl⟩) (ty := .array .int) (by decide +kernel) rfl rfl (Nat.le_of_ble_eq_true rfl) (st_11_25 n0 z122 x0 (some (zn z118))) e126 dX12_init_168 (fun H locs hw => ?_)
  refine lv_aload_n C.1 C.2.1 dX12_init_171 rfl (lv_at hl 0 rfl) ?_
  refine lv_bipush (v := (8 : Int32)) C.1 C.2.1 dX12_init_172 (by decide) ?_
  obtain ⟨z129, e130, h⟩ := bdE h
  refine r_newi C hw (by decide +kernel) (N' := 8) (by decide) (by decide) (by decide) (by decide) (by decide) dX12_init_174 (fun H hw => ?_)
  rw [← e130] at hw
  have g131 : (zn z125) < zn z129 ∧ zK z129 (zn z125) = 12 := by rw [e130]; exact ok_new _ _ _
  have g134 : x0 < zn z125 ∧ zK z125 x0 = 11 := by rw [e126]; exact g128
  have g135 : x0 < zn z129 ∧ zK z129 x0 = 11 := by rw [e130]; exact ok_al _ _ g134
  obtain ⟨z132, e133, h⟩ := bdE h
  refine r_putG C hw g135 (by decide) (Cn := RX12) (T := TX12) (N := 50) rfl in_X12_init_X12 tyX12 tyX12_ok nmX12 26 (by decide) (by decide +kernel) (fun _ h => h) (Or.inr ⟨rfl, rfl, rfl⟩) (ty := .array .int) (by decide +kernel) rfl rfl (Nat.le_of_ble_eq_true rfl) (st_11_26 n0 z129 x0 (some (zn z125))) e133 dX12_init_176 (fun H locs hw => ?_)
  refine lv_aload_n C.1 C.2.1 dX12_init_179 rfl (lv_at hl 0 rfl) ?_
  refine lv_bipush (v := (8 : Int32)) C.1 C.2.1 dX12_init_180 (by decide) ?_
  obtain ⟨z136, e137, h⟩ := bdE h
  refine r_newi C hw (by decide +kernel) (N' := 8) (by decide) (by decide) (by decide) (by decide) (by decide) dX12_init_182 (fun H hw => ?_)
  rw [← e137] at hw
  have g138 : (zn z132) < zn z136 ∧ zK z136 (zn z132) = 12 := by rw [e137]; exact ok_new _ _ _
  have g141 : x0 < zn z132 ∧ zK z132 x0 = 11 := by rw [e133]; exact g135
  have g142 : x0 < zn z136 ∧ zK z136 x0 = 11 := by rw [e137]; exact ok_al _ _ g141
  obtain ⟨z139, e140, h⟩ := bdE h
  refine r_putG C hw g142 (by decide) (Cn := RX12) (T := TX12) (N := 50) rfl in_X12_init_X12 tyX12 tyX12_ok nmX12 27 (by decide) (by decide +kernel) (fun _ h => h) (Or.inr ⟨rfl, rfl, rfl⟩) (ty := .array .int) (by decide +kernel) rfl rfl (Nat.le_of_ble_eq_true rfl) (st_11_27 n0 z136 x0 (some (zn z132))) e140 dX12_init_184 (fun H locs hw => ?_)
  refine lv_aload_n C.1 C.2.1 dX12_init_187 rfl (lv_at hl 0 rfl) ?_
  refine lv_bipush (v := (8 : Int32)) C.1 C.2.1 dX12_init_188 (by decide) ?_
  obtain ⟨z143, e144, h⟩ := bdE h
  refine r_newi C hw (by decide +kernel) (N' := 8) (by decide) (by decide) (by decide) (by decide) (by decide) dX12_init_190 (fun H hw => ?_)
  rw [← e144] at hw
  have g145 : (zn z139) < zn z143 ∧ zK z143 (zn z139) = 12 := by rw [e144]; exact ok_new _ _ _
  have g148 : x0 < zn z139 ∧ zK z139 x0 = 11 := by rw [e140]; exact g142
  have g149 : x0 < zn z143 ∧ zK z143 x0 = 11 := by rw [e144]; exact ok_al _ _ g148
  obtain ⟨z146, e147, h⟩ := bdE h
  refine r_putG C hw g149 (by decide) (Cn := RX12) (T := TX12) (N := 50) rfl in_X12_init_X12 tyX12 tyX12_ok nmX12 28 (by decide) (by decide +kernel) (fun _ h => h) (Or.inr ⟨rfl, rfl, rfl⟩) (ty := .array .int) (by decide +kernel) rfl rfl (Nat.le_of_ble_eq_true rfl) (st_11_28 n0 z143 x0 (some (zn z139))) e147 dX12_init_192 (fun H locs hw => ?_)
  refine lv_aload_n C.1 C.2.1 dX12_init_195 rfl (lv_at hl 0 rfl) ?_
  refine lv_bipush (v := (6 : Int32)) C.1 C.2.1 dX12_init_196 (by decide) ?_
  obtain ⟨z150, e151, h⟩ := bdE h
  refine r_newi C hw (by decide +kernel) (N' := 6) (by decide) (by decide) (by decide) (by decide) (by decide) dX12_init_198 (fun H hw => ?_)
  rw [← e151] at hw
  have g152 : (zn z146) < zn z150 ∧ zK z150 (zn z146) = 12 := by rw [e151]; exact ok_new _ _ _
  have g155 : x0 < zn z146 ∧ zK z146 x0 = 11 := by rw [e147]; exact g149
  have g156 : x0 < zn z150 ∧ zK z150 x0 = 11 := by rw [e151]; exact ok_al _ _ g155
  obtain ⟨z153, e154, h⟩ := bdE h
  refine r_putG C hw g156 (by decide) (Cn := RX12) (T := TX12) (N := 50) rfl in_X12_init_X12 tyX12 tyX12_ok nmX12 29 (by decide) (by decide +kernel) (fun _ h => h) (Or.inr ⟨rfl, rfl, rfl⟩) (ty := .array .int) (by decide +kernel) rfl rfl (Nat.le_of_ble_eq_true rfl) (st_11_29 n0 z150 x0 (some (zn z146))) e154 dX12_init_200 (fun H locs hw => ?_)
  refine lv_aload_n C.1 C.2.1 dX12_init_203 rfl (lv_at hl 0 rfl) ?_
  refine lv_bipush (v := (18 : Int32)) C.1 C.2.1 dX12_init_204 (by decide) ?_
  obtain ⟨z157, e158, h⟩ := bdE h
  refine r_newi C hw (by decide +kernel) (N' := 18) (by decide) (by decide) (by decide) (by decide) (by decide) dX12_init_206 (fun H hw => ?_)
  rw [← e158] at hw
  have g159 : (zn z153) < zn z157 ∧ zK z157 (zn z153) = 12 := by rw [e158]; exact ok_new _ _ _
  have g162 : x0 < zn z153 ∧ zK z153 x0 = 11 := by rw [e154]; exact g156
  have g163 : x0 < zn z157 ∧ zK z157 x0 = 11 := by rw [e158]; exact ok_al _ _ g162
  obtain ⟨z160, e161, h⟩ := bdE h
  refine r_putG C hw g163 (by decide) (Cn := RX12) (T := TX12) (N := 50) rfl in_X12_init_X12 tyX12 tyX12_ok nmX12 30 (by decide) (by decide +kernel) (fun _ h => h) (Or.inr ⟨rfl, rfl, rfl⟩) (ty := .array .int) (by decide +kernel) rfl rfl (Nat.le_of_ble_eq_true rfl) (st_11_30 n0 z157 x0 (some (zn z153))) e161 dX12_init_208 (fun H locs hw => ?_)
  refine lv_aload_n C.1 C.2.1 dX12_init_211 rfl (lv_at hl 0 rfl) ?_
  refine lv_bipush (v := (6 : Int32)) C.1 C.2.1 dX12_init_212 (by decide) ?_
  obtain ⟨z164, e165, h⟩ := bdE h
  refine r_newi C hw (by decide +kernel) (N' := 6) (by decide) (by decide) (by decide) (by decide) (by decide) dX12_init_214 (fun H hw => ?_)
  rw [← e165] at hw
  have g166 : (zn z160) < zn z164 ∧ zK z164 (zn z160) = 12 := by rw [e165]; exact ok_new _ _ _
  have g169 : x0 < zn z160 ∧ zK z160 x0 = 11 := by rw [e161]; exact g163
  have g170 : x0 < zn z164 ∧ zK z164 x0 = 11 := by rw [e165]; exact ok_al _ _ g169
  obtain ⟨z167, e168, h⟩ := bdE h
  refine r_putG C hw g170 (by decide) (Cn := RX12) (T := TX12) (N := 50) rfl in_X12_init_X12 tyX12 tyX12_ok nmX12 31 (by decide) (by decide +kernel) (fun _ h => h) (Or.inr ⟨rfl, rfl, rfl⟩) (ty := .array .int) (by decide +kernel) rfl rfl (Nat.le_of_ble_eq_true rfl) (st_11_31 n0 z164 x0 (some (zn z160))) e168 dX12_init_216 (fun H locs hw => ?_)
  refine lv_aload_n C.1 C.2.1 dX12_init_219 rfl (lv_at hl 0 rfl) ?_
  refine lv_bipush (v := (48 : Int32)) C.1 C.2.1 dX12_init_220 (by decide) ?_
  obtain ⟨z171, e172, h⟩ := bdE h
  refine r_newi C hw (by decide +kernel) (N' := 48) (by decide) (by decide) (by decide) (by decide) (by decide) dX12_init_222 (fun H hw => ?_)
  rw [← e172] at hw
  have g173 : (zn z167) < zn z171 ∧ zK z171 (zn z167) = 12 := by rw [e172]; exact ok_new _ _ _
  have g176 : x0 < zn z167 ∧ zK z167 x0 = 11 := by rw [e168]; exact g170
  have g177 : x0 < zn z171 ∧ zK z171 x0 = 11 := by rw [e172]; exact ok_al _ _ g176
  obtain ⟨z174, e175, h⟩ := bdE h
  refine r_putG C hw g177 (by decide) (Cn := RX12) (T := TX12) (N := 50) rfl in_X12_init_X12 tyX12 tyX12_ok nmX12 32 (by decide) (by decide +kernel) (fun _ h => h) (Or.inr ⟨rfl, rfl, rfl⟩) (ty := .array .int) (by decide +kernel) rfl rfl (Nat.le_of_ble_eq_true rfl) (st_11_32 n0 z171 x0 (some (zn z167))) e175 dX12_init_224 (fun H locs hw => ?_)
  refine lv_aload_n C.1 C.2.1 dX12_init_227 rfl (lv_at hl 0 rfl) ?_
  refine lv_bipush (v := (48 : Int32)) C.1 C.2.1 dX12_init_228 (by decide) ?_
  obtain ⟨z178, e179, h⟩ := bdE h
  refine r_newi C hw (by decide +kernel) (N' := 48) (by decide) (by decide) (by decide) (by decide) (by decide) dX12_init_230 (fun H hw => ?_)
  rw [← e179] at hw
  have g180 : (zn z174) < zn z178 ∧ zK z178 (zn z174) = 12 := by rw [e179]; exact ok_new _ _ _
  have g183 : x0 < zn z174 ∧ zK z174 x0 = 11 := by rw [e175]; exact g177
  have g184 : x0 < zn z178 ∧ zK z178 x0 = 11 := by rw [e179]; exact ok_al _ _ g183
  obtain ⟨z181, e182, h⟩ := bdE h
  refine r_putG C hw g184 (by decide) (Cn := RX12) (T := TX12) (N := 50) rfl in_X12_init_X12 tyX12 tyX12_ok nmX12 33 (by decide) (by decide +kernel) (fun _ h => h) (Or.inr ⟨rfl, rfl, rfl⟩) (ty := .array .int) (by decide +kernel) rfl rfl (Nat.le_of_ble_eq_true rfl) (st_11_33 n0 z178 x0 (some (zn z174))) e182 dX12_init_232 (fun H locs hw => ?_)
  refine lv_aload_n C.1 C.2.1 dX12_init_235 rfl (lv_at hl 0 rfl) ?_
  refine lv_bipush (v := (6 : Int32)) C.1 C.2.1 dX12_init_236 (by decide) ?_
  obtain ⟨z185, e186, h⟩ := bdE h
  refine r_newi C hw (by decide +kernel) (N' := 6) (by decide) (by decide) (by decide) (by decide) (by decide) dX12_init_238 (fun H hw => ?_)
  rw [← e186] at hw
  have g187 : (zn z181) < zn z185 ∧ zK z185 (zn z181) = 12 := by rw [e186]; exact ok_new _ _ _
  have g190 : x0 < zn z181 ∧ zK z181 x0 = 11 := by rw [e182]; exact g184
  have g191 : x0 < zn z185 ∧ zK z185 x0 = 11 := by rw [e186]; exact ok_al _ _ g190
  obtain ⟨z188, e189, h⟩ := bdE h
  refine r_putG C hw g191 (by decide) (Cn := RX12) (T := TX12) (N := 50) rfl in_X12_init_X12 tyX12 tyX12_ok nmX12 34 (by decide) (by decide +kernel) (fun _ h => h) (Or.inr ⟨rfl, rfl, rfl⟩) (ty := .array .int) (by decide +kernel) rfl rfl (Nat.le_of_ble_eq_true rfl) (st_11_34 n0 z185 x0 (some (zn z181))) e189 dX12_init_240 (fun H locs hw => ?_)
  refine lv_aload_n C.1 C.2.1 dX12_init_243 rfl (lv_at hl 0 rfl) ?_
  refine lv_bipush (v := (8 : Int32)) C.1 C.2.1 dX12_init_244 (by decide) ?_
  obtain ⟨z192, e193, h⟩ := bdE h
  refine r_newi C hw (by decide +kernel) (N' := 8) (by decide) (by decide) (by decide) (by decide) (by decide) dX12_init_246 (fun H hw => ?_)
  rw [← e193] at hw
  have g194 : (zn z188) < zn z192 ∧ zK z192 (zn z188) = 12 := by rw [e193]; exact ok_new _ _ _
  have g197 : x0 < zn z188 ∧ zK z188 x0 = 11 := by rw [e189]; exact g191
  have g198 : x0 < zn z192 ∧ zK z192 x0 = 11 := by rw [e193]; exact ok_al _ _ g197
  obtain ⟨z195, e196, h⟩ := bdE h
  refine r_putG C hw g198 (by decide) (Cn := RX12) (T := TX12) (N := 50) rfl in_X12_init_X12 tyX12 tyX12_ok nmX12 36 (by decide) (by decide +kernel) (fun _ h => h) (Or.inr ⟨rfl, rfl, rfl⟩) (ty := .array .int) (by decide +kernel) rfl rfl (Nat.le_of_ble_eq_true rfl) (st_11_36 n0 z192 x0 (some (zn z188))) e196 dX12_init_248 (fun H locs hw => ?_)
  refine lv_aload_n C.1 C.2.1 dX12_init_251 rfl (lv_at hl 0 rfl) ?_
  refine lv_iconst (v := (1 : Int32)) C.1 C.2.1 dX12_init_252 (by decide) ?_
  have g201 : x0 < zn z195 ∧ zK z195 x0 = 11 := by rw [e196]; exact g198
  obtain ⟨z199, e200, h⟩ := bdE h
  refine r_putI C hw g201 (by decide) (Cn := RX12) (T := TX12) (N := 50) rfl in_X12_init_X12 tyX12 tyX12_ok nmX12 39 (by decide) (by decide +kernel) (fun _ h => h) (Or.inl rfl) (ty := .int) (by decide +kernel) rfl rfl (Nat.le_of_ble_eq_true rfl) (st_11_39 n0 z195 x0 (1 : Int32)) e200 dX12_init_253 (fun H locs hw => ?_)
  refine lv_aload_n C.1 C.2.1 dX12_init_256 rfl (lv_at hl 0 rfl) ?_
  refine lv_iconst (v := (1 : Int32)) C.1 C.2.1 dX12_init_257 (by decide) ?_
  have g204 : x0 < zn z199 ∧ zK z199 x0 = 11 := by rw [e200]; exact g201
  obtain ⟨z202, e203, h⟩ := bdE h
  refine r_putI C hw g204 (by decide) (Cn := RX12) (T := TX12) (N := 50) rfl in_X12_init_X12 tyX12 tyX12_ok nmX12 40 (by decide) (by decide +kernel) (fun _ h => h) (Or.inl rfl) (ty := .int) (by decide +kernel) rfl rfl (Nat.le_of_ble_eq_true rfl) (st_11_40 n0 z199 x0 (1 : Int32)) e203 dX12_init_258 (fun H locs hw => ?_)
  refine lv_aload_n C.1 C.2.1 dX12_init_261 rfl (lv_at hl 0 rfl) ?_
  refine lv_bipush (v := (12 : Int32)) C.1 C.2.1 dX12_init_262 (by decide) ?_
  have g207 : x0 < zn z202 ∧ zK z202 x0 = 11 := by rw [e203]; exact g204
  obtain ⟨z205, e206, h⟩ := bdE h
  refine r_putI C hw g207 (by decide) (Cn := RX12) (T := TX12) (N := 50) rfl in_X12_init_X12 tyX12 tyX12_ok nmX12 41 (by decide) (by decide +kernel) (fun _ h => h) (Or.inl rfl) (ty := .int) (by decide +kernel) rfl rfl (Nat.le_of_ble_eq_true rfl) (st_11_41 n0 z202 x0 (12 : Int32)) e206 dX12_init_264 (fun H locs hw => ?_)
  refine lv_aload_n C.1 C.2.1 dX12_init_267 rfl (lv_at hl 0 rfl) ?_
  refine lv_bipush (v := (100 : Int32)) C.1 C.2.1 dX12_init_268 (by decide) ?_
  have g210 : x0 < zn z205 ∧ zK z205 x0 = 11 := by rw [e206]; exact g207
  obtain ⟨z208, e209, h⟩ := bdE h
  refine r_putI C hw g210 (by decide) (Cn := RX12) (T := TX12) (N := 50) rfl in_X12_init_X12 tyX12 tyX12_ok nmX12 44 (by decide) (by decide +kernel) (fun _ h => h) (Or.inl rfl) (ty := .int) (by decide +kernel) rfl rfl (Nat.le_of_ble_eq_true rfl) (st_11_44 n0 z205 x0 (100 : Int32)) e209 dX12_init_270 (fun H locs hw => ?_)
  refine lv_aload_n C.1 C.2.1 dX12_init_273 rfl (lv_at hl 0 rfl) ?_
  refine lv_bipush (v := (100 : Int32)) C.1 C.2.1 dX12_init_274 (by decide) ?_
  have g213 : x0 < zn z208 ∧ zK z208 x0 = 11 := by rw [e209]; exact g210
  obtain ⟨z211, e212, h⟩ := bdE h
  refine r_putI C hw g213 (by decide) (Cn := RX12) (T := TX12) (N := 50) rfl in_X12_init_X12 tyX12 tyX12_ok nmX12 45 (by decide) (by decide +kernel) (fun _ h => h) (Or.inl rfl) (ty := .int) (by decide +kernel) rfl rfl (Nat.le_of_ble_eq_true rfl) (st_11_45 n0 z208 x0 (100 : Int32)) e212 dX12_init_276 (fun H locs hw => ?_)
  refine lv_aload_n C.1 C.2.1 dX12_init_279 rfl (lv_at hl 0 rfl) ?_
  refine lv_bipush (v := (10 : Int32)) C.1 C.2.1 dX12_init_280 (by decide) ?_
  obtain ⟨z214, e215, h⟩ := bdE h
  refine r_newi C hw (by decide +kernel) (N' := 10) (by decide) (by decide) (by decide) (by decide) (by decide) dX12_init_282 (fun H hw => ?_)
  rw [← e215] at hw
  have g216 : (zn z211) < zn z214 ∧ zK z214 (zn z211) = 12 := by rw [e215]; exact ok_new _ _ _
  have g219 : x0 < zn z211 ∧ zK z211 x0 = 11 := by rw [e212]; exact g213
  have g220 : x0 < zn z214 ∧ zK z214 x0 = 11 := by rw [e215]; exact ok_al _ _ g219
  obtain ⟨z217, e218, h⟩ := bdE h
  refine r_putG C hw g220 (by decide) (Cn := RX12) (T := TX12) (N := 50) rfl in_X12_init_X12 tyX12 tyX12_ok nmX12 47 (by decide) (by decide +kernel) (fun _ h => h) (Or.inr ⟨rfl, rfl, rfl⟩) (ty := .array .int) (by decide +kernel) rfl rfl (Nat.le_of_ble_eq_true rfl) (st_11_47 n0 z214 x0 (some (zn z211))) e218 dX12_init_284 (fun H locs hw => ?_)
  refine lv_aload_n C.1 C.2.1 dX12_init_287 rfl (lv_at hl 0 rfl) ?_
  refine lv_bipush (v := (10 : Int32)) C.1 C.2.1 dX12_init_288 (by decide) ?_
  obtain ⟨z221, e222, h⟩ := bdE h
  refine r_newi C hw (by decide +kernel) (N' := 10) (by decide) (by decide) (by decide) (by decide) (by decide) dX12_init_290 (fun H hw => ?_)
  rw [← e222] at hw
  have g223 : (zn z217) < zn z221 ∧ zK z221 (zn z217) = 12 := by rw [e222]; exact ok_new _ _ _
  have g226 : x0 < zn z217 ∧ zK z217 x0 = 11 := by rw [e218]; exact g220
  have g227 : x0 < zn z221 ∧ zK z221 x0 = 11 := by rw [e222]; exact ok_al _ _ g226
  obtain ⟨z224, e225, h⟩ := bdE h
  refine r_putG C hw g227 (by decide) (Cn := RX12) (T := TX12) (N := 50) rfl in_X12_init_X12 tyX12 tyX12_ok nmX12 48 (by decide) (by decide +kernel) (fun _ h => h) (Or.inr ⟨rfl, rfl, rfl⟩) (ty := .array .int) (by decide +kernel) rfl rfl (Nat.le_of_ble_eq_true rfl) (st_11_48 n0 z221 x0 (some (zn z217))) e225 dX12_init_292 (fun H locs hw => ?_)
  cases h
  replace hF : _ = fin := hF
  subst hF
  exact r_vret C hw dX12_init_295
set_option maxRecDepth 100000 in
theorem kX12_init (l : Launch) (n0 : Nat) (D : va_G) (Y : Nat → ClassId) (N : Nat) (x0 : Nat) (z : Hp) {z1 : Hp} (h : fX12_init N x0 z = some z1) : Met l yX12_init wsX12_init rmX12_init (PreC n0 D Y z [.ref (n0 + x0)]) (PosV n0 D Y z1) 30 5392 (AA n0) := by
  refine Met.ofW (cc := cX12_init) (maxL := 1) (ret := none) (by decide) rfl ?_
  intro p e s m args below meth c s₁ B hml hv
  obtain ⟨rfl, hR, hK⟩ := hv
  have C : Cx n0 D Y RX12 cX12_init none 1 wsX12_init "<init>" p s m ([.ref (n0 + x0)] : List Value).toArray meth c := ⟨B.exec, B.bytes, B.returns, hml, findClass_of_methodNamed B.named, atoms_spec (ws := wsX12_init) B.pre, B.notSynchronized, (name_of_methodNamed B.named B.method).1, hK⟩
  have hl := lv_entry ([.ref (n0 + x0)]) (n := 1) (Nat.le_of_ble_eq_true rfl)
  rw [lg_entry_eq]
  generalize (lg_sl ([.ref (n0 + x0)]) ++ List.replicate (1 - (lg_sl ([.ref (n0 + x0)])).length) Slot.unset).toArray = ls at hl ⊢
  have hl : lv_has ls 1 [(0, .ref (n0 + x0))] := hl
  exact tX12_init_0 C h rfl ⟨hR, va_S.rf⟩ hl
abbrev rmX12_in : Room := { frames := 0, cells := 0, slots := 0, locals := 0 }
noncomputable def fX12_in_17 (N : Nat) (z : Hp) : Option (Int32) := some (0 : Int32)
set_option maxHeartbeats 4000000 in
set_option maxRecDepth 100000 in
theorem tX12_in_17 {n0 : Nat} {D : va_G} {Y : Nat → ClassId} {p : Program} {l : Launch} {e : Env} {s : State} {m : MethodId} {args : Array Value} {below : List Frame} {meth : Method} {c : Code} {N : Nat} {fin : Int32}   {z : Hp} (C : Cx n0 D Y RX12 cX12_in (some .boolean) 6 wsX12_in "in" p s m args meth c) {x : (Int32)} (h : fX12_in_17 N   z = some x) (hF : (fun x => x = fin) x) {H : Heap} {locs : List Loc} {ls : Array Slot} (hw : Wd n0 D Y z s H locs) (hl : lv_has ls 6 []) : W p l e rmX12_in s m args below meth c H locs 0 0 (MQ below (PosI n0 D Y z fin) args s 0 0 (AA n0)) (F0 m 17 ls []) := by
  unfold fX12_in_17 at h
  refine lv_iconst (v := (0 : Int32)) C.1 C.2.1 dX12_in_17 (by decide) ?_
  cases h
  replace hF : _ = fin := hF
  subst hF
  exact r_zret C hw (by decide) dX12_in_18
noncomputable def fX12_in (N : Nat) (x0 : Int64) (x2 : Int64) (x4 : Int64) (z : Hp) : Option (Int32) := br ((lg_cmp x0 x2) < 0) (fX12_in_17 N z) (br (0 < (lg_cmp x0 x4)) (fX12_in_17 N z) (some (1 : Int32)))
set_option maxHeartbeats 4000000 in
set_option maxRecDepth 100000 in
theorem tX12_in_0 {n0 : Nat} {D : va_G} {Y : Nat → ClassId} {p : Program} {l : Launch} {e : Env} {s : State} {m : MethodId} {args : Array Value} {below : List Frame} {meth : Method} {c : Code} {N : Nat} {fin : Int32} {x0 : Int64} {x2 : Int64} {x4 : Int64}  {z : Hp} (C : Cx n0 D Y RX12 cX12_in (some .boolean) 6 wsX12_in "in" p s m args meth c) {x : (Int32)} (h : fX12_in N x0 x2 x4  z = some x) (hF : (fun x => x = fin) x) {H : Heap} {locs : List Loc} {ls : Array Slot} (hw : Wd n0 D Y z s H locs) (hl : lv_has ls 6 [(0, .long x0), (2, .long x2), (4, .long x4)]) : W p l e rmX12_in s m args below meth c H locs 0 0 (MQ below (PosI n0 D Y z fin) args s 0 0 (AA n0)) (F0 m 0 ls []) := by
  unfold fX12_in at h
  refine lv_lload_n C.1 C.2.1 dX12_in_0 rfl (lv_at hl 0 rfl) ?_
  refine lv_lload_n C.1 C.2.1 dX12_in_1 rfl (lv_at hl 1 rfl) ?_
  refine W.lcmp C.1 C.2.1 dX12_in_2 ?_
  refine lv_if_lt (tgt := 17) C.1 C.2.1 dX12_in_3 (by decide) (fun c1 => ?_) (fun c1 => ?_)
  · replace h := brT h c1
    exact tX12_in_17 C h hF hw (lv_sub hl [] rfl)
  · replace h := brF h c1
    refine lv_lload_n C.1 C.2.1 dX12_in_6 rfl (lv_at hl 0 rfl) ?_
    refine lv_lload C.1 C.2.1 dX12_in_7 (lv_at hl 2 rfl) ?_
    refine W.lcmp C.1 C.2.1 dX12_in_9 ?_
    refine lv_if_gt (tgt := 17) C.1 C.2.1 dX12_in_10 (by decide) (fun c2 => ?_) (fun c2 => ?_)
    · replace h := brT h c2
      exact tX12_in_17 C h hF hw (lv_sub hl [] rfl)
    · replace h := brF h c2
      refine lv_iconst (v := (1 : Int32)) C.1 C.2.1 dX12_in_13 (by decide) ?_
      refine lv_goto (tgt := 18) C.1 C.2.1 dX12_in_14 (by decide) ?_
      cases h
      replace hF : _ = fin := hF
      subst hF
      exact r_zret C hw (by decide) dX12_in_18
set_option maxRecDepth 100000 in
theorem kX12_in (l : Launch) (n0 : Nat) (D : va_G) (Y : Nat → ClassId) (N : Nat) (x0 : Int64) (x2 : Int64) (x4 : Int64) (z : Hp) {r : Int32} (h : fX12_in N x0 x2 x4 z = some r) : Met l yX12_in wsX12_in rmX12_in (PreC n0 D Y z [.long x0, .long x2, .long x4]) (PosI n0 D Y z r) 0 0 (AA n0) := by
  refine Met.ofW (cc := cX12_in) (maxL := 6) (ret := (some .boolean)) (by decide) rfl ?_
  intro p e s m args below meth c s₁ B hml hv
  obtain ⟨rfl, hR, hK⟩ := hv
  have C : Cx n0 D Y RX12 cX12_in (some .boolean) 6 wsX12_in "in" p s m ([.long x0, .long x2, .long x4] : List Value).toArray meth c := ⟨B.exec, B.bytes, B.returns, hml, findClass_of_methodNamed B.named, atoms_spec (ws := wsX12_in) B.pre, B.notSynchronized, (name_of_methodNamed B.named B.method).1, hK⟩
  have hl := lv_entry ([.long x0, .long x2, .long x4]) (n := 6) (Nat.le_of_ble_eq_true rfl)
  rw [lg_entry_eq]
  generalize (lg_sl ([.long x0, .long x2, .long x4]) ++ List.replicate (6 - (lg_sl ([.long x0, .long x2, .long x4])).length) Slot.unset).toArray = ls at hl ⊢
  have hl : lv_has ls 6 [(0, .long x0), (2, .long x2), (4, .long x4)] := hl
  exact tX12_in_0 C h rfl ⟨hR, va_S.rf⟩ hl
theorem in_X12_isBaker_X12 : ∀ w ∈ wsX120, w ∈ wsX12_isBaker := by decide +kernel
abbrev rmX12_isBaker : Room := { frames := 1, cells := 0, slots := 0, locals := 25 }
noncomputable def fX12_isBaker (N : Nat) (x0 : Nat) (x1 : Int32) (z : Hp) : Option (Int32) := gd (x0 < zn z ∧ zK z x0 = 11) <| bo (fX12_in N (Int32.toInt64 x1) (0 : Int64) (Int32.toInt64 ((zF z 706 x0) - (1 : Int32))) z) fun r3 => gd (r3 = 0 ∨ r3 = 1) <| some r3
set_option maxHeartbeats 4000000 in
set_option maxRecDepth 100000 in
theorem tX12_isBaker_0 {n0 : Nat} {D : va_G} {Y : Nat → ClassId} {p : Program} {l : Launch} {e : Env} {s : State} {m : MethodId} {args : Array Value} {below : List Frame} {meth : Method} {c : Code} {N : Nat} {fin : Int32} {x0 : Nat} {x1 : Int32}  {z : Hp} (C : Cx n0 D Y RX12 cX12_isBaker (some .boolean) 2 wsX12_isBaker "isBaker" p s m args meth c) {x : (Int32)} (h : fX12_isBaker N x0 x1  z = some x) (hF : (fun x => x = fin) x) {H : Heap} {locs : List Loc} {ls : Array Slot} (hw : Wd n0 D Y z s H locs) (hl : lv_has ls 2 [(0, .ref (n0 + x0)), (1, .int x1)]) : W p l e rmX12_isBaker s m args below meth c H locs 0 0 (MQ below (PosI n0 D Y z fin) args s 0 0 (AA n0)) (F0 m 0 ls []) := by
  unfold fX12_isBaker at h
  refine lv_iload_n C.1 C.2.1 dX12_isBaker_0 rfl (lv_at hl 1 rfl) ?_
  refine lv_i2l C.1 C.2.1 dX12_isBaker_1 rfl ?_
  refine lv_lconst (v := (0 : Int64)) C.1 C.2.1 dX12_isBaker_2 (by decide) ?_
  refine lv_aload_n C.1 C.2.1 dX12_isBaker_3 rfl (lv_at hl 0 rfl) ?_
  obtain ⟨g1, h⟩ := gdE h
  refine r_get (v := .int (zF z 706 x0)) C hw g1 (by decide) (Cn := RX12) (T := TX12) (N := 50) rfl in_X12_isBaker_X12 2 (by decide) (by decide +kernel) (fun _ h => h) rfl dX12_isBaker_4 ?_
  refine lv_iconst (v := (1 : Int32)) C.1 C.2.1 dX12_isBaker_7 (by decide) ?_
  refine lv_isub C.1 C.2.1 dX12_isBaker_8 ?_
  refine lv_i2l C.1 C.2.1 dX12_isBaker_9 rfl ?_
  obtain ⟨r3, e2, h⟩ := boE h
  refine r_afti hw (r_runS (As := [.long (Int32.toInt64 x1), .long (0 : Int64), .long (Int32.toInt64 ((zF z 706 x0) - (1 : Int32)))]) (rest := []) C hw (kX12_in l n0 D Y N (Int32.toInt64 x1) (0 : Int64) (Int32.toInt64 ((zF z 706 x0) - (1 : Int32))) z e2) (va_cwS 3 C.2.2.2.2.2.1 gX12_isBaker_X12_in rfl rfl rfl (by decide +kernel) ⟨(Nat.le_of_ble_eq_true rfl), (Nat.le_of_ble_eq_true rfl)⟩) rfl hl.1 rfl (Nat.le_of_ble_eq_true rfl) dX12_isBaker_10 ⟨(Nat.le_of_ble_eq_true rfl), (Nat.le_of_ble_eq_true rfl)⟩) (fun H locs hw => ?_)
  obtain ⟨gz, h⟩ := gdE h
  cases h
  replace hF : _ = fin := hF
  subst hF
  exact r_zret C hw gz dX12_isBaker_13
set_option maxRecDepth 100000 in
theorem kX12_isBaker (l : Launch) (n0 : Nat) (D : va_G) (Y : Nat → ClassId) (N : Nat) (x0 : Nat) (x1 : Int32) (z : Hp) {r : Int32} (h : fX12_isBaker N x0 x1 z = some r) : Met l yX12_isBaker wsX12_isBaker rmX12_isBaker (PreC n0 D Y z [.ref (n0 + x0), .int x1]) (PosI n0 D Y z r) 0 0 (AA n0) := by
  refine Met.ofW (cc := cX12_isBaker) (maxL := 2) (ret := (some .boolean)) (by decide) rfl ?_
  intro p e s m args below meth c s₁ B hml hv
  obtain ⟨rfl, hR, hK⟩ := hv
  have C : Cx n0 D Y RX12 cX12_isBaker (some .boolean) 2 wsX12_isBaker "isBaker" p s m ([.ref (n0 + x0), .int x1] : List Value).toArray meth c := ⟨B.exec, B.bytes, B.returns, hml, findClass_of_methodNamed B.named, atoms_spec (ws := wsX12_isBaker) B.pre, B.notSynchronized, (name_of_methodNamed B.named B.method).1, hK⟩
  have hl := lv_entry ([.ref (n0 + x0), .int x1]) (n := 2) (Nat.le_of_ble_eq_true rfl)
  rw [lg_entry_eq]
  generalize (lg_sl ([.ref (n0 + x0), .int x1]) ++ List.replicate (2 - (lg_sl ([.ref (n0 + x0), .int x1])).length) Slot.unset).toArray = ls at hl ⊢
  have hl : lv_has ls 2 [(0, .ref (n0 + x0)), (1, .int x1)] := hl
  exact tX12_isBaker_0 C h rfl ⟨hR, va_S.rf⟩ hl
theorem in_X12_isRecord_X12 : ∀ w ∈ wsX120, w ∈ wsX12_isRecord := by decide +kernel
abbrev rmX12_isRecord : Room := { frames := 1, cells := 0, slots := 0, locals := 25 }
noncomputable def fX12_isRecord (N : Nat) (x0 : Nat) (x1 : Int32) (z : Hp) : Option (Int32) := gd (x0 < zn z ∧ zK z x0 = 11) <| bo (fX12_in N (Int32.toInt64 x1) (0 : Int64) (Int32.toInt64 ((zF z 711 x0) - (1 : Int32))) z) fun r3 => gd (r3 = 0 ∨ r3 = 1) <| some r3
set_option maxHeartbeats 4000000 in
set_option maxRecDepth 100000 in
theorem tX12_isRecord_0 {n0 : Nat} {D : va_G} {Y : Nat → ClassId} {p : Program} {l : Launch} {e : Env} {s : State} {m : MethodId} {args : Array Value} {below : List Frame} {meth : Method} {c : Code} {N : Nat} {fin : Int32} {x0 : Nat} {x1 : Int32}  {z : Hp} (C : Cx n0 D Y RX12 cX12_isRecord (some .boolean) 2 wsX12_isRecord "isRecord" p s m args meth c) {x : (Int32)} (h : fX12_isRecord N x0 x1  z = some x) (hF : (fun x => x = fin) x) {H : Heap} {locs : List Loc} {ls : Array Slot} (hw : Wd n0 D Y z s H locs) (hl : lv_has ls 2 [(0, .ref (n0 + x0)), (1, .int x1)]) : W p l e rmX12_isRecord s m args below meth c H locs 0 0 (MQ below (PosI n0 D Y z fin) args s 0 0 (AA n0)) (F0 m 0 ls []) := by
  unfold fX12_isRecord at h
  refine lv_iload_n C.1 C.2.1 dX12_isRecord_0 rfl (lv_at hl 1 rfl) ?_
  refine lv_i2l C.1 C.2.1 dX12_isRecord_1 rfl ?_
  refine lv_lconst (v := (0 : Int64)) C.1 C.2.1 dX12_isRecord_2 (by decide) ?_
  refine lv_aload_n C.1 C.2.1 dX12_isRecord_3 rfl (lv_at hl 0 rfl) ?_
  obtain ⟨g1, h⟩ := gdE h
  refine r_get (v := .int (zF z 711 x0)) C hw g1 (by decide) (Cn := RX12) (T := TX12) (N := 50) rfl in_X12_isRecord_X12 7 (by decide) (by decide +kernel) (fun _ h => h) rfl dX12_isRecord_4 ?_
  refine lv_iconst (v := (1 : Int32)) C.1 C.2.1 dX12_isRecord_7 (by decide) ?_
  refine lv_isub C.1 C.2.1 dX12_isRecord_8 ?_
  refine lv_i2l C.1 C.2.1 dX12_isRecord_9 rfl ?_
  obtain ⟨r3, e2, h⟩ := boE h
  refine r_afti hw (r_runS (As := [.long (Int32.toInt64 x1), .long (0 : Int64), .long (Int32.toInt64 ((zF z 711 x0) - (1 : Int32)))]) (rest := []) C hw (kX12_in l n0 D Y N (Int32.toInt64 x1) (0 : Int64) (Int32.toInt64 ((zF z 711 x0) - (1 : Int32))) z e2) (va_cwS 3 C.2.2.2.2.2.1 gX12_isRecord_X12_in rfl rfl rfl (by decide +kernel) ⟨(Nat.le_of_ble_eq_true rfl), (Nat.le_of_ble_eq_true rfl)⟩) rfl hl.1 rfl (Nat.le_of_ble_eq_true rfl) dX12_isRecord_10 ⟨(Nat.le_of_ble_eq_true rfl), (Nat.le_of_ble_eq_true rfl)⟩) (fun H locs hw => ?_)
  obtain ⟨gz, h⟩ := gdE h
  cases h
  replace hF : _ = fin := hF
  subst hF
  exact r_zret C hw gz dX12_isRecord_13
set_option maxRecDepth 100000 in
theorem kX12_isRecord (l : Launch) (n0 : Nat) (D : va_G) (Y : Nat → ClassId) (N : Nat) (x0 : Nat) (x1 : Int32) (z : Hp) {r : Int32} (h : fX12_isRecord N x0 x1 z = some r) : Met l yX12_isRecord wsX12_isRecord rmX12_isRecord (PreC n0 D Y z [.ref (n0 + x0), .int x1]) (PosI n0 D Y z r) 0 0 (AA n0) := by
  refine Met.ofW (cc := cX12_isRecord) (maxL := 2) (ret := (some .boolean)) (by decide) rfl ?_
  intro p e s m args below meth c s₁ B hml hv
  obtain ⟨rfl, hR, hK⟩ := hv
  have C : Cx n0 D Y RX12 cX12_isRecord (some .boolean) 2 wsX12_isRecord "isRecord" p s m ([.ref (n0 + x0), .int x1] : List Value).toArray meth c := ⟨B.exec, B.bytes, B.returns, hml, findClass_of_methodNamed B.named, atoms_spec (ws := wsX12_isRecord) B.pre, B.notSynchronized, (name_of_methodNamed B.named B.method).1, hK⟩
  have hl := lv_entry ([.ref (n0 + x0), .int x1]) (n := 2) (Nat.le_of_ble_eq_true rfl)
  rw [lg_entry_eq]
  generalize (lg_sl ([.ref (n0 + x0), .int x1]) ++ List.replicate (2 - (lg_sl ([.ref (n0 + x0), .int x1])).length) Slot.unset).toArray = ls at hl ⊢
  have hl : lv_has ls 2 [(0, .ref (n0 + x0)), (1, .int x1)] := hl
  exact tX12_isRecord_0 C h rfl ⟨hR, va_S.rf⟩ hl
theorem in_X12_enter_X12 : ∀ w ∈ wsX120, w ∈ wsX12_enter := by decide +kernel
abbrev rmX12_enter : Room := { frames := 0, cells := 0, slots := 0, locals := 0 }
noncomputable def fX12_enter (N : Nat) (x0 : Nat) (x1 : Int32) (x2 : Int32) (z : Hp) : Option (Int32 × Hp) := gd (x0 < zn z ∧ zK z x0 = 11) <| bo (zG z 707 x0) fun b3 => gd (b3 < zn z ∧ zK z b3 = 12) <| gd (¬ ((zF z 711 x0) < 0 ∨ zL z b3 ≤ Int32.toNatClampNeg (zF z 711 x0))) <| bd (zsA z b3 (Int32.toNatClampNeg (zF z 711 x0)) x1) fun z6 => bo (zG z6 708 x0) fun b10 => gd (b10 < zn z6 ∧ zK z6 b10 = 12) <| gd (¬ ((zF z6 711 x0) < 0 ∨ zL z6 b10 ≤ Int32.toNatClampNeg (zF z6 711 x0))) <| bd (zsA z6 b10 (Int32.toNatClampNeg (zF z6 711 x0)) (zF z6 704 x0)) fun z13 => bo (zG z13 709 x0) fun b17 => gd (b17 < zn z13 ∧ zK z13 b17 = 12) <| gd (¬ ((zF z13 711 x0) < 0 ∨ zL z13 b17 ≤ Int32.toNatClampNeg (zF z13 711 x0))) <| bd (zsA z13 b17 (Int32.toNatClampNeg (zF z13 711 x0)) (zF z13 705 x0)) fun z20 => bo (zG z20 710 x0) fun b24 => gd (b24 < zn z20 ∧ zK z20 b24 = 12) <| gd (¬ ((zF z20 711 x0) < 0 ∨ zL z20 b24 ≤ Int32.toNatClampNeg (zF z20 711 x0))) <| bd (zsA z20 b24 (Int32.toNatClampNeg (zF z20 711 x0)) x2) fun z27 => bd (zsF z27 711 x0 ((zF z27 711 x0) + (1 : Int32))) fun z30 => some (((zF z30 711 x0) - (1 : Int32)), z30)
set_option maxHeartbeats 4000000 in
set_option maxRecDepth 100000 in
theorem tX12_enter_0 {n0 : Nat} {D : va_G} {Y : Nat → ClassId} {p : Program} {l : Launch} {e : Env} {s : State} {m : MethodId} {args : Array Value} {below : List Frame} {meth : Method} {c : Code} {N : Nat} {fin : Int32 × Hp} {x0 : Nat} {x1 : Int32} {x2 : Int32}  {z : Hp} (C : Cx n0 D Y RX12 cX12_enter (some .int) 3 wsX12_enter "enter" p s m args meth c) {x : (Int32 × Hp)} (h : fX12_enter N x0 x1 x2  z = some x) (hF : (fun x => x = fin) x) {H : Heap} {locs : List Loc} {ls : Array Slot} (hw : Wd n0 D Y z s H locs) (hl : lv_has ls 3 [(0, .ref (n0 + x0)), (1, .int x1), (2, .int x2)]) : W p l e rmX12_enter s m args below meth c H locs 0 0 (MQ below (PosI n0 D Y fin.2 fin.1) args s 0 0 (AA n0)) (F0 m 0 ls []) := by
  unfold fX12_enter at h
  refine lv_aload_n C.1 C.2.1 dX12_enter_0 rfl (lv_at hl 0 rfl) ?_
  obtain ⟨g1, h⟩ := gdE h
  refine r_get (v := rv n0 (zG z 707 x0)) C hw g1 (by decide) (Cn := RX12) (T := TX12) (N := 50) rfl in_X12_enter_X12 3 (by decide) (by decide +kernel) (fun _ h => h) rfl dX12_enter_1 ?_
  obtain ⟨b3, e2, h⟩ := boE h
  refine r_topr e2 ?_
  refine lv_aload_n C.1 C.2.1 dX12_enter_4 rfl (lv_at hl 0 rfl) ?_
  refine r_get (v := .int (zF z 711 x0)) C hw g1 (by decide) (Cn := RX12) (T := TX12) (N := 50) rfl in_X12_enter_X12 7 (by decide) (by decide +kernel) (fun _ h => h) rfl dX12_enter_5 ?_
  refine lv_iload_n C.1 C.2.1 dX12_enter_8 rfl (lv_at hl 1 rfl) ?_
  obtain ⟨g4, h⟩ := gdE h
  obtain ⟨i5, h⟩ := gdE h
  obtain ⟨z6, e7, h⟩ := bdE h
  refine r_iast C hw g4 i5 e7 dX12_enter_9 (fun H locs hw => ?_)
  refine lv_aload_n C.1 C.2.1 dX12_enter_10 rfl (lv_at hl 0 rfl) ?_
  have g8 : x0 < zn z6 ∧ zK z6 x0 = 11 := by rw [e7]; exact g1
  refine r_get (v := rv n0 (zG z6 708 x0)) C hw g8 (by decide) (Cn := RX12) (T := TX12) (N := 50) rfl in_X12_enter_X12 4 (by decide) (by decide +kernel) (fun _ h => h) rfl dX12_enter_11 ?_
  obtain ⟨b10, e9, h⟩ := boE h
  refine r_topr e9 ?_
  refine lv_aload_n C.1 C.2.1 dX12_enter_14 rfl (lv_at hl 0 rfl) ?_
  refine r_get (v := .int (zF z6 711 x0)) C hw g8 (by decide) (Cn := RX12) (T := TX12) (N := 50) rfl in_X12_enter_X12 7 (by decide) (by decide +kernel) (fun _ h => h) rfl dX12_enter_15 ?_
  refine lv_aload_n C.1 C.2.1 dX12_enter_18 rfl (lv_at hl 0 rfl) ?_
  refine r_get (v := .int (zF z6 704 x0)) C hw g8 (by decide) (Cn := RX12) (T := TX12) (N := 50) rfl in_X12_enter_X12 0 (by decide) (by decide +kernel) (fun _ h => h) rfl dX12_enter_19 ?_
  obtain ⟨g11, h⟩ := gdE h
  obtain ⟨i12, h⟩ := gdE h
  obtain ⟨z13, e14, h⟩ := bdE h
  refine r_iast C hw g11 i12 e14 dX12_enter_22 (fun H locs hw => ?_)
  refine lv_aload_n C.1 C.2.1 dX12_enter_23 rfl (lv_at hl 0 rfl) ?_
  have g15 : x0 < zn z13 ∧ zK z13 x0 = 11 := by rw [e14]; exact g8
  refine r_get (v := rv n0 (zG z13 709 x0)) C hw g15 (by decide) (Cn := RX12) (T := TX12) (N := 50) rfl in_X12_enter_X12 5 (by decide) (by decide +kernel) (fun _ h => h) rfl dX12_enter_24 ?_
  obtain ⟨b17, e16, h⟩ := boE h
  refine r_topr e16 ?_
  refine lv_aload_n C.1 C.2.1 dX12_enter_27 rfl (lv_at hl 0 rfl) ?_
  refine r_get (v := .int (zF z13 711 x0)) C hw g15 (by decide) (Cn := RX12) (T := TX12) (N := 50) rfl in_X12_enter_X12 7 (by decide) (by decide +kernel) (fun _ h => h) rfl dX12_enter_28 ?_
  refine lv_aload_n C.1 C.2.1 dX12_enter_31 rfl (lv_at hl 0 rfl) ?_
  refine r_get (v := .int (zF z13 705 x0)) C hw g15 (by decide) (Cn := RX12) (T := TX12) (N := 50) rfl in_X12_enter_X12 1 (by decide) (by decide +kernel) (fun _ h => h) rfl dX12_enter_32 ?_
  obtain ⟨g18, h⟩ := gdE h
  obtain ⟨i19, h⟩ := gdE h
  obtain ⟨z20, e21, h⟩ := bdE h
  refine r_iast C hw g18 i19 e21 dX12_enter_35 (fun H locs hw => ?_)
  refine lv_aload_n C.1 C.2.1 dX12_enter_36 rfl (lv_at hl 0 rfl) ?_
  have g22 : x0 < zn z20 ∧ zK z20 x0 = 11 := by rw [e21]; exact g15
  refine r_get (v := rv n0 (zG z20 710 x0)) C hw g22 (by decide) (Cn := RX12) (T := TX12) (N := 50) rfl in_X12_enter_X12 6 (by decide) (by decide +kernel) (fun _ h => h) rfl dX12_enter_37 ?_
  obtain ⟨b24, e23, h⟩ := boE h
  refine r_topr e23 ?_
  refine lv_aload_n C.1 C.2.1 dX12_enter_40 rfl (lv_at hl 0 rfl) ?_
  refine r_get (v := .int (zF z20 711 x0)) C hw g22 (by decide) (Cn := RX12) (T := TX12) (N := 50) rfl in_X12_enter_X12 7 (by decide) (by decide +kernel) (fun _ h => h) rfl dX12_enter_41 ?_
  refine lv_iload_n C.1 C.2.1 dX12_enter_44 rfl (lv_at hl 2 rfl) ?_
  obtain ⟨g25, h⟩ := gdE h
  obtain ⟨i26, h⟩ := gdE h
  obtain ⟨z27, e28, h⟩ := bdE h
  refine r_iast C hw g25 i26 e28 dX12_enter_45 (fun H locs hw => ?_)
  refine lv_aload_n C.1 C.2.1 dX12_enter_46 rfl (lv_at hl 0 rfl) ?_
  refine lv_dup C.1 C.2.1 dX12_enter_47 rfl ?_
  have g29 : x0 < zn z27 ∧ zK z27 x0 = 11 := by rw [e28]; exact g22
  refine r_get (v := .int (zF z27 711 x0)) C hw g29 (by decide) (Cn := RX12) (T := TX12) (N := 50) rfl in_X12_enter_X12 7 (by decide) (by decide +kernel) (fun _ h => h) rfl dX12_enter_48 ?_
  refine lv_iconst (v := (1 : Int32)) C.1 C.2.1 dX12_enter_51 (by decide) ?_
  refine lv_iadd C.1 C.2.1 dX12_enter_52 ?_
  obtain ⟨z30, e31, h⟩ := bdE h
  refine r_putI C hw g29 (by decide) (Cn := RX12) (T := TX12) (N := 50) rfl in_X12_enter_X12 tyX12 tyX12_ok nmX12 7 (by decide) (by decide +kernel) (fun _ h => h) (Or.inl rfl) (ty := .int) (by decide +kernel) rfl rfl (Nat.le_of_ble_eq_true rfl) (st_11_7 n0 z27 x0 ((zF z27 711 x0) + (1 : Int32))) e31 dX12_enter_53 (fun H locs hw => ?_)
  refine lv_aload_n C.1 C.2.1 dX12_enter_56 rfl (lv_at hl 0 rfl) ?_
  have g32 : x0 < zn z30 ∧ zK z30 x0 = 11 := by rw [e31]; exact g29
  refine r_get (v := .int (zF z30 711 x0)) C hw g32 (by decide) (Cn := RX12) (T := TX12) (N := 50) rfl in_X12_enter_X12 7 (by decide) (by decide +kernel) (fun _ h => h) rfl dX12_enter_57 ?_
  refine lv_iconst (v := (1 : Int32)) C.1 C.2.1 dX12_enter_60 (by decide) ?_
  refine lv_isub C.1 C.2.1 dX12_enter_61 ?_
  cases h
  replace hF : _ = fin := hF
  subst hF
  exact r_iret C hw dX12_enter_62
set_option maxRecDepth 100000 in
theorem kX12_enter (l : Launch) (n0 : Nat) (D : va_G) (Y : Nat → ClassId) (N : Nat) (x0 : Nat) (x1 : Int32) (x2 : Int32) (z : Hp) {r : Int32} {z1 : Hp} (h : fX12_enter N x0 x1 x2 z = some (r, z1)) : Met l yX12_enter wsX12_enter rmX12_enter (PreC n0 D Y z [.ref (n0 + x0), .int x1, .int x2]) (PosI n0 D Y z1 r) 0 0 (AA n0) := by
  refine Met.ofW (cc := cX12_enter) (maxL := 3) (ret := (some .int)) (by decide) rfl ?_
  intro p e s m args below meth c s₁ B hml hv
  obtain ⟨rfl, hR, hK⟩ := hv
  have C : Cx n0 D Y RX12 cX12_enter (some .int) 3 wsX12_enter "enter" p s m ([.ref (n0 + x0), .int x1, .int x2] : List Value).toArray meth c := ⟨B.exec, B.bytes, B.returns, hml, findClass_of_methodNamed B.named, atoms_spec (ws := wsX12_enter) B.pre, B.notSynchronized, (name_of_methodNamed B.named B.method).1, hK⟩
  have hl := lv_entry ([.ref (n0 + x0), .int x1, .int x2]) (n := 3) (Nat.le_of_ble_eq_true rfl)
  rw [lg_entry_eq]
  generalize (lg_sl ([.ref (n0 + x0), .int x1, .int x2]) ++ List.replicate (3 - (lg_sl ([.ref (n0 + x0), .int x1, .int x2])).length) Slot.unset).toArray = ls at hl ⊢
  have hl : lv_has ls 3 [(0, .ref (n0 + x0)), (1, .int x1), (2, .int x2)] := hl
  exact tX12_enter_0 C h rfl ⟨hR, va_S.rf⟩ hl
theorem in_X12_needOf_X12 : ∀ w ∈ wsX120, w ∈ wsX12_needOf := by decide +kernel
abbrev rmX12_needOf : Room := { frames := 0, cells := 0, slots := 0, locals := 0 }
noncomputable def fX12_needOf (N : Nat) (x0 : Nat) (x1 : Int32) (z : Hp) : Option (Int32) := gd (x0 < zn z ∧ zK z x0 = 11) <| some (Int64.toInt32 ((((Int32.toInt64 (zF z 747 x0)) * (Int32.toInt64 (zF z 748 x0))) * (Int32.toInt64 x1)) / (100 : Int64)))
set_option maxHeartbeats 4000000 in
set_option maxRecDepth 100000 in
theorem tX12_needOf_0 {n0 : Nat} {D : va_G} {Y : Nat → ClassId} {p : Program} {l : Launch} {e : Env} {s : State} {m : MethodId} {args : Array Value} {below : List Frame} {meth : Method} {c : Code} {N : Nat} {fin : Int32} {x0 : Nat} {x1 : Int32}  {z : Hp} (C : Cx n0 D Y RX12 cX12_needOf (some .int) 2 wsX12_needOf "needOf" p s m args meth c) {x : (Int32)} (h : fX12_needOf N x0 x1  z = some x) (hF : (fun x => x = fin) x) {H : Heap} {locs : List Loc} {ls : Array Slot} (hw : Wd n0 D Y z s H locs) (hl : lv_has ls 2 [(0, .ref (n0 + x0)), (1, .int x1)]) : W p l e rmX12_needOf s m args below meth c H locs 0 0 (MQ below (PosI n0 D Y z fin) args s 0 0 (AA n0)) (F0 m 0 ls []) := by
  unfold fX12_needOf at h
  refine lv_aload_n C.1 C.2.1 dX12_needOf_0 rfl (lv_at hl 0 rfl) ?_
  obtain ⟨g1, h⟩ := gdE h
  refine r_get (v := .int (zF z 747 x0)) C hw g1 (by decide) (Cn := RX12) (T := TX12) (N := 50) rfl in_X12_needOf_X12 43 (by decide) (by decide +kernel) (fun _ h => h) rfl dX12_needOf_1 ?_
  refine lv_i2l C.1 C.2.1 dX12_needOf_4 rfl ?_
  refine lv_aload_n C.1 C.2.1 dX12_needOf_5 rfl (lv_at hl 0 rfl) ?_
  refine r_get (v := .int (zF z 748 x0)) C hw g1 (by decide) (Cn := RX12) (T := TX12) (N := 50) rfl in_X12_needOf_X12 44 (by decide) (by decide +kernel) (fun _ h => h) rfl dX12_needOf_6 ?_
  refine lv_i2l C.1 C.2.1 dX12_needOf_9 rfl ?_
  refine lv_lmul C.1 C.2.1 dX12_needOf_10 ?_
  refine lv_iload_n C.1 C.2.1 dX12_needOf_11 rfl (lv_at hl 1 rfl) ?_
  refine lv_i2l C.1 C.2.1 dX12_needOf_12 rfl ?_
  refine lv_lmul C.1 C.2.1 dX12_needOf_13 ?_
  refine lv_ldc2 (v := (100 : Int64)) C.1 C.2.1 C.2.2.2.2.1 (C.2.2.2.2.2.1 (.constantLong RX12 182 (100 : Int64)) (by decide +kernel)) dX12_needOf_14 ?_
  refine lv_ldiv C.1 C.2.1 dX12_needOf_17 (by decide) ?_
  refine lv_l2i C.1 C.2.1 dX12_needOf_18 rfl ?_
  cases h
  replace hF : _ = fin := hF
  subst hF
  exact r_iret C hw dX12_needOf_19
set_option maxRecDepth 100000 in
theorem kX12_needOf (l : Launch) (n0 : Nat) (D : va_G) (Y : Nat → ClassId) (N : Nat) (x0 : Nat) (x1 : Int32) (z : Hp) {r : Int32} (h : fX12_needOf N x0 x1 z = some r) : Met l yX12_needOf wsX12_needOf rmX12_needOf (PreC n0 D Y z [.ref (n0 + x0), .int x1]) (PosI n0 D Y z r) 0 0 (AA n0) := by
  refine Met.ofW (cc := cX12_needOf) (maxL := 2) (ret := (some .int)) (by decide) rfl ?_
  intro p e s m args below meth c s₁ B hml hv
  obtain ⟨rfl, hR, hK⟩ := hv
  have C : Cx n0 D Y RX12 cX12_needOf (some .int) 2 wsX12_needOf "needOf" p s m ([.ref (n0 + x0), .int x1] : List Value).toArray meth c := ⟨B.exec, B.bytes, B.returns, hml, findClass_of_methodNamed B.named, atoms_spec (ws := wsX12_needOf) B.pre, B.notSynchronized, (name_of_methodNamed B.named B.method).1, hK⟩
  have hl := lv_entry ([.ref (n0 + x0), .int x1]) (n := 2) (Nat.le_of_ble_eq_true rfl)
  rw [lg_entry_eq]
  generalize (lg_sl ([.ref (n0 + x0), .int x1]) ++ List.replicate (2 - (lg_sl ([.ref (n0 + x0), .int x1])).length) Slot.unset).toArray = ls at hl ⊢
  have hl : lv_has ls 2 [(0, .ref (n0 + x0)), (1, .int x1)] := hl
  exact tX12_needOf_0 C h rfl ⟨hR, va_S.rf⟩ hl
theorem in_X12_endWeek_X12 : ∀ w ∈ wsX120, w ∈ wsX12_endWeek := by decide +kernel
abbrev rmX12_endWeek : Room := { frames := 1, cells := 0, slots := 0, locals := 21 }
noncomputable def fX12_endWeek_162 (N : Nat) (x0 : Nat) (x2 : Int32) (x3 : Int32) (z : Hp) : Option ((Int32 × Int32 × Hp) ⊕ (Hp)) := bd (x3 + (1 : Int32)) fun v1 => some (.inl (x2, v1, z))
set_option maxHeartbeats 4000000 in
set_option maxRecDepth 100000 in
theorem tX12_endWeek_162 {n0 : Nat} {D : va_G} {Y : Nat → ClassId} {p : Program} {l : Launch} {e : Env} {s : State} {m : MethodId} {args : Array Value} {below : List Frame} {meth : Method} {c : Code} {N : Nat} {fin : Hp} {x0 : Nat} {x2 : Int32} {x3 : Int32}  {z : Hp} (C : Cx n0 D Y RX12 cX12_endWeek none 4 wsX12_endWeek "endWeek" p s m args meth c) {P75 : Int32 × Int32 × Hp → Prop} (hP75 : ∀ u, P75 u → ∀ (H : Heap) (locs : List Loc) (ls : Array Slot), Wd n0 D Y (u.2.2) s H locs → lv_has ls 4 [(0, .ref (n0 + x0)), (2, .int u.1), (3, .int u.2.1)] → W p l e rmX12_endWeek s m args below meth c H locs 0 0 (MQ below (PosV n0 D Y fin) args s 0 0 (AA n0)) (F0 m 75 ls [])) {x : ((Int32 × Int32 × Hp) ⊕ (Hp))} (h : fX12_endWeek_162 N x0 x2 x3  z = some x) (hF : (Fn P75 (fun x => x = fin)) x) {H : Heap} {locs : List Loc} {ls : Array Slot} (hw : Wd n0 D Y z s H locs) (hl : lv_has ls 4 [(0, .ref (n0 + x0)), (2, .int x2), (3, .int x3)]) : W p l e rmX12_endWeek s m args below meth c H locs 0 0 (MQ below (PosV n0 D Y fin) args s 0 0 (AA n0)) (F0 m 162 ls []) := by
  unfold fX12_endWeek_162 at h
  obtain ⟨v1, e2, h⟩ := bdE h
  refine lv_iinc (v := v1) (lv' := [(3, .int v1), (0, .ref (n0 + x0)), (2, .int x2)]) C.1 C.2.1 dX12_endWeek_162 hl (k := 2) rfl (by rw [e2]; rfl) (by decide) rfl (fun ls hl => ?_)
  refine lv_goto (tgt := 75) C.1 C.2.1 dX12_endWeek_165 (by decide) ?_
  cases h
  exact hP75 _ hF _ _ _ hw (lv_sub hl [1, 2, 0] rfl)
noncomputable def fX12_endWeek_129 (N : Nat) (x0 : Nat) (x2 : Int32) (x3 : Int32) (s0 : Int32) (s1 : Nat) (z : Hp) : Option ((Int32 × Int32 × Hp) ⊕ (Hp)) := gd (s1 < zn z ∧ zK z s1 = 11) <| bd (zsF z 746 s1 s0) fun z1 => fX12_endWeek_162 N x0 x2 x3 z1
set_option maxHeartbeats 4000000 in
set_option maxRecDepth 100000 in
theorem tX12_endWeek_129 {n0 : Nat} {D : va_G} {Y : Nat → ClassId} {p : Program} {l : Launch} {e : Env} {s : State} {m : MethodId} {args : Array Value} {below : List Frame} {meth : Method} {c : Code} {N : Nat} {fin : Hp} {x0 : Nat} {x2 : Int32} {x3 : Int32} {s0 : Int32} {s1 : Nat} {z : Hp} (C : Cx n0 D Y RX12 cX12_endWeek none 4 wsX12_endWeek "endWeek" p s m args meth c) {P75 : Int32 × Int32 × Hp → Prop} (hP75 : ∀ u, P75 u → ∀ (H : Heap) (locs : List Loc) (ls : Array Slot), Wd n0 D Y (u.2.2) s H locs → lv_has ls 4 [(0, .ref (n0 + x0)), (2, .int u.1), (3, .int u.2.1)] → W p l e rmX12_endWeek s m args below meth c H locs 0 0 (MQ below (PosV n0 D Y fin) args s 0 0 (AA n0)) (F0 m 75 ls [])) {x : ((Int32 × Int32 × Hp) ⊕ (Hp))} (h : fX12_endWeek_129 N x0 x2 x3 s0 s1 z = some x) (hF : (Fn P75 (fun x => x = fin)) x) {H : Heap} {locs : List Loc} {ls : Array Slot} (hw : Wd n0 D Y z s H locs) (hl : lv_has ls 4 [(0, .ref (n0 + x0)), (2, .int x2), (3, .int x3)]) : W p l e rmX12_endWeek s m args below meth c H locs 0 0 (MQ below (PosV n0 D Y fin) args s 0 0 (AA n0)) (F0 m 129 ls [.int s0, .ref (n0 + s1)]) := by
  unfold fX12_endWeek_129 at h
  obtain ⟨g3, h⟩ := gdE h
  obtain ⟨z1, e2, h⟩ := bdE h
  refine r_putI C hw g3 (by decide) (Cn := RX12) (T := TX12) (N := 50) rfl in_X12_endWeek_X12 tyX12 tyX12_ok nmX12 42 (by decide) (by decide +kernel) (fun _ h => h) (Or.inl rfl) (ty := .int) (by decide +kernel) rfl rfl (Nat.le_of_ble_eq_true rfl) (st_11_42 n0 z s1 s0) e2 dX12_endWeek_129 (fun H locs hw => ?_)
  refine lv_goto (tgt := 162) C.1 C.2.1 dX12_endWeek_132 (by decide) ?_
  exact tX12_endWeek_162 C hP75 h hF hw (lv_sub hl [0, 1, 2] rfl)
noncomputable def fX12_endWeek_75 (N : Nat) (x0 : Nat) (x2 : Int32) (x3 : Int32) (z : Hp) : Option ((Int32 × Int32 × Hp) ⊕ (Hp)) := gd (x0 < zn z ∧ zK z x0 = 11) <| br ((zF z 753 x0) ≤ x3) (lf <| bd (zsF z 753 x0 x2) fun z4 => some z4) (bo (zG z 751 x0) fun b7 => gd (b7 < zn z ∧ zK z b7 = 12) <| gd (¬ (x3 < 0 ∨ zL z b7 ≤ (x3).toNatClampNeg)) <| br ((zA z b7 (x3).toNatClampNeg) = (zF z 704 x0)) (bo (zG z 752 x0) fun b35 => gd (b35 < zn z ∧ zK z b35 = 12) <| gd (¬ (x3 < 0 ∨ zL z b35 ≤ (x3).toNatClampNeg)) <| br (((zF z 746 x0) + (zA z b35 (x3).toNatClampNeg)) ≤ (100000000 : Int32)) (bo (zG z 752 x0) fun b40 => gd (b40 < zn z ∧ zK z b40 = 12) <| gd (¬ (x3 < 0 ∨ zL z b40 ≤ (x3).toNatClampNeg)) <| fX12_endWeek_129 N x0 x2 x3 ((zF z 746 x0) + (zA z b40 (x3).toNatClampNeg)) x0 z) (fX12_endWeek_129 N x0 x2 x3 (100000000 : Int32) x0 z)) (bo (zG z 751 x0) fun b12 => bo (zG z 751 x0) fun b14 => gd (b14 < zn z ∧ zK z b14 = 12) <| gd (¬ (x3 < 0 ∨ zL z b14 ≤ (x3).toNatClampNeg)) <| gd (b12 < zn z ∧ zK z b12 = 12) <| gd (¬ (x2 < 0 ∨ zL z b12 ≤ Int32.toNatClampNeg x2)) <| bd (zsA z b12 (Int32.toNatClampNeg x2) (zA z b14 (x3).toNatClampNeg)) fun z19 => bo (zG z19 752 x0) fun b23 => bo (zG z19 752 x0) fun b25 => gd (b25 < zn z19 ∧ zK z19 b25 = 12) <| gd (¬ (x3 < 0 ∨ zL z19 b25 ≤ (x3).toNatClampNeg)) <| gd (b23 < zn z19 ∧ zK z19 b23 = 12) <| gd (¬ (x2 < 0 ∨ zL z19 b23 ≤ Int32.toNatClampNeg x2)) <| bd (zsA z19 b23 (Int32.toNatClampNeg x2) (zA z19 b25 (x3).toNatClampNeg)) fun z30 => bd (x2 + (1 : Int32)) fun v32 => fX12_endWeek_162 N x0 v32 x3 z30))
set_option maxHeartbeats 4000000 in
set_option maxRecDepth 100000 in
theorem tX12_endWeek_75 {n0 : Nat} {D : va_G} {Y : Nat → ClassId} {p : Program} {l : Launch} {e : Env} {s : State} {m : MethodId} {args : Array Value} {below : List Frame} {meth : Method} {c : Code} {N : Nat} {fin : Hp} {x0 : Nat} {x2 : Int32} {x3 : Int32}  {z : Hp} (C : Cx n0 D Y RX12 cX12_endWeek none 4 wsX12_endWeek "endWeek" p s m args meth c) {P75 : Int32 × Int32 × Hp → Prop} (hP75 : ∀ u, P75 u → ∀ (H : Heap) (locs : List Loc) (ls : Array Slot), Wd n0 D Y (u.2.2) s H locs → lv_has ls 4 [(0, .ref (n0 + x0)), (2, .int u.1), (3, .int u.2.1)] → W p l e rmX12_endWeek s m args below meth c H locs 0 0 (MQ below (PosV n0 D Y fin) args s 0 0 (AA n0)) (F0 m 75 ls [])) {x : ((Int32 × Int32 × Hp) ⊕ (Hp))} (h : fX12_endWeek_75 N x0 x2 x3  z = some x) (hF : (Fn P75 (fun x => x = fin)) x) {H : Heap} {locs : List Loc} {ls : Array Slot} (hw : Wd n0 D Y z s H locs) (hl : lv_has ls 4 [(0, .ref (n0 + x0)), (2, .int x2), (3, .int x3)]) : W p l e rmX12_endWeek s m args below meth c H locs 0 0 (MQ below (PosV n0 D Y fin) args s 0 0 (AA n0)) (F0 m 75 ls []) := by
  unfold fX12_endWeek_75 at h
  refine lv_iload_n C.1 C.2.1 dX12_endWeek_75 rfl (lv_at hl 2 rfl) ?_
  refine lv_aload_n C.1 C.2.1 dX12_endWeek_76 rfl (lv_at hl 0 rfl) ?_
  obtain ⟨g1, h⟩ := gdE h
  refine r_get (v := .int (zF z 753 x0)) C hw g1 (by decide) (Cn := RX12) (T := TX12) (N := 50) rfl in_X12_endWeek_X12 49 (by decide) (by decide +kernel) (fun _ h => h) rfl dX12_endWeek_77 ?_
  refine lv_icmp_ge (tgt := 168) C.1 C.2.1 dX12_endWeek_80 (by decide) (fun c2 => ?_) (fun c2 => ?_)
  · replace h := brT h c2
    obtain ⟨y3, h, hF⟩ := lfX h hF
    refine lv_aload_n C.1 C.2.1 dX12_endWeek_168 rfl (lv_at hl 0 rfl) ?_
    refine lv_iload_n C.1 C.2.1 dX12_endWeek_169 rfl (lv_at hl 1 rfl) ?_
    obtain ⟨z4, e5, h⟩ := bdE h
    refine r_putI C hw g1 (by decide) (Cn := RX12) (T := TX12) (N := 50) rfl in_X12_endWeek_X12 tyX12 tyX12_ok nmX12 49 (by decide) (by decide +kernel) (fun _ h => h) (Or.inl rfl) (ty := .int) (by decide +kernel) rfl rfl (Nat.le_of_ble_eq_true rfl) (st_11_49 n0 z x0 x2) e5 dX12_endWeek_170 (fun H locs hw => ?_)
    cases h
    replace hF : _ = fin := hF
    subst hF
    exact r_vret C hw dX12_endWeek_173
  · replace h := brF h c2
    refine lv_aload_n C.1 C.2.1 dX12_endWeek_83 rfl (lv_at hl 0 rfl) ?_
    refine r_get (v := rv n0 (zG z 751 x0)) C hw g1 (by decide) (Cn := RX12) (T := TX12) (N := 50) rfl in_X12_endWeek_X12 47 (by decide) (by decide +kernel) (fun _ h => h) rfl dX12_endWeek_84 ?_
    obtain ⟨b7, e6, h⟩ := boE h
    refine r_topr e6 ?_
    refine lv_iload_n C.1 C.2.1 dX12_endWeek_87 rfl (lv_at hl 2 rfl) ?_
    obtain ⟨g8, h⟩ := gdE h
    obtain ⟨i9, h⟩ := gdE h
    refine r_iald C hw g8 i9 dX12_endWeek_88 ?_
    refine lv_aload_n C.1 C.2.1 dX12_endWeek_89 rfl (lv_at hl 0 rfl) ?_
    refine r_get (v := .int (zF z 704 x0)) C hw g1 (by decide) (Cn := RX12) (T := TX12) (N := 50) rfl in_X12_endWeek_X12 0 (by decide) (by decide +kernel) (fun _ h => h) rfl dX12_endWeek_90 ?_
    refine lv_icmp_ne (tgt := 135) C.1 C.2.1 dX12_endWeek_93 (by decide) (fun c10 => ?_) (fun c10 => ?_)
    · replace h := brF h c10
      refine lv_aload_n C.1 C.2.1 dX12_endWeek_135 rfl (lv_at hl 0 rfl) ?_
      refine r_get (v := rv n0 (zG z 751 x0)) C hw g1 (by decide) (Cn := RX12) (T := TX12) (N := 50) rfl in_X12_endWeek_X12 47 (by decide) (by decide +kernel) (fun _ h => h) rfl dX12_endWeek_136 ?_
      obtain ⟨b12, e11, h⟩ := boE h
      refine r_topr e11 ?_
      refine lv_iload_n C.1 C.2.1 dX12_endWeek_139 rfl (lv_at hl 1 rfl) ?_
      refine lv_aload_n C.1 C.2.1 dX12_endWeek_140 rfl (lv_at hl 0 rfl) ?_
      refine r_get (v := rv n0 (zG z 751 x0)) C hw g1 (by decide) (Cn := RX12) (T := TX12) (N := 50) rfl in_X12_endWeek_X12 47 (by decide) (by decide +kernel) (fun _ h => h) rfl dX12_endWeek_141 ?_
      obtain ⟨b14, e13, h⟩ := boE h
      refine r_topr e13 ?_
      refine lv_iload_n C.1 C.2.1 dX12_endWeek_144 rfl (lv_at hl 2 rfl) ?_
      obtain ⟨g15, h⟩ := gdE h
      obtain ⟨i16, h⟩ := gdE h
      refine r_iald C hw g15 i16 dX12_endWeek_145 ?_
      obtain ⟨g17, h⟩ := gdE h
      obtain ⟨i18, h⟩ := gdE h
      obtain ⟨z19, e20, h⟩ := bdE h
      refine r_iast C hw g17 i18 e20 dX12_endWeek_146 (fun H locs hw => ?_)
      refine lv_aload_n C.1 C.2.1 dX12_endWeek_147 rfl (lv_at hl 0 rfl) ?_
      have g21 : x0 < zn z19 ∧ zK z19 x0 = 11 := by rw [e20]; exact g1
      refine r_get (v := rv n0 (zG z19 752 x0)) C hw g21 (by decide) (Cn := RX12) (T := TX12) (N := 50) rfl in_X12_endWeek_X12 48 (by decide) (by decide +kernel) (fun _ h => h) rfl dX12_endWeek_148 ?_
      obtain ⟨b23, e22, h⟩ := boE h
      refine r_topr e22 ?_
      refine lv_iload_n C.1 C.2.1 dX12_endWeek_151 rfl (lv_at hl 1 rfl) ?_
      refine lv_aload_n C.1 C.2.1 dX12_endWeek_152 rfl (lv_at hl 0 rfl) ?_
      refine r_get (v := rv n0 (zG z19 752 x0)) C hw g21 (by decide) (Cn := RX12) (T := TX12) (N := 50) rfl in_X12_endWeek_X12 48 (by decide) (by decide +kernel) (fun _ h => h) rfl dX12_endWeek_153 ?_
      obtain ⟨b25, e24, h⟩ := boE h
      refine r_topr e24 ?_
      refine lv_iload_n C.1 C.2.1 dX12_endWeek_156 rfl (lv_at hl 2 rfl) ?_
      obtain ⟨g26, h⟩ := gdE h
      obtain ⟨i27, h⟩ := gdE h
      refine r_iald C hw g26 i27 dX12_endWeek_157 ?_
      obtain ⟨g28, h⟩ := gdE h
      obtain ⟨i29, h⟩ := gdE h
      obtain ⟨z30, e31, h⟩ := bdE h
      refine r_iast C hw g28 i29 e31 dX12_endWeek_158 (fun H locs hw => ?_)
      obtain ⟨v32, e33, h⟩ := bdE h
      refine lv_iinc (v := v32) (lv' := [(2, .int v32), (0, .ref (n0 + x0)), (3, .int x3)]) C.1 C.2.1 dX12_endWeek_159 hl (k := 1) rfl (by rw [e33]; rfl) (by decide) rfl (fun ls hl => ?_)
      exact tX12_endWeek_162 C hP75 h hF hw (lv_sub hl [1, 0, 2] rfl)
    · replace h := brT h c10
      refine lv_aload_n C.1 C.2.1 dX12_endWeek_96 rfl (lv_at hl 0 rfl) ?_
      refine lv_aload_n C.1 C.2.1 dX12_endWeek_97 rfl (lv_at hl 0 rfl) ?_
      refine r_get (v := .int (zF z 746 x0)) C hw g1 (by decide) (Cn := RX12) (T := TX12) (N := 50) rfl in_X12_endWeek_X12 42 (by decide) (by decide +kernel) (fun _ h => h) rfl dX12_endWeek_98 ?_
      refine lv_aload_n C.1 C.2.1 dX12_endWeek_101 rfl (lv_at hl 0 rfl) ?_
      refine r_get (v := rv n0 (zG z 752 x0)) C hw g1 (by decide) (Cn := RX12) (T := TX12) (N := 50) rfl in_X12_endWeek_X12 48 (by decide) (by decide +kernel) (fun _ h => h) rfl dX12_endWeek_102 ?_
      obtain ⟨b35, e34, h⟩ := boE h
      refine r_topr e34 ?_
      refine lv_iload_n C.1 C.2.1 dX12_endWeek_105 rfl (lv_at hl 2 rfl) ?_
      obtain ⟨g36, h⟩ := gdE h
      obtain ⟨i37, h⟩ := gdE h
      refine r_iald C hw g36 i37 dX12_endWeek_106 ?_
      refine lv_iadd C.1 C.2.1 dX12_endWeek_107 ?_
      refine lv_ldc (v := (100000000 : Int32)) C.1 C.2.1 C.2.2.2.2.1 (C.2.2.2.2.2.1 (.constant RX12 149 (100000000 : Int32)) (by decide +kernel)) dX12_endWeek_108 ?_
      refine lv_icmp_le (tgt := 118) C.1 C.2.1 dX12_endWeek_110 (by decide) (fun c38 => ?_) (fun c38 => ?_)
      · replace h := brT h c38
        refine lv_aload_n C.1 C.2.1 dX12_endWeek_118 rfl (lv_at hl 0 rfl) ?_
        refine r_get (v := .int (zF z 746 x0)) C hw g1 (by decide) (Cn := RX12) (T := TX12) (N := 50) rfl in_X12_endWeek_X12 42 (by decide) (by decide +kernel) (fun _ h => h) rfl dX12_endWeek_119 ?_
        refine lv_aload_n C.1 C.2.1 dX12_endWeek_122 rfl (lv_at hl 0 rfl) ?_
        refine r_get (v := rv n0 (zG z 752 x0)) C hw g1 (by decide) (Cn := RX12) (T := TX12) (N := 50) rfl in_X12_endWeek_X12 48 (by decide) (by decide +kernel) (fun _ h => h) rfl dX12_endWeek_123 ?_
        obtain ⟨b40, e39, h⟩ := boE h
        refine r_topr e39 ?_
        refine lv_iload_n C.1 C.2.1 dX12_endWeek_126 rfl (lv_at hl 2 rfl) ?_
        obtain ⟨g41, h⟩ := gdE h
        obtain ⟨i42, h⟩ := gdE h
        refine r_iald C hw g41 i42 dX12_endWeek_127 ?_
        refine lv_iadd C.1 C.2.1 dX12_endWeek_128 ?_
        exact tX12_endWeek_129 C hP75 h hF hw (lv_sub hl [0, 1, 2] rfl)
      · replace h := brF h c38
        refine lv_ldc (v := (100000000 : Int32)) C.1 C.2.1 C.2.2.2.2.1 (C.2.2.2.2.2.1 (.constant RX12 149 (100000000 : Int32)) (by decide +kernel)) dX12_endWeek_113 ?_
        refine lv_goto (tgt := 129) C.1 C.2.1 dX12_endWeek_115 (by decide) ?_
        exact tX12_endWeek_129 C hP75 h hF hw (lv_sub hl [0, 1, 2] rfl)
set_option maxHeartbeats 4000000 in
set_option maxRecDepth 100000 in
theorem lX12_endWeek_75 {n0 : Nat} {D : va_G} {Y : Nat → ClassId} {p : Program} {l : Launch} {e : Env} {s : State} {m : MethodId} {args : Array Value} {below : List Frame} {meth : Method} {c : Code} {N : Nat} {fin : Hp} {x0 : Nat} (C : Cx n0 D Y RX12 cX12_endWeek none 4 wsX12_endWeek "endWeek" p s m args meth c) {x : (Hp)} : ∀ (n : Nat) (u : Int32 × Int32 × Hp), wh (fun (u : Int32 × Int32 × Hp) => fX12_endWeek_75 N x0 u.1 u.2.1 u.2.2) n u = some x → (fun x => x = fin) x → ∀ (H : Heap) (locs : List Loc) (ls : Array Slot), Wd n0 D Y (u.2.2) s H locs → lv_has ls 4 [(0, .ref (n0 + x0)), (2, .int u.1), (3, .int u.2.1)] → W p l e rmX12_endWeek s m args below meth c H locs 0 0 (MQ below (PosV n0 D Y fin) args s 0 0 (AA n0)) (F0 m 75 ls []) := fun n u h g => wh_ind (P := fun u => ∀ (H : Heap) (locs : List Loc) (ls : Array Slot), Wd n0 D Y (u.2.2) s H locs → lv_has ls 4 [(0, .ref (n0 + x0)), (2, .int u.1), (3, .int u.2.1)] → W p l e rmX12_endWeek s m args below meth c H locs 0 0 (MQ below (PosV n0 D Y fin) args s 0 0 (AA n0)) (F0 m 75 ls [])) (G := (fun x => x = fin)) (fun u x h hF H locs ls hw hl => tX12_endWeek_75 C (P75 := fun u => ∀ (H : Heap) (locs : List Loc) (ls : Array Slot), Wd n0 D Y (u.2.2) s H locs → lv_has ls 4 [(0, .ref (n0 + x0)), (2, .int u.1), (3, .int u.2.1)] → W p l e rmX12_endWeek s m args below meth c H locs 0 0 (MQ below (PosV n0 D Y fin) args s 0 0 (AA n0)) (F0 m 75 ls [])) (fun _ h => h) h hF hw hl) n u x h g
noncomputable def fX12_endWeek_52 (N : Nat) (x0 : Nat) (s0 : Int32) (s1 : Int32) (s2 : Nat) (z : Hp) : Option (Hp) := gd (s2 < zn z ∧ zK z s2 = 11) <| bd (zsF z 746 s2 (s1 - s0)) fun z1 => gd (x0 < zn z1 ∧ zK z1 x0 = 11) <| bd (zsF z1 704 x0 ((zF z1 704 x0) + (1 : Int32))) fun z5 => bd (zsF z5 705 x0 (0 : Int32)) fun z7 => wh (fun (u : Int32 × Int32 × Hp) => fX12_endWeek_75 N x0 u.1 u.2.1 u.2.2) N ((0 : Int32), (0 : Int32), z7)
set_option maxHeartbeats 4000000 in
set_option maxRecDepth 100000 in
theorem tX12_endWeek_52 {n0 : Nat} {D : va_G} {Y : Nat → ClassId} {p : Program} {l : Launch} {e : Env} {s : State} {m : MethodId} {args : Array Value} {below : List Frame} {meth : Method} {c : Code} {N : Nat} {fin : Hp} {x0 : Nat} {s0 : Int32} {s1 : Int32} {s2 : Nat} {z : Hp} (C : Cx n0 D Y RX12 cX12_endWeek none 4 wsX12_endWeek "endWeek" p s m args meth c) {x : (Hp)} (h : fX12_endWeek_52 N x0 s0 s1 s2 z = some x) (hF : (fun x => x = fin) x) {H : Heap} {locs : List Loc} {ls : Array Slot} (hw : Wd n0 D Y z s H locs) (hl : lv_has ls 4 [(0, .ref (n0 + x0))]) : W p l e rmX12_endWeek s m args below meth c H locs 0 0 (MQ below (PosV n0 D Y fin) args s 0 0 (AA n0)) (F0 m 52 ls [.int s0, .int s1, .ref (n0 + s2)]) := by
  unfold fX12_endWeek_52 at h
  refine lv_isub C.1 C.2.1 dX12_endWeek_52 ?_
  obtain ⟨g3, h⟩ := gdE h
  obtain ⟨z1, e2, h⟩ := bdE h
  refine r_putI C hw g3 (by decide) (Cn := RX12) (T := TX12) (N := 50) rfl in_X12_endWeek_X12 tyX12 tyX12_ok nmX12 42 (by decide) (by decide +kernel) (fun _ h => h) (Or.inl rfl) (ty := .int) (by decide +kernel) rfl rfl (Nat.le_of_ble_eq_true rfl) (st_11_42 n0 z s2 (s1 - s0)) e2 dX12_endWeek_53 (fun H locs hw => ?_)
  refine lv_aload_n C.1 C.2.1 dX12_endWeek_56 rfl (lv_at hl 0 rfl) ?_
  refine lv_dup C.1 C.2.1 dX12_endWeek_57 rfl ?_
  obtain ⟨g4, h⟩ := gdE h
  refine r_get (v := .int (zF z1 704 x0)) C hw g4 (by decide) (Cn := RX12) (T := TX12) (N := 50) rfl in_X12_endWeek_X12 0 (by decide) (by decide +kernel) (fun _ h => h) rfl dX12_endWeek_58 ?_
  refine lv_iconst (v := (1 : Int32)) C.1 C.2.1 dX12_endWeek_61 (by decide) ?_
  refine lv_iadd C.1 C.2.1 dX12_endWeek_62 ?_
  obtain ⟨z5, e6, h⟩ := bdE h
  refine r_putI C hw g4 (by decide) (Cn := RX12) (T := TX12) (N := 50) rfl in_X12_endWeek_X12 tyX12 tyX12_ok nmX12 0 (by decide) (by decide +kernel) (fun _ h => h) (Or.inl rfl) (ty := .int) (by decide +kernel) rfl rfl (Nat.le_of_ble_eq_true rfl) (st_11_0 n0 z1 x0 ((zF z1 704 x0) + (1 : Int32))) e6 dX12_endWeek_63 (fun H locs hw => ?_)
  refine lv_aload_n C.1 C.2.1 dX12_endWeek_66 rfl (lv_at hl 0 rfl) ?_
  refine lv_iconst (v := (0 : Int32)) C.1 C.2.1 dX12_endWeek_67 (by decide) ?_
  have g9 : x0 < zn z5 ∧ zK z5 x0 = 11 := by rw [e6]; exact g4
  obtain ⟨z7, e8, h⟩ := bdE h
  refine r_putI C hw g9 (by decide) (Cn := RX12) (T := TX12) (N := 50) rfl in_X12_endWeek_X12 tyX12 tyX12_ok nmX12 1 (by decide) (by decide +kernel) (fun _ h => h) (Or.inl rfl) (ty := .int) (by decide +kernel) rfl rfl (Nat.le_of_ble_eq_true rfl) (st_11_1 n0 z5 x0 (0 : Int32)) e8 dX12_endWeek_68 (fun H locs hw => ?_)
  refine lv_iconst (v := (0 : Int32)) C.1 C.2.1 dX12_endWeek_71 (by decide) ?_
  refine lv_istore_n (i := 2) (lv' := [(2, .int (0 : Int32)), (0, .ref (n0 + x0))]) C.1 C.2.1 dX12_endWeek_72 rfl hl (by decide) rfl (fun ls hl => ?_)
  refine lv_iconst (v := (0 : Int32)) C.1 C.2.1 dX12_endWeek_73 (by decide) ?_
  refine lv_istore_n (i := 3) (lv' := [(3, .int (0 : Int32)), (2, .int (0 : Int32)), (0, .ref (n0 + x0))]) C.1 C.2.1 dX12_endWeek_74 rfl hl (by decide) rfl (fun ls hl => ?_)
  exact lX12_endWeek_75 C _ _ h hF _ _ _ hw (lv_sub hl [2, 1, 0] rfl)
noncomputable def fX12_endWeek_27 (N : Nat) (x0 : Nat) (x1 : Int32) (s0 : Int32) (s1 : Int32) (s2 : Nat) (z : Hp) : Option (Hp) := gd (s2 < zn z ∧ zK z s2 = 11) <| bd (zsF z 750 s2 (s1 + s0)) fun z1 => gd (x0 < zn z1 ∧ zK z1 x0 = 11) <| br (x1 ≤ (zF z1 746 x0)) (fX12_endWeek_52 N x0 x1 (zF z1 746 x0) x0 z1) (fX12_endWeek_52 N x0 (zF z1 746 x0) (zF z1 746 x0) x0 z1)
set_option maxHeartbeats 4000000 in
set_option maxRecDepth 100000 in
theorem tX12_endWeek_27 {n0 : Nat} {D : va_G} {Y : Nat → ClassId} {p : Program} {l : Launch} {e : Env} {s : State} {m : MethodId} {args : Array Value} {below : List Frame} {meth : Method} {c : Code} {N : Nat} {fin : Hp} {x0 : Nat} {x1 : Int32} {s0 : Int32} {s1 : Int32} {s2 : Nat} {z : Hp} (C : Cx n0 D Y RX12 cX12_endWeek none 4 wsX12_endWeek "endWeek" p s m args meth c) {x : (Hp)} (h : fX12_endWeek_27 N x0 x1 s0 s1 s2 z = some x) (hF : (fun x => x = fin) x) {H : Heap} {locs : List Loc} {ls : Array Slot} (hw : Wd n0 D Y z s H locs) (hl : lv_has ls 4 [(0, .ref (n0 + x0)), (1, .int x1)]) : W p l e rmX12_endWeek s m args below meth c H locs 0 0 (MQ below (PosV n0 D Y fin) args s 0 0 (AA n0)) (F0 m 27 ls [.int s0, .int s1, .ref (n0 + s2)]) := by
  unfold fX12_endWeek_27 at h
  refine lv_iadd C.1 C.2.1 dX12_endWeek_27 ?_
  obtain ⟨g3, h⟩ := gdE h
  obtain ⟨z1, e2, h⟩ := bdE h
  refine r_putI C hw g3 (by decide) (Cn := RX12) (T := TX12) (N := 50) rfl in_X12_endWeek_X12 tyX12 tyX12_ok nmX12 46 (by decide) (by decide +kernel) (fun _ h => h) (Or.inl rfl) (ty := .int) (by decide +kernel) rfl rfl (Nat.le_of_ble_eq_true rfl) (st_11_46 n0 z s2 (s1 + s0)) e2 dX12_endWeek_28 (fun H locs hw => ?_)
  refine lv_aload_n C.1 C.2.1 dX12_endWeek_31 rfl (lv_at hl 0 rfl) ?_
  refine lv_dup C.1 C.2.1 dX12_endWeek_32 rfl ?_
  obtain ⟨g4, h⟩ := gdE h
  refine r_get (v := .int (zF z1 746 x0)) C hw g4 (by decide) (Cn := RX12) (T := TX12) (N := 50) rfl in_X12_endWeek_X12 42 (by decide) (by decide +kernel) (fun _ h => h) rfl dX12_endWeek_33 ?_
  refine lv_aload_n C.1 C.2.1 dX12_endWeek_36 rfl (lv_at hl 0 rfl) ?_
  refine r_get (v := .int (zF z1 746 x0)) C hw g4 (by decide) (Cn := RX12) (T := TX12) (N := 50) rfl in_X12_endWeek_X12 42 (by decide) (by decide +kernel) (fun _ h => h) rfl dX12_endWeek_37 ?_
  refine lv_iload_n C.1 C.2.1 dX12_endWeek_40 rfl (lv_at hl 1 rfl) ?_
  refine lv_icmp_ge (tgt := 51) C.1 C.2.1 dX12_endWeek_41 (by decide) (fun c5 => ?_) (fun c5 => ?_)
  · replace h := brT h c5
    refine lv_iload_n C.1 C.2.1 dX12_endWeek_51 rfl (lv_at hl 1 rfl) ?_
    exact tX12_endWeek_52 C h hF hw (lv_sub hl [0] rfl)
  · replace h := brF h c5
    refine lv_aload_n C.1 C.2.1 dX12_endWeek_44 rfl (lv_at hl 0 rfl) ?_
    refine r_get (v := .int (zF z1 746 x0)) C hw g4 (by decide) (Cn := RX12) (T := TX12) (N := 50) rfl in_X12_endWeek_X12 42 (by decide) (by decide +kernel) (fun _ h => h) rfl dX12_endWeek_45 ?_
    refine lv_goto (tgt := 52) C.1 C.2.1 dX12_endWeek_48 (by decide) ?_
    exact tX12_endWeek_52 C h hF hw (lv_sub hl [0] rfl)
noncomputable def fX12_endWeek (N : Nat) (x0 : Nat) (z : Hp) : Option (Hp) := gd (x0 < zn z ∧ zK z x0 = 11) <| bo (fX12_needOf N x0 (zF z 749 x0) z) fun r3 => br (r3 ≤ (zF z 746 x0)) (fX12_endWeek_27 N x0 r3 (0 : Int32) (zF z 750 x0) x0 z) (fX12_endWeek_27 N x0 r3 (1 : Int32) (zF z 750 x0) x0 z)
set_option maxHeartbeats 4000000 in
set_option maxRecDepth 100000 in
theorem tX12_endWeek_0 {n0 : Nat} {D : va_G} {Y : Nat → ClassId} {p : Program} {l : Launch} {e : Env} {s : State} {m : MethodId} {args : Array Value} {below : List Frame} {meth : Method} {c : Code} {N : Nat} {fin : Hp} {x0 : Nat}  {z : Hp} (C : Cx n0 D Y RX12 cX12_endWeek none 4 wsX12_endWeek "endWeek" p s m args meth c) {x : (Hp)} (h : fX12_endWeek N x0  z = some x) (hF : (fun x => x = fin) x) {H : Heap} {locs : List Loc} {ls : Array Slot} (hw : Wd n0 D Y z s H locs) (hl : lv_has ls 4 [(0, .ref (n0 + x0))]) : W p l e rmX12_endWeek s m args below meth c H locs 0 0 (MQ below (PosV n0 D Y fin) args s 0 0 (AA n0)) (F0 m 0 ls []) := by
  unfold fX12_endWeek at h
  refine lv_aload_n C.1 C.2.1 dX12_endWeek_0 rfl (lv_at hl 0 rfl) ?_
  refine lv_aload_n C.1 C.2.1 dX12_endWeek_1 rfl (lv_at hl 0 rfl) ?_
  obtain ⟨g1, h⟩ := gdE h
  refine r_get (v := .int (zF z 749 x0)) C hw g1 (by decide) (Cn := RX12) (T := TX12) (N := 50) rfl in_X12_endWeek_X12 45 (by decide) (by decide +kernel) (fun _ h => h) rfl dX12_endWeek_2 ?_
  obtain ⟨r3, e2, h⟩ := boE h
  refine r_afti hw (r_runV (As := [.int (zF z 749 x0)]) (rest := []) C hw (ki := 11) g1 (by decide) rfl (kX12_needOf l n0 D Y N x0 (zF z 749 x0) z e2) (cwV 1 C.2.2.2.2.2.1 gX12_endWeek_X12_needOf rfl rfl rfl (by decide +kernel) ⟨(Nat.le_of_ble_eq_true rfl), (Nat.le_of_ble_eq_true rfl)⟩) rfl hl.1 rfl (Nat.le_of_ble_eq_true rfl) dX12_endWeek_5 ⟨(Nat.le_of_ble_eq_true rfl), (Nat.le_of_ble_eq_true rfl)⟩) (fun H locs hw => ?_)
  refine lv_istore_n (i := 1) (lv' := [(1, .int r3), (0, .ref (n0 + x0))]) C.1 C.2.1 dX12_endWeek_8 rfl hl (by decide) rfl (fun ls hl => ?_)
  refine lv_aload_n C.1 C.2.1 dX12_endWeek_9 rfl (lv_at hl 1 rfl) ?_
  refine lv_dup C.1 C.2.1 dX12_endWeek_10 rfl ?_
  refine r_get (v := .int (zF z 750 x0)) C hw g1 (by decide) (Cn := RX12) (T := TX12) (N := 50) rfl in_X12_endWeek_X12 46 (by decide) (by decide +kernel) (fun _ h => h) rfl dX12_endWeek_11 ?_
  refine lv_aload_n C.1 C.2.1 dX12_endWeek_14 rfl (lv_at hl 1 rfl) ?_
  refine r_get (v := .int (zF z 746 x0)) C hw g1 (by decide) (Cn := RX12) (T := TX12) (N := 50) rfl in_X12_endWeek_X12 42 (by decide) (by decide +kernel) (fun _ h => h) rfl dX12_endWeek_15 ?_
  refine lv_iload_n C.1 C.2.1 dX12_endWeek_18 rfl (lv_at hl 0 rfl) ?_
  refine lv_icmp_ge (tgt := 26) C.1 C.2.1 dX12_endWeek_19 (by decide) (fun c4 => ?_) (fun c4 => ?_)
  · replace h := brT h c4
    refine lv_iconst (v := (0 : Int32)) C.1 C.2.1 dX12_endWeek_26 (by decide) ?_
    exact tX12_endWeek_27 C h hF hw (lv_sub hl [1, 0] rfl)
  · replace h := brF h c4
    refine lv_iconst (v := (1 : Int32)) C.1 C.2.1 dX12_endWeek_22 (by decide) ?_
    refine lv_goto (tgt := 27) C.1 C.2.1 dX12_endWeek_23 (by decide) ?_
    exact tX12_endWeek_27 C h hF hw (lv_sub hl [1, 0] rfl)
set_option maxRecDepth 100000 in
theorem kX12_endWeek (l : Launch) (n0 : Nat) (D : va_G) (Y : Nat → ClassId) (N : Nat) (x0 : Nat) (z : Hp) {z1 : Hp} (h : fX12_endWeek N x0 z = some z1) : Met l yX12_endWeek wsX12_endWeek rmX12_endWeek (PreC n0 D Y z [.ref (n0 + x0)]) (PosV n0 D Y z1) 0 0 (AA n0) := by
  refine Met.ofW (cc := cX12_endWeek) (maxL := 4) (ret := none) (by decide) rfl ?_
  intro p e s m args below meth c s₁ B hml hv
  obtain ⟨rfl, hR, hK⟩ := hv
  have C : Cx n0 D Y RX12 cX12_endWeek none 4 wsX12_endWeek "endWeek" p s m ([.ref (n0 + x0)] : List Value).toArray meth c := ⟨B.exec, B.bytes, B.returns, hml, findClass_of_methodNamed B.named, atoms_spec (ws := wsX12_endWeek) B.pre, B.notSynchronized, (name_of_methodNamed B.named B.method).1, hK⟩
  have hl := lv_entry ([.ref (n0 + x0)]) (n := 4) (Nat.le_of_ble_eq_true rfl)
  rw [lg_entry_eq]
  generalize (lg_sl ([.ref (n0 + x0)]) ++ List.replicate (4 - (lg_sl ([.ref (n0 + x0)])).length) Slot.unset).toArray = ls at hl ⊢
  have hl : lv_has ls 4 [(0, .ref (n0 + x0))] := hl
  exact tX12_endWeek_0 C h rfl ⟨hR, va_S.rf⟩ hl
theorem in_X12_go_X12 : ∀ w ∈ wsX120, w ∈ wsX12_go := by decide +kernel
abbrev rmX12_go : Room := { frames := 2, cells := 0, slots := 0, locals := 44 }
noncomputable def fX12_go_69 (N : Nat) (x0 : Nat) (x1 : Int32) (x2 : Int32) (z : Hp) : Option ((Int32 × Hp) ⊕ (Int32 × Hp)) := bd (x2 + (1 : Int32)) fun v1 => some (.inl (v1, z))
set_option maxHeartbeats 4000000 in
set_option maxRecDepth 100000 in
theorem tX12_go_69 {n0 : Nat} {D : va_G} {Y : Nat → ClassId} {p : Program} {l : Launch} {e : Env} {s : State} {m : MethodId} {args : Array Value} {below : List Frame} {meth : Method} {c : Code} {N : Nat} {fin : Int32 × Hp} {x0 : Nat} {x1 : Int32} {x2 : Int32}  {z : Hp} (C : Cx n0 D Y RX12 cX12_go (some .int) 3 wsX12_go "go" p s m args meth c) {P40 : Int32 × Hp → Prop} (hP40 : ∀ u, P40 u → ∀ (H : Heap) (locs : List Loc) (ls : Array Slot), Wd n0 D Y (u.2) s H locs → lv_has ls 3 [(0, .ref (n0 + x0)), (1, .int x1), (2, .int u.1)] → W p l e rmX12_go s m args below meth c H locs 0 0 (MQ below (PosI n0 D Y fin.2 fin.1) args s 0 0 (AA n0)) (F0 m 40 ls [])) {x : ((Int32 × Hp) ⊕ (Int32 × Hp))} (h : fX12_go_69 N x0 x1 x2  z = some x) (hF : (Fn P40 (fun x => x = fin)) x) {H : Heap} {locs : List Loc} {ls : Array Slot} (hw : Wd n0 D Y z s H locs) (hl : lv_has ls 3 [(0, .ref (n0 + x0)), (1, .int x1), (2, .int x2)]) : W p l e rmX12_go s m args below meth c H locs 0 0 (MQ below (PosI n0 D Y fin.2 fin.1) args s 0 0 (AA n0)) (F0 m 69 ls []) := by
  unfold fX12_go_69 at h
  obtain ⟨v1, e2, h⟩ := bdE h
  refine lv_iinc (v := v1) (lv' := [(2, .int v1), (0, .ref (n0 + x0)), (1, .int x1)]) C.1 C.2.1 dX12_go_69 hl (k := 2) rfl (by rw [e2]; rfl) (by decide) rfl (fun ls hl => ?_)
  refine lv_goto (tgt := 40) C.1 C.2.1 dX12_go_72 (by decide) ?_
  cases h
  exact hP40 _ hF _ _ _ hw (lv_sub hl [1, 2, 0] rfl)
noncomputable def fX12_go_40 (N : Nat) (x0 : Nat) (x1 : Int32) (x2 : Int32) (z : Hp) : Option ((Int32 × Hp) ⊕ (Int32 × Hp)) := br (x1 ≤ x2) (lf <| gd (x0 < zn z ∧ zK z x0 = 11) <| some ((zF z 704 x0), z)) (gd (x0 < zn z ∧ zK z x0 = 11) <| bd (zsF z 705 x0 ((zF z 705 x0) + (1 : Int32))) fun z5 => br ((zF z5 705 x0) = (168 : Int32)) (bo (fX12_endWeek N x0 z5) fun z10 => fX12_go_69 N x0 x1 x2 z10) (fX12_go_69 N x0 x1 x2 z5))
set_option maxHeartbeats 4000000 in
set_option maxRecDepth 100000 in
theorem tX12_go_40 {n0 : Nat} {D : va_G} {Y : Nat → ClassId} {p : Program} {l : Launch} {e : Env} {s : State} {m : MethodId} {args : Array Value} {below : List Frame} {meth : Method} {c : Code} {N : Nat} {fin : Int32 × Hp} {x0 : Nat} {x1 : Int32} {x2 : Int32}  {z : Hp} (C : Cx n0 D Y RX12 cX12_go (some .int) 3 wsX12_go "go" p s m args meth c) {P40 : Int32 × Hp → Prop} (hP40 : ∀ u, P40 u → ∀ (H : Heap) (locs : List Loc) (ls : Array Slot), Wd n0 D Y (u.2) s H locs → lv_has ls 3 [(0, .ref (n0 + x0)), (1, .int x1), (2, .int u.1)] → W p l e rmX12_go s m args below meth c H locs 0 0 (MQ below (PosI n0 D Y fin.2 fin.1) args s 0 0 (AA n0)) (F0 m 40 ls [])) {x : ((Int32 × Hp) ⊕ (Int32 × Hp))} (h : fX12_go_40 N x0 x1 x2  z = some x) (hF : (Fn P40 (fun x => x = fin)) x) {H : Heap} {locs : List Loc} {ls : Array Slot} (hw : Wd n0 D Y z s H locs) (hl : lv_has ls 3 [(0, .ref (n0 + x0)), (1, .int x1), (2, .int x2)]) : W p l e rmX12_go s m args below meth c H locs 0 0 (MQ below (PosI n0 D Y fin.2 fin.1) args s 0 0 (AA n0)) (F0 m 40 ls []) := by
  unfold fX12_go_40 at h
  refine lv_iload_n C.1 C.2.1 dX12_go_40 rfl (lv_at hl 2 rfl) ?_
  refine lv_iload_n C.1 C.2.1 dX12_go_41 rfl (lv_at hl 1 rfl) ?_
  refine lv_icmp_ge (tgt := 75) C.1 C.2.1 dX12_go_42 (by decide) (fun c1 => ?_) (fun c1 => ?_)
  · replace h := brT h c1
    obtain ⟨y2, h, hF⟩ := lfX h hF
    refine lv_aload_n C.1 C.2.1 dX12_go_75 rfl (lv_at hl 0 rfl) ?_
    obtain ⟨g3, h⟩ := gdE h
    refine r_get (v := .int (zF z 704 x0)) C hw g3 (by decide) (Cn := RX12) (T := TX12) (N := 50) rfl in_X12_go_X12 0 (by decide) (by decide +kernel) (fun _ h => h) rfl dX12_go_76 ?_
    cases h
    replace hF : _ = fin := hF
    subst hF
    exact r_iret C hw dX12_go_79
  · replace h := brF h c1
    refine lv_aload_n C.1 C.2.1 dX12_go_45 rfl (lv_at hl 0 rfl) ?_
    refine lv_dup C.1 C.2.1 dX12_go_46 rfl ?_
    obtain ⟨g4, h⟩ := gdE h
    refine r_get (v := .int (zF z 705 x0)) C hw g4 (by decide) (Cn := RX12) (T := TX12) (N := 50) rfl in_X12_go_X12 1 (by decide) (by decide +kernel) (fun _ h => h) rfl dX12_go_47 ?_
    refine lv_iconst (v := (1 : Int32)) C.1 C.2.1 dX12_go_50 (by decide) ?_
    refine lv_iadd C.1 C.2.1 dX12_go_51 ?_
    obtain ⟨z5, e6, h⟩ := bdE h
    refine r_putI C hw g4 (by decide) (Cn := RX12) (T := TX12) (N := 50) rfl in_X12_go_X12 tyX12 tyX12_ok nmX12 1 (by decide) (by decide +kernel) (fun _ h => h) (Or.inl rfl) (ty := .int) (by decide +kernel) rfl rfl (Nat.le_of_ble_eq_true rfl) (st_11_1 n0 z x0 ((zF z 705 x0) + (1 : Int32))) e6 dX12_go_52 (fun H locs hw => ?_)
    refine lv_aload_n C.1 C.2.1 dX12_go_55 rfl (lv_at hl 0 rfl) ?_
    have g7 : x0 < zn z5 ∧ zK z5 x0 = 11 := by rw [e6]; exact g4
    refine r_get (v := .int (zF z5 705 x0)) C hw g7 (by decide) (Cn := RX12) (T := TX12) (N := 50) rfl in_X12_go_X12 1 (by decide) (by decide +kernel) (fun _ h => h) rfl dX12_go_56 ?_
    refine lv_sipush (v := (168 : Int32)) C.1 C.2.1 dX12_go_59 (by decide) ?_
    refine lv_icmp_ne (tgt := 69) C.1 C.2.1 dX12_go_62 (by decide) (fun c8 => ?_) (fun c8 => ?_)
    · replace h := brF h c8
      exact tX12_go_69 C hP40 h hF hw (lv_sub hl [0, 1, 2] rfl)
    · replace h := brT h c8
      refine lv_aload_n C.1 C.2.1 dX12_go_65 rfl (lv_at hl 0 rfl) ?_
      obtain ⟨z10, e9, h⟩ := boE h
      refine r_aftv hw (r_runV (As := []) (rest := []) C hw (ki := 11) g7 (by decide) rfl (kX12_endWeek l n0 D Y N x0  z5 e9) (cwV 0 C.2.2.2.2.2.1 gX12_go_X12_endWeek rfl rfl rfl (by decide +kernel) ⟨(Nat.le_of_ble_eq_true rfl), (Nat.le_of_ble_eq_true rfl)⟩) rfl hl.1 rfl (Nat.le_of_ble_eq_true rfl) dX12_go_66 ⟨(Nat.le_of_ble_eq_true rfl), (Nat.le_of_ble_eq_true rfl)⟩) (fun H locs hw => ?_)
      exact tX12_go_69 C hP40 h hF hw (lv_sub hl [0, 1, 2] rfl)
set_option maxHeartbeats 4000000 in
set_option maxRecDepth 100000 in
theorem lX12_go_40 {n0 : Nat} {D : va_G} {Y : Nat → ClassId} {p : Program} {l : Launch} {e : Env} {s : State} {m : MethodId} {args : Array Value} {below : List Frame} {meth : Method} {c : Code} {N : Nat} {fin : Int32 × Hp} {x0 : Nat} {x1 : Int32} (C : Cx n0 D Y RX12 cX12_go (some .int) 3 wsX12_go "go" p s m args meth c) {x : (Int32 × Hp)} : ∀ (n : Nat) (u : Int32 × Hp), wh (fun (u : Int32 × Hp) => fX12_go_40 N x0 x1 u.1 u.2) n u = some x → (fun x => x = fin) x → ∀ (H : Heap) (locs : List Loc) (ls : Array Slot), Wd n0 D Y (u.2) s H locs → lv_has ls 3 [(0, .ref (n0 + x0)), (1, .int x1), (2, .int u.1)] → W p l e rmX12_go s m args below meth c H locs 0 0 (MQ below (PosI n0 D Y fin.2 fin.1) args s 0 0 (AA n0)) (F0 m 40 ls []) := fun n u h g => wh_ind (P := fun u => ∀ (H : Heap) (locs : List Loc) (ls : Array Slot), Wd n0 D Y (u.2) s H locs → lv_has ls 3 [(0, .ref (n0 + x0)), (1, .int x1), (2, .int u.1)] → W p l e rmX12_go s m args below meth c H locs 0 0 (MQ below (PosI n0 D Y fin.2 fin.1) args s 0 0 (AA n0)) (F0 m 40 ls [])) (G := (fun x => x = fin)) (fun u x h hF H locs ls hw hl => tX12_go_40 C (P40 := fun u => ∀ (H : Heap) (locs : List Loc) (ls : Array Slot), Wd n0 D Y (u.2) s H locs → lv_has ls 3 [(0, .ref (n0 + x0)), (1, .int x1), (2, .int u.1)] → W p l e rmX12_go s m args below meth c H locs 0 0 (MQ below (PosI n0 D Y fin.2 fin.1) args s 0 0 (AA n0)) (F0 m 40 ls [])) (fun _ h => h) h hF hw hl) n u x h g
noncomputable def fX12_go (N : Nat) (x0 : Nat) (x1 : Int32) (z : Hp) : Option (Int32 × Hp) := bo (fX12_in N (Int32.toInt64 x1) (1 : Int64) (5000 : Int64) z) fun r2 => br (r2 = 0) (some ((-2 : Int32), z)) (gd (x0 < zn z ∧ zK z x0 = 11) <| br (((((168 : Int32) * (zF z 704 x0)) + (zF z 705 x0)) + x1) ≤ (33599 : Int32)) (wh (fun (u : Int32 × Hp) => fX12_go_40 N x0 x1 u.1 u.2) N ((0 : Int32), z)) (some ((-3 : Int32), z)))
set_option maxHeartbeats 4000000 in
set_option maxRecDepth 100000 in
theorem tX12_go_0 {n0 : Nat} {D : va_G} {Y : Nat → ClassId} {p : Program} {l : Launch} {e : Env} {s : State} {m : MethodId} {args : Array Value} {below : List Frame} {meth : Method} {c : Code} {N : Nat} {fin : Int32 × Hp} {x0 : Nat} {x1 : Int32}  {z : Hp} (C : Cx n0 D Y RX12 cX12_go (some .int) 3 wsX12_go "go" p s m args meth c) {x : (Int32 × Hp)} (h : fX12_go N x0 x1  z = some x) (hF : (fun x => x = fin) x) {H : Heap} {locs : List Loc} {ls : Array Slot} (hw : Wd n0 D Y z s H locs) (hl : lv_has ls 3 [(0, .ref (n0 + x0)), (1, .int x1)]) : W p l e rmX12_go s m args below meth c H locs 0 0 (MQ below (PosI n0 D Y fin.2 fin.1) args s 0 0 (AA n0)) (F0 m 0 ls []) := by
  unfold fX12_go at h
  refine lv_iload_n C.1 C.2.1 dX12_go_0 rfl (lv_at hl 1 rfl) ?_
  refine lv_i2l C.1 C.2.1 dX12_go_1 rfl ?_
  refine lv_lconst (v := (1 : Int64)) C.1 C.2.1 dX12_go_2 (by decide) ?_
  refine lv_ldc2 (v := (5000 : Int64)) C.1 C.2.1 C.2.2.2.2.1 (C.2.2.2.2.2.1 (.constantLong RX12 150 (5000 : Int64)) (by decide +kernel)) dX12_go_3 ?_
  obtain ⟨r2, e1, h⟩ := boE h
  refine r_afti hw (r_runS (As := [.long (Int32.toInt64 x1), .long (1 : Int64), .long (5000 : Int64)]) (rest := []) C hw (kX12_in l n0 D Y N (Int32.toInt64 x1) (1 : Int64) (5000 : Int64) z e1) (va_cwS 3 C.2.2.2.2.2.1 gX12_go_X12_in rfl rfl rfl (by decide +kernel) ⟨(Nat.le_of_ble_eq_true rfl), (Nat.le_of_ble_eq_true rfl)⟩) rfl hl.1 rfl (Nat.le_of_ble_eq_true rfl) dX12_go_6 ⟨(Nat.le_of_ble_eq_true rfl), (Nat.le_of_ble_eq_true rfl)⟩) (fun H locs hw => ?_)
  refine lv_if_ne (tgt := 15) C.1 C.2.1 dX12_go_9 (by decide) (fun c3 => ?_) (fun c3 => ?_)
  · replace h := brF h c3
    refine lv_sipush (v := (168 : Int32)) C.1 C.2.1 dX12_go_15 (by decide) ?_
    refine lv_aload_n C.1 C.2.1 dX12_go_18 rfl (lv_at hl 0 rfl) ?_
    obtain ⟨g4, h⟩ := gdE h
    refine r_get (v := .int (zF z 704 x0)) C hw g4 (by decide) (Cn := RX12) (T := TX12) (N := 50) rfl in_X12_go_X12 0 (by decide) (by decide +kernel) (fun _ h => h) rfl dX12_go_19 ?_
    refine lv_imul C.1 C.2.1 dX12_go_22 ?_
    refine lv_aload_n C.1 C.2.1 dX12_go_23 rfl (lv_at hl 0 rfl) ?_
    refine r_get (v := .int (zF z 705 x0)) C hw g4 (by decide) (Cn := RX12) (T := TX12) (N := 50) rfl in_X12_go_X12 1 (by decide) (by decide +kernel) (fun _ h => h) rfl dX12_go_24 ?_
    refine lv_iadd C.1 C.2.1 dX12_go_27 ?_
    refine lv_iload_n C.1 C.2.1 dX12_go_28 rfl (lv_at hl 1 rfl) ?_
    refine lv_iadd C.1 C.2.1 dX12_go_29 ?_
    refine lv_ldc (v := (33599 : Int32)) C.1 C.2.1 C.2.2.2.2.1 (C.2.2.2.2.2.1 (.constant RX12 152 (33599 : Int32)) (by decide +kernel)) dX12_go_30 ?_
    refine lv_icmp_le (tgt := 38) C.1 C.2.1 dX12_go_32 (by decide) (fun c5 => ?_) (fun c5 => ?_)
    · replace h := brT h c5
      refine lv_iconst (v := (0 : Int32)) C.1 C.2.1 dX12_go_38 (by decide) ?_
      refine lv_istore_n (i := 2) (lv' := [(2, .int (0 : Int32)), (0, .ref (n0 + x0)), (1, .int x1)]) C.1 C.2.1 dX12_go_39 rfl hl (by decide) rfl (fun ls hl => ?_)
      exact lX12_go_40 C _ _ h hF _ _ _ hw (lv_sub hl [1, 2, 0] rfl)
    · replace h := brF h c5
      refine lv_bipush (v := (-3 : Int32)) C.1 C.2.1 dX12_go_35 (by decide) ?_
      cases h
      replace hF : _ = fin := hF
      subst hF
      exact r_iret C hw dX12_go_37
  · replace h := brT h c3
    refine lv_bipush (v := (-2 : Int32)) C.1 C.2.1 dX12_go_12 (by decide) ?_
    cases h
    replace hF : _ = fin := hF
    subst hF
    exact r_iret C hw dX12_go_14
set_option maxRecDepth 100000 in
theorem kX12_go (l : Launch) (n0 : Nat) (D : va_G) (Y : Nat → ClassId) (N : Nat) (x0 : Nat) (x1 : Int32) (z : Hp) {r : Int32} {z1 : Hp} (h : fX12_go N x0 x1 z = some (r, z1)) : Met l yX12_go wsX12_go rmX12_go (PreC n0 D Y z [.ref (n0 + x0), .int x1]) (PosI n0 D Y z1 r) 0 0 (AA n0) := by
  refine Met.ofW (cc := cX12_go) (maxL := 3) (ret := (some .int)) (by decide) rfl ?_
  intro p e s m args below meth c s₁ B hml hv
  obtain ⟨rfl, hR, hK⟩ := hv
  have C : Cx n0 D Y RX12 cX12_go (some .int) 3 wsX12_go "go" p s m ([.ref (n0 + x0), .int x1] : List Value).toArray meth c := ⟨B.exec, B.bytes, B.returns, hml, findClass_of_methodNamed B.named, atoms_spec (ws := wsX12_go) B.pre, B.notSynchronized, (name_of_methodNamed B.named B.method).1, hK⟩
  have hl := lv_entry ([.ref (n0 + x0), .int x1]) (n := 3) (Nat.le_of_ble_eq_true rfl)
  rw [lg_entry_eq]
  generalize (lg_sl ([.ref (n0 + x0), .int x1]) ++ List.replicate (3 - (lg_sl ([.ref (n0 + x0), .int x1])).length) Slot.unset).toArray = ls at hl ⊢
  have hl : lv_has ls 3 [(0, .ref (n0 + x0)), (1, .int x1)] := hl
  exact tX12_go_0 C h rfl ⟨hR, va_S.rf⟩ hl
theorem in_X12_baker_X12 : ∀ w ∈ wsX120, w ∈ wsX12_baker := by decide +kernel
abbrev rmX12_baker : Room := { frames := 0, cells := 0, slots := 0, locals := 0 }
noncomputable def fX12_baker (N : Nat) (x0 : Nat) (z : Hp) : Option (Int32 × Hp) := gd (x0 < zn z ∧ zK z x0 = 11) <| br ((zF z 706 x0) = (8 : Int32)) (some ((-4 : Int32), z)) (bo (zG z 732 x0) fun b4 => gd (b4 < zn z ∧ zK z b4 = 12) <| gd (¬ ((zF z 706 x0) < 0 ∨ zL z b4 ≤ Int32.toNatClampNeg (zF z 706 x0))) <| bd (zsA z b4 (Int32.toNatClampNeg (zF z 706 x0)) (-6 : Int32)) fun z7 => bd (zsF z7 706 x0 ((zF z7 706 x0) + (1 : Int32))) fun z10 => bd (zsF z10 741 x0 (0 : Int32)) fun z12 => some (((zF z12 706 x0) - (1 : Int32)), z12))
set_option maxHeartbeats 4000000 in
set_option maxRecDepth 100000 in
theorem tX12_baker_0 {n0 : Nat} {D : va_G} {Y : Nat → ClassId} {p : Program} {l : Launch} {e : Env} {s : State} {m : MethodId} {args : Array Value} {below : List Frame} {meth : Method} {c : Code} {N : Nat} {fin : Int32 × Hp} {x0 : Nat}  {z : Hp} (C : Cx n0 D Y RX12 cX12_baker (some .int) 1 wsX12_baker "baker" p s m args meth c) {x : (Int32 × Hp)} (h : fX12_baker N x0  z = some x) (hF : (fun x => x = fin) x) {H : Heap} {locs : List Loc} {ls : Array Slot} (hw : Wd n0 D Y z s H locs) (hl : lv_has ls 1 [(0, .ref (n0 + x0))]) : W p l e rmX12_baker s m args below meth c H locs 0 0 (MQ below (PosI n0 D Y fin.2 fin.1) args s 0 0 (AA n0)) (F0 m 0 ls []) := by
  unfold fX12_baker at h
  refine lv_aload_n C.1 C.2.1 dX12_baker_0 rfl (lv_at hl 0 rfl) ?_
  obtain ⟨g1, h⟩ := gdE h
  refine r_get (v := .int (zF z 706 x0)) C hw g1 (by decide) (Cn := RX12) (T := TX12) (N := 50) rfl in_X12_baker_X12 2 (by decide) (by decide +kernel) (fun _ h => h) rfl dX12_baker_1 ?_
  refine lv_bipush (v := (8 : Int32)) C.1 C.2.1 dX12_baker_4 (by decide) ?_
  refine lv_icmp_ne (tgt := 12) C.1 C.2.1 dX12_baker_6 (by decide) (fun c2 => ?_) (fun c2 => ?_)
  · replace h := brF h c2
    refine lv_aload_n C.1 C.2.1 dX12_baker_12 rfl (lv_at hl 0 rfl) ?_
    refine r_get (v := rv n0 (zG z 732 x0)) C hw g1 (by decide) (Cn := RX12) (T := TX12) (N := 50) rfl in_X12_baker_X12 28 (by decide) (by decide +kernel) (fun _ h => h) rfl dX12_baker_13 ?_
    obtain ⟨b4, e3, h⟩ := boE h
    refine r_topr e3 ?_
    refine lv_aload_n C.1 C.2.1 dX12_baker_16 rfl (lv_at hl 0 rfl) ?_
    refine r_get (v := .int (zF z 706 x0)) C hw g1 (by decide) (Cn := RX12) (T := TX12) (N := 50) rfl in_X12_baker_X12 2 (by decide) (by decide +kernel) (fun _ h => h) rfl dX12_baker_17 ?_
    refine lv_bipush (v := (-6 : Int32)) C.1 C.2.1 dX12_baker_20 (by decide) ?_
    obtain ⟨g5, h⟩ := gdE h
    obtain ⟨i6, h⟩ := gdE h
    obtain ⟨z7, e8, h⟩ := bdE h
    refine r_iast C hw g5 i6 e8 dX12_baker_22 (fun H locs hw => ?_)
    refine lv_aload_n C.1 C.2.1 dX12_baker_23 rfl (lv_at hl 0 rfl) ?_
    refine lv_dup C.1 C.2.1 dX12_baker_24 rfl ?_
    have g9 : x0 < zn z7 ∧ zK z7 x0 = 11 := by rw [e8]; exact g1
    refine r_get (v := .int (zF z7 706 x0)) C hw g9 (by decide) (Cn := RX12) (T := TX12) (N := 50) rfl in_X12_baker_X12 2 (by decide) (by decide +kernel) (fun _ h => h) rfl dX12_baker_25 ?_
    refine lv_iconst (v := (1 : Int32)) C.1 C.2.1 dX12_baker_28 (by decide) ?_
    refine lv_iadd C.1 C.2.1 dX12_baker_29 ?_
    obtain ⟨z10, e11, h⟩ := bdE h
    refine r_putI C hw g9 (by decide) (Cn := RX12) (T := TX12) (N := 50) rfl in_X12_baker_X12 tyX12 tyX12_ok nmX12 2 (by decide) (by decide +kernel) (fun _ h => h) (Or.inl rfl) (ty := .int) (by decide +kernel) rfl rfl (Nat.le_of_ble_eq_true rfl) (st_11_2 n0 z7 x0 ((zF z7 706 x0) + (1 : Int32))) e11 dX12_baker_30 (fun H locs hw => ?_)
    refine lv_aload_n C.1 C.2.1 dX12_baker_33 rfl (lv_at hl 0 rfl) ?_
    refine lv_iconst (v := (0 : Int32)) C.1 C.2.1 dX12_baker_34 (by decide) ?_
    have g14 : x0 < zn z10 ∧ zK z10 x0 = 11 := by rw [e11]; exact g9
    obtain ⟨z12, e13, h⟩ := bdE h
    refine r_putI C hw g14 (by decide) (Cn := RX12) (T := TX12) (N := 50) rfl in_X12_baker_X12 tyX12 tyX12_ok nmX12 37 (by decide) (by decide +kernel) (fun _ h => h) (Or.inl rfl) (ty := .int) (by decide +kernel) rfl rfl (Nat.le_of_ble_eq_true rfl) (st_11_37 n0 z10 x0 (0 : Int32)) e13 dX12_baker_35 (fun H locs hw => ?_)
    refine lv_aload_n C.1 C.2.1 dX12_baker_38 rfl (lv_at hl 0 rfl) ?_
    have g15 : x0 < zn z12 ∧ zK z12 x0 = 11 := by rw [e13]; exact g14
    refine r_get (v := .int (zF z12 706 x0)) C hw g15 (by decide) (Cn := RX12) (T := TX12) (N := 50) rfl in_X12_baker_X12 2 (by decide) (by decide +kernel) (fun _ h => h) rfl dX12_baker_39 ?_
    refine lv_iconst (v := (1 : Int32)) C.1 C.2.1 dX12_baker_42 (by decide) ?_
    refine lv_isub C.1 C.2.1 dX12_baker_43 ?_
    cases h
    replace hF : _ = fin := hF
    subst hF
    exact r_iret C hw dX12_baker_44
  · replace h := brT h c2
    refine lv_bipush (v := (-4 : Int32)) C.1 C.2.1 dX12_baker_9 (by decide) ?_
    cases h
    replace hF : _ = fin := hF
    subst hF
    exact r_iret C hw dX12_baker_11
set_option maxRecDepth 100000 in
theorem kX12_baker (l : Launch) (n0 : Nat) (D : va_G) (Y : Nat → ClassId) (N : Nat) (x0 : Nat) (z : Hp) {r : Int32} {z1 : Hp} (h : fX12_baker N x0 z = some (r, z1)) : Met l yX12_baker wsX12_baker rmX12_baker (PreC n0 D Y z [.ref (n0 + x0)]) (PosI n0 D Y z1 r) 0 0 (AA n0) := by
  refine Met.ofW (cc := cX12_baker) (maxL := 1) (ret := (some .int)) (by decide) rfl ?_
  intro p e s m args below meth c s₁ B hml hv
  obtain ⟨rfl, hR, hK⟩ := hv
  have C : Cx n0 D Y RX12 cX12_baker (some .int) 1 wsX12_baker "baker" p s m ([.ref (n0 + x0)] : List Value).toArray meth c := ⟨B.exec, B.bytes, B.returns, hml, findClass_of_methodNamed B.named, atoms_spec (ws := wsX12_baker) B.pre, B.notSynchronized, (name_of_methodNamed B.named B.method).1, hK⟩
  have hl := lv_entry ([.ref (n0 + x0)]) (n := 1) (Nat.le_of_ble_eq_true rfl)
  rw [lg_entry_eq]
  generalize (lg_sl ([.ref (n0 + x0)]) ++ List.replicate (1 - (lg_sl ([.ref (n0 + x0)])).length) Slot.unset).toArray = ls at hl ⊢
  have hl : lv_has ls 1 [(0, .ref (n0 + x0))] := hl
  exact tX12_baker_0 C h rfl ⟨hR, va_S.rf⟩ hl
theorem in_X12_buy_X12 : ∀ w ∈ wsX120, w ∈ wsX12_buy := by decide +kernel
abbrev rmX12_buy : Room := { frames := 2, cells := 0, slots := 0, locals := 46 }
noncomputable def fX12_buy_34 (N : Nat) (x0 : Nat) (z : Hp) : Option (Int32 × Hp) := some ((-2 : Int32), z)
set_option maxHeartbeats 4000000 in
set_option maxRecDepth 100000 in
theorem tX12_buy_34 {n0 : Nat} {D : va_G} {Y : Nat → ClassId} {p : Program} {l : Launch} {e : Env} {s : State} {m : MethodId} {args : Array Value} {below : List Frame} {meth : Method} {c : Code} {N : Nat} {fin : Int32 × Hp} {x0 : Nat}  {z : Hp} (C : Cx n0 D Y RX12 cX12_buy (some .int) 4 wsX12_buy "buy" p s m args meth c) {x : (Int32 × Hp)} (h : fX12_buy_34 N x0  z = some x) (hF : (fun x => x = fin) x) {H : Heap} {locs : List Loc} {ls : Array Slot} (hw : Wd n0 D Y z s H locs) (hl : lv_has ls 4 [(0, .ref (n0 + x0))]) : W p l e rmX12_buy s m args below meth c H locs 0 0 (MQ below (PosI n0 D Y fin.2 fin.1) args s 0 0 (AA n0)) (F0 m 34 ls []) := by
  unfold fX12_buy_34 at h
  refine lv_bipush (v := (-2 : Int32)) C.1 C.2.1 dX12_buy_34 (by decide) ?_
  cases h
  replace hF : _ = fin := hF
  subst hF
  exact r_iret C hw dX12_buy_36
noncomputable def fX12_buy (N : Nat) (x0 : Nat) (x1 : Int32) (x2 : Int32) (x3 : Int32) (z : Hp) : Option (Int32 × Hp) := gd (x0 < zn z ∧ zK z x0 = 11) <| bo (fX12_isBaker N x0 x1 z) fun r2 => br (r2 = 0) (some ((-1 : Int32), z)) (bo (fX12_in N (Int32.toInt64 x2) (1 : Int64) (100000 : Int64) z) fun r6 => br (r6 = 0) (fX12_buy_34 N x0 z) (bo (fX12_in N (Int32.toInt64 x3) (1 : Int64) (1000 : Int64) z) fun r9 => br (r9 = 0) (fX12_buy_34 N x0 z) (br ((zF z 711 x0) = (200 : Int32)) (some ((-4 : Int32), z)) (bo (zG z 712 x0) fun b13 => gd (b13 < zn z ∧ zK z b13 = 12) <| gd (¬ ((zF z 711 x0) < 0 ∨ zL z b13 ≤ Int32.toNatClampNeg (zF z 711 x0))) <| bd (zsA z b13 (Int32.toNatClampNeg (zF z 711 x0)) x2) fun z16 => bo (zG z16 713 x0) fun b20 => gd (b20 < zn z16 ∧ zK z16 b20 = 12) <| gd (¬ ((zF z16 711 x0) < 0 ∨ zL z16 b20 ≤ Int32.toNatClampNeg (zF z16 711 x0))) <| bd (zsA z16 b20 (Int32.toNatClampNeg (zF z16 711 x0)) x3) fun z23 => bp (fX12_enter N x0 (1 : Int32) x1 z23) fun r26 z27 => some (r26, z27)))))
set_option maxHeartbeats 4000000 in
set_option maxRecDepth 100000 in
theorem tX12_buy_0 {n0 : Nat} {D : va_G} {Y : Nat → ClassId} {p : Program} {l : Launch} {e : Env} {s : State} {m : MethodId} {args : Array Value} {below : List Frame} {meth : Method} {c : Code} {N : Nat} {fin : Int32 × Hp} {x0 : Nat} {x1 : Int32} {x2 : Int32} {x3 : Int32}  {z : Hp} (C : Cx n0 D Y RX12 cX12_buy (some .int) 4 wsX12_buy "buy" p s m args meth c) {x : (Int32 × Hp)} (h : fX12_buy N x0 x1 x2 x3  z = some x) (hF : (fun x => x = fin) x) {H : Heap} {locs : List Loc} {ls : Array Slot} (hw : Wd n0 D Y z s H locs) (hl : lv_has ls 4 [(0, .ref (n0 + x0)), (1, .int x1), (2, .int x2), (3, .int x3)]) : W p l e rmX12_buy s m args below meth c H locs 0 0 (MQ below (PosI n0 D Y fin.2 fin.1) args s 0 0 (AA n0)) (F0 m 0 ls []) := by
  unfold fX12_buy at h
  refine lv_aload_n C.1 C.2.1 dX12_buy_0 rfl (lv_at hl 0 rfl) ?_
  refine lv_iload_n C.1 C.2.1 dX12_buy_1 rfl (lv_at hl 1 rfl) ?_
  obtain ⟨g3, h⟩ := gdE h
  obtain ⟨r2, e1, h⟩ := boE h
  refine r_afti hw (r_runV (As := [.int x1]) (rest := []) C hw (ki := 11) g3 (by decide) rfl (kX12_isBaker l n0 D Y N x0 x1 z e1) (cwV 1 C.2.2.2.2.2.1 gX12_buy_X12_isBaker rfl rfl rfl (by decide +kernel) ⟨(Nat.le_of_ble_eq_true rfl), (Nat.le_of_ble_eq_true rfl)⟩) rfl hl.1 rfl (Nat.le_of_ble_eq_true rfl) dX12_buy_2 ⟨(Nat.le_of_ble_eq_true rfl), (Nat.le_of_ble_eq_true rfl)⟩) (fun H locs hw => ?_)
  refine lv_if_ne (tgt := 10) C.1 C.2.1 dX12_buy_5 (by decide) (fun c4 => ?_) (fun c4 => ?_)
  · replace h := brF h c4
    refine lv_iload_n C.1 C.2.1 dX12_buy_10 rfl (lv_at hl 2 rfl) ?_
    refine lv_i2l C.1 C.2.1 dX12_buy_11 rfl ?_
    refine lv_lconst (v := (1 : Int64)) C.1 C.2.1 dX12_buy_12 (by decide) ?_
    refine lv_ldc2 (v := (100000 : Int64)) C.1 C.2.1 C.2.2.2.2.1 (C.2.2.2.2.2.1 (.constantLong RX12 163 (100000 : Int64)) (by decide +kernel)) dX12_buy_13 ?_
    obtain ⟨r6, e5, h⟩ := boE h
    refine r_afti hw (r_runS (As := [.long (Int32.toInt64 x2), .long (1 : Int64), .long (100000 : Int64)]) (rest := []) C hw (kX12_in l n0 D Y N (Int32.toInt64 x2) (1 : Int64) (100000 : Int64) z e5) (va_cwS 3 C.2.2.2.2.2.1 gX12_buy_X12_in rfl rfl rfl (by decide +kernel) ⟨(Nat.le_of_ble_eq_true rfl), (Nat.le_of_ble_eq_true rfl)⟩) rfl hl.1 rfl (Nat.le_of_ble_eq_true rfl) dX12_buy_16 ⟨(Nat.le_of_ble_eq_true rfl), (Nat.le_of_ble_eq_true rfl)⟩) (fun H locs hw => ?_)
    refine lv_if_eq (tgt := 34) C.1 C.2.1 dX12_buy_19 (by decide) (fun c7 => ?_) (fun c7 => ?_)
    · replace h := brT h c7
      exact tX12_buy_34 C h hF hw (lv_sub hl [0] rfl)
    · replace h := brF h c7
      refine lv_iload_n C.1 C.2.1 dX12_buy_22 rfl (lv_at hl 3 rfl) ?_
      refine lv_i2l C.1 C.2.1 dX12_buy_23 rfl ?_
      refine lv_lconst (v := (1 : Int64)) C.1 C.2.1 dX12_buy_24 (by decide) ?_
      refine lv_ldc2 (v := (1000 : Int64)) C.1 C.2.1 C.2.2.2.2.1 (C.2.2.2.2.2.1 (.constantLong RX12 165 (1000 : Int64)) (by decide +kernel)) dX12_buy_25 ?_
      obtain ⟨r9, e8, h⟩ := boE h
      refine r_afti hw (r_runS (As := [.long (Int32.toInt64 x3), .long (1 : Int64), .long (1000 : Int64)]) (rest := []) C hw (kX12_in l n0 D Y N (Int32.toInt64 x3) (1 : Int64) (1000 : Int64) z e8) (va_cwS 3 C.2.2.2.2.2.1 gX12_buy_X12_in rfl rfl rfl (by decide +kernel) ⟨(Nat.le_of_ble_eq_true rfl), (Nat.le_of_ble_eq_true rfl)⟩) rfl hl.1 rfl (Nat.le_of_ble_eq_true rfl) dX12_buy_28 ⟨(Nat.le_of_ble_eq_true rfl), (Nat.le_of_ble_eq_true rfl)⟩) (fun H locs hw => ?_)
      refine lv_if_ne (tgt := 37) C.1 C.2.1 dX12_buy_31 (by decide) (fun c10 => ?_) (fun c10 => ?_)
      · replace h := brF h c10
        refine lv_aload_n C.1 C.2.1 dX12_buy_37 rfl (lv_at hl 0 rfl) ?_
        refine r_get (v := .int (zF z 711 x0)) C hw g3 (by decide) (Cn := RX12) (T := TX12) (N := 50) rfl in_X12_buy_X12 7 (by decide) (by decide +kernel) (fun _ h => h) rfl dX12_buy_38 ?_
        refine lv_sipush (v := (200 : Int32)) C.1 C.2.1 dX12_buy_41 (by decide) ?_
        refine lv_icmp_ne (tgt := 50) C.1 C.2.1 dX12_buy_44 (by decide) (fun c11 => ?_) (fun c11 => ?_)
        · replace h := brF h c11
          refine lv_aload_n C.1 C.2.1 dX12_buy_50 rfl (lv_at hl 0 rfl) ?_
          refine r_get (v := rv n0 (zG z 712 x0)) C hw g3 (by decide) (Cn := RX12) (T := TX12) (N := 50) rfl in_X12_buy_X12 8 (by decide) (by decide +kernel) (fun _ h => h) rfl dX12_buy_51 ?_
          obtain ⟨b13, e12, h⟩ := boE h
          refine r_topr e12 ?_
          refine lv_aload_n C.1 C.2.1 dX12_buy_54 rfl (lv_at hl 0 rfl) ?_
          refine r_get (v := .int (zF z 711 x0)) C hw g3 (by decide) (Cn := RX12) (T := TX12) (N := 50) rfl in_X12_buy_X12 7 (by decide) (by decide +kernel) (fun _ h => h) rfl dX12_buy_55 ?_
          refine lv_iload_n C.1 C.2.1 dX12_buy_58 rfl (lv_at hl 2 rfl) ?_
          obtain ⟨g14, h⟩ := gdE h
          obtain ⟨i15, h⟩ := gdE h
          obtain ⟨z16, e17, h⟩ := bdE h
          refine r_iast C hw g14 i15 e17 dX12_buy_59 (fun H locs hw => ?_)
          refine lv_aload_n C.1 C.2.1 dX12_buy_60 rfl (lv_at hl 0 rfl) ?_
          have g18 : x0 < zn z16 ∧ zK z16 x0 = 11 := by rw [e17]; exact g3
          refine r_get (v := rv n0 (zG z16 713 x0)) C hw g18 (by decide) (Cn := RX12) (T := TX12) (N := 50) rfl in_X12_buy_X12 9 (by decide) (by decide +kernel) (fun _ h => h) rfl dX12_buy_61 ?_
          obtain ⟨b20, e19, h⟩ := boE h
          refine r_topr e19 ?_
          refine lv_aload_n C.1 C.2.1 dX12_buy_64 rfl (lv_at hl 0 rfl) ?_
          refine r_get (v := .int (zF z16 711 x0)) C hw g18 (by decide) (Cn := RX12) (T := TX12) (N := 50) rfl in_X12_buy_X12 7 (by decide) (by decide +kernel) (fun _ h => h) rfl dX12_buy_65 ?_
          refine lv_iload_n C.1 C.2.1 dX12_buy_68 rfl (lv_at hl 3 rfl) ?_
          obtain ⟨g21, h⟩ := gdE h
          obtain ⟨i22, h⟩ := gdE h
          obtain ⟨z23, e24, h⟩ := bdE h
          refine r_iast C hw g21 i22 e24 dX12_buy_69 (fun H locs hw => ?_)
          refine lv_aload_n C.1 C.2.1 dX12_buy_70 rfl (lv_at hl 0 rfl) ?_
          refine lv_iconst (v := (1 : Int32)) C.1 C.2.1 dX12_buy_71 (by decide) ?_
          refine lv_iload_n C.1 C.2.1 dX12_buy_72 rfl (lv_at hl 1 rfl) ?_
          obtain ⟨r26, z27, e25, h⟩ := bpE h
          have g28 : x0 < zn z23 ∧ zK z23 x0 = 11 := by rw [e24]; exact g18
          refine r_afti hw (r_runV (As := [.int (1 : Int32), .int x1]) (rest := []) C hw (ki := 11) g28 (by decide) rfl (kX12_enter l n0 D Y N x0 (1 : Int32) x1 z23 e25) (cwV 2 C.2.2.2.2.2.1 gX12_buy_X12_enter rfl rfl rfl (by decide +kernel) ⟨(Nat.le_of_ble_eq_true rfl), (Nat.le_of_ble_eq_true rfl)⟩) rfl hl.1 rfl (Nat.le_of_ble_eq_true rfl) dX12_buy_73 ⟨(Nat.le_of_ble_eq_true rfl), (Nat.le_of_ble_eq_true rfl)⟩) (fun H locs hw => ?_)
          cases h
          replace hF : _ = fin := hF
          subst hF
          exact r_iret C hw dX12_buy_76
        · replace h := brT h c11
          refine lv_bipush (v := (-4 : Int32)) C.1 C.2.1 dX12_buy_47 (by decide) ?_
          cases h
          replace hF : _ = fin := hF
          subst hF
          exact r_iret C hw dX12_buy_49
      · replace h := brT h c10
        exact tX12_buy_34 C h hF hw (lv_sub hl [0] rfl)
  · replace h := brT h c4
    refine lv_iconst (v := (-1 : Int32)) C.1 C.2.1 dX12_buy_8 (by decide) ?_
    cases h
    replace hF : _ = fin := hF
    subst hF
    exact r_iret C hw dX12_buy_9
set_option maxRecDepth 100000 in
theorem kX12_buy (l : Launch) (n0 : Nat) (D : va_G) (Y : Nat → ClassId) (N : Nat) (x0 : Nat) (x1 : Int32) (x2 : Int32) (x3 : Int32) (z : Hp) {r : Int32} {z1 : Hp} (h : fX12_buy N x0 x1 x2 x3 z = some (r, z1)) : Met l yX12_buy wsX12_buy rmX12_buy (PreC n0 D Y z [.ref (n0 + x0), .int x1, .int x2, .int x3]) (PosI n0 D Y z1 r) 0 0 (AA n0) := by
  refine Met.ofW (cc := cX12_buy) (maxL := 4) (ret := (some .int)) (by decide) rfl ?_
  intro p e s m args below meth c s₁ B hml hv
  obtain ⟨rfl, hR, hK⟩ := hv
  have C : Cx n0 D Y RX12 cX12_buy (some .int) 4 wsX12_buy "buy" p s m ([.ref (n0 + x0), .int x1, .int x2, .int x3] : List Value).toArray meth c := ⟨B.exec, B.bytes, B.returns, hml, findClass_of_methodNamed B.named, atoms_spec (ws := wsX12_buy) B.pre, B.notSynchronized, (name_of_methodNamed B.named B.method).1, hK⟩
  have hl := lv_entry ([.ref (n0 + x0), .int x1, .int x2, .int x3]) (n := 4) (Nat.le_of_ble_eq_true rfl)
  rw [lg_entry_eq]
  generalize (lg_sl ([.ref (n0 + x0), .int x1, .int x2, .int x3]) ++ List.replicate (4 - (lg_sl ([.ref (n0 + x0), .int x1, .int x2, .int x3])).length) Slot.unset).toArray = ls at hl ⊢
  have hl : lv_has ls 4 [(0, .ref (n0 + x0)), (1, .int x1), (2, .int x2), (3, .int x3)] := hl
  exact tX12_buy_0 C h rfl ⟨hR, va_S.rf⟩ hl
theorem in_X12_grind_X12 : ∀ w ∈ wsX120, w ∈ wsX12_grind := by decide +kernel
abbrev rmX12_grind : Room := { frames := 2, cells := 0, slots := 0, locals := 46 }
noncomputable def fX12_grind (N : Nat) (x0 : Nat) (x1 : Int32) (z : Hp) : Option (Int32 × Hp) := gd (x0 < zn z ∧ zK z x0 = 11) <| bo (fX12_isRecord N x0 x1 z) fun r2 => br (r2 = 0) (some ((-1 : Int32), z)) (bo (zG z 707 x0) fun b6 => gd (b6 < zn z ∧ zK z b6 = 12) <| gd (¬ (x1 < 0 ∨ zL z b6 ≤ (x1).toNatClampNeg)) <| br ((zA z b6 (x1).toNatClampNeg) = (1 : Int32)) (bo (zG z 714 x0) fun b11 => gd (b11 < zn z ∧ zK z b11 = 14) <| gd (¬ (x1 < 0 ∨ zL z b11 ≤ (x1).toNatClampNeg)) <| br ((zA z b11 (x1).toNatClampNeg) = 0) (bo (zG z 712 x0) fun b16 => gd (b16 < zn z ∧ zK z b16 = 12) <| gd (¬ (x1 < 0 ∨ zL z b16 ≤ (x1).toNatClampNeg)) <| gd (¬ (zF z 718 x0) = 0) <| bd ((zA z b16 (x1).toNatClampNeg) / (zF z 718 x0)) fun v20 => bo (zG z 714 x0) fun b23 => gd (b23 < zn z ∧ zK z b23 = 14) <| gd (¬ (x1 < 0 ∨ zL z b23 ≤ Int32.toNatClampNeg x1)) <| bd (zsA z b23 (Int32.toNatClampNeg x1) (1 : Int32)) fun z26 => bo (zG z26 715 x0) fun b30 => bo (zG z26 712 x0) fun b32 => gd (b32 < zn z26 ∧ zK z26 b32 = 12) <| gd (¬ (x1 < 0 ∨ zL z26 b32 ≤ (x1).toNatClampNeg)) <| gd (b30 < zn z26 ∧ zK z26 b30 = 12) <| gd (¬ (x1 < 0 ∨ zL z26 b30 ≤ Int32.toNatClampNeg x1)) <| bd (zsA z26 b30 (Int32.toNatClampNeg x1) ((zA z26 b32 (x1).toNatClampNeg) - v20)) fun z37 => bo (zG z37 716 x0) fun b41 => gd (b41 < zn z37 ∧ zK z37 b41 = 12) <| gd (¬ ((zF z37 717 x0) < 0 ∨ zL z37 b41 ≤ Int32.toNatClampNeg (zF z37 717 x0))) <| bd (zsA z37 b41 (Int32.toNatClampNeg (zF z37 717 x0)) x1) fun z44 => bd (zsF z44 717 x0 ((zF z44 717 x0) + (1 : Int32))) fun z47 => bd (zsF z47 719 x0 ((zF z47 719 x0) + v20)) fun z50 => some (v20, z50)) (some ((-3 : Int32), z))) (some ((-5 : Int32), z)))
set_option maxHeartbeats 4000000 in
set_option maxRecDepth 100000 in
theorem tX12_grind_0 {n0 : Nat} {D : va_G} {Y : Nat → ClassId} {p : Program} {l : Launch} {e : Env} {s : State} {m : MethodId} {args : Array Value} {below : List Frame} {meth : Method} {c : Code} {N : Nat} {fin : Int32 × Hp} {x0 : Nat} {x1 : Int32}  {z : Hp} (C : Cx n0 D Y RX12 cX12_grind (some .int) 3 wsX12_grind "grind" p s m args meth c) {x : (Int32 × Hp)} (h : fX12_grind N x0 x1  z = some x) (hF : (fun x => x = fin) x) {H : Heap} {locs : List Loc} {ls : Array Slot} (hw : Wd n0 D Y z s H locs) (hl : lv_has ls 3 [(0, .ref (n0 + x0)), (1, .int x1)]) : W p l e rmX12_grind s m args below meth c H locs 0 0 (MQ below (PosI n0 D Y fin.2 fin.1) args s 0 0 (AA n0)) (F0 m 0 ls []) := by
  unfold fX12_grind at h
  refine lv_aload_n C.1 C.2.1 dX12_grind_0 rfl (lv_at hl 0 rfl) ?_
  refine lv_iload_n C.1 C.2.1 dX12_grind_1 rfl (lv_at hl 1 rfl) ?_
  obtain ⟨g3, h⟩ := gdE h
  obtain ⟨r2, e1, h⟩ := boE h
  refine r_afti hw (r_runV (As := [.int x1]) (rest := []) C hw (ki := 11) g3 (by decide) rfl (kX12_isRecord l n0 D Y N x0 x1 z e1) (cwV 1 C.2.2.2.2.2.1 gX12_grind_X12_isRecord rfl rfl rfl (by decide +kernel) ⟨(Nat.le_of_ble_eq_true rfl), (Nat.le_of_ble_eq_true rfl)⟩) rfl hl.1 rfl (Nat.le_of_ble_eq_true rfl) dX12_grind_2 ⟨(Nat.le_of_ble_eq_true rfl), (Nat.le_of_ble_eq_true rfl)⟩) (fun H locs hw => ?_)
  refine lv_if_ne (tgt := 10) C.1 C.2.1 dX12_grind_5 (by decide) (fun c4 => ?_) (fun c4 => ?_)
  · replace h := brF h c4
    refine lv_aload_n C.1 C.2.1 dX12_grind_10 rfl (lv_at hl 0 rfl) ?_
    refine r_get (v := rv n0 (zG z 707 x0)) C hw g3 (by decide) (Cn := RX12) (T := TX12) (N := 50) rfl in_X12_grind_X12 3 (by decide) (by decide +kernel) (fun _ h => h) rfl dX12_grind_11 ?_
    obtain ⟨b6, e5, h⟩ := boE h
    refine r_topr e5 ?_
    refine lv_iload_n C.1 C.2.1 dX12_grind_14 rfl (lv_at hl 1 rfl) ?_
    obtain ⟨g7, h⟩ := gdE h
    obtain ⟨i8, h⟩ := gdE h
    refine r_iald C hw g7 i8 dX12_grind_15 ?_
    refine lv_iconst (v := (1 : Int32)) C.1 C.2.1 dX12_grind_16 (by decide) ?_
    refine lv_icmp_eq (tgt := 23) C.1 C.2.1 dX12_grind_17 (by decide) (fun c9 => ?_) (fun c9 => ?_)
    · replace h := brT h c9
      refine lv_aload_n C.1 C.2.1 dX12_grind_23 rfl (lv_at hl 0 rfl) ?_
      refine r_get (v := rv n0 (zG z 714 x0)) C hw g3 (by decide) (Cn := RX12) (T := TX12) (N := 50) rfl in_X12_grind_X12 10 (by decide) (by decide +kernel) (fun _ h => h) rfl dX12_grind_24 ?_
      obtain ⟨b11, e10, h⟩ := boE h
      refine r_topr e10 ?_
      refine lv_iload_n C.1 C.2.1 dX12_grind_27 rfl (lv_at hl 1 rfl) ?_
      obtain ⟨g12, h⟩ := gdE h
      obtain ⟨i13, h⟩ := gdE h
      refine r_zald C hw g12 i13 dX12_grind_28 ?_
      refine lv_if_eq (tgt := 35) C.1 C.2.1 dX12_grind_29 (by decide) (fun c14 => ?_) (fun c14 => ?_)
      · replace h := brT h c14
        refine lv_aload_n C.1 C.2.1 dX12_grind_35 rfl (lv_at hl 0 rfl) ?_
        refine r_get (v := rv n0 (zG z 712 x0)) C hw g3 (by decide) (Cn := RX12) (T := TX12) (N := 50) rfl in_X12_grind_X12 8 (by decide) (by decide +kernel) (fun _ h => h) rfl dX12_grind_36 ?_
        obtain ⟨b16, e15, h⟩ := boE h
        refine r_topr e15 ?_
        refine lv_iload_n C.1 C.2.1 dX12_grind_39 rfl (lv_at hl 1 rfl) ?_
        obtain ⟨g17, h⟩ := gdE h
        obtain ⟨i18, h⟩ := gdE h
        refine r_iald C hw g17 i18 dX12_grind_40 ?_
        refine lv_aload_n C.1 C.2.1 dX12_grind_41 rfl (lv_at hl 0 rfl) ?_
        refine r_get (v := .int (zF z 718 x0)) C hw g3 (by decide) (Cn := RX12) (T := TX12) (N := 50) rfl in_X12_grind_X12 14 (by decide) (by decide +kernel) (fun _ h => h) rfl dX12_grind_42 ?_
        obtain ⟨g19, h⟩ := gdE h
        refine lv_idiv C.1 C.2.1 dX12_grind_45 g19 ?_
        obtain ⟨v20, e21, h⟩ := bdE h
        refine r_topi e21 ?_
        refine lv_istore_n (i := 2) (lv' := [(2, .int v20), (0, .ref (n0 + x0)), (1, .int x1)]) C.1 C.2.1 dX12_grind_46 rfl hl (by decide) rfl (fun ls hl => ?_)
        refine lv_aload_n C.1 C.2.1 dX12_grind_47 rfl (lv_at hl 1 rfl) ?_
        refine r_get (v := rv n0 (zG z 714 x0)) C hw g3 (by decide) (Cn := RX12) (T := TX12) (N := 50) rfl in_X12_grind_X12 10 (by decide) (by decide +kernel) (fun _ h => h) rfl dX12_grind_48 ?_
        obtain ⟨b23, e22, h⟩ := boE h
        refine r_topr e22 ?_
        refine lv_iload_n C.1 C.2.1 dX12_grind_51 rfl (lv_at hl 2 rfl) ?_
        refine lv_iconst (v := (1 : Int32)) C.1 C.2.1 dX12_grind_52 (by decide) ?_
        obtain ⟨g24, h⟩ := gdE h
        obtain ⟨i25, h⟩ := gdE h
        obtain ⟨z26, e27, h⟩ := bdE h
        refine r_zast C hw g24 i25 (by decide) e27 dX12_grind_53 (fun H locs hw => ?_)
        refine lv_aload_n C.1 C.2.1 dX12_grind_54 rfl (lv_at hl 1 rfl) ?_
        have g28 : x0 < zn z26 ∧ zK z26 x0 = 11 := by rw [e27]; exact g3
        refine r_get (v := rv n0 (zG z26 715 x0)) C hw g28 (by decide) (Cn := RX12) (T := TX12) (N := 50) rfl in_X12_grind_X12 11 (by decide) (by decide +kernel) (fun _ h => h) rfl dX12_grind_55 ?_
        obtain ⟨b30, e29, h⟩ := boE h
        refine r_topr e29 ?_
        refine lv_iload_n C.1 C.2.1 dX12_grind_58 rfl (lv_at hl 2 rfl) ?_
        refine lv_aload_n C.1 C.2.1 dX12_grind_59 rfl (lv_at hl 1 rfl) ?_
        refine r_get (v := rv n0 (zG z26 712 x0)) C hw g28 (by decide) (Cn := RX12) (T := TX12) (N := 50) rfl in_X12_grind_X12 8 (by decide) (by decide +kernel) (fun _ h => h) rfl dX12_grind_60 ?_
        obtain ⟨b32, e31, h⟩ := boE h
        refine r_topr e31 ?_
        refine lv_iload_n C.1 C.2.1 dX12_grind_63 rfl (lv_at hl 2 rfl) ?_
        obtain ⟨g33, h⟩ := gdE h
        obtain ⟨i34, h⟩ := gdE h
        refine r_iald C hw g33 i34 dX12_grind_64 ?_
        refine lv_iload_n C.1 C.2.1 dX12_grind_65 rfl (lv_at hl 0 rfl) ?_
        refine lv_isub C.1 C.2.1 dX12_grind_66 ?_
        obtain ⟨g35, h⟩ := gdE h
        obtain ⟨i36, h⟩ := gdE h
        obtain ⟨z37, e38, h⟩ := bdE h
        refine r_iast C hw g35 i36 e38 dX12_grind_67 (fun H locs hw => ?_)
        refine lv_aload_n C.1 C.2.1 dX12_grind_68 rfl (lv_at hl 1 rfl) ?_
        have g39 : x0 < zn z37 ∧ zK z37 x0 = 11 := by rw [e38]; exact g28
        refine r_get (v := rv n0 (zG z37 716 x0)) C hw g39 (by decide) (Cn := RX12) (T := TX12) (N := 50) rfl in_X12_grind_X12 12 (by decide) (by decide +kernel) (fun _ h => h) rfl dX12_grind_69 ?_
        obtain ⟨b41, e40, h⟩ := boE h
        refine r_topr e40 ?_
        refine lv_aload_n C.1 C.2.1 dX12_grind_72 rfl (lv_at hl 1 rfl) ?_
        refine r_get (v := .int (zF z37 717 x0)) C hw g39 (by decide) (Cn := RX12) (T := TX12) (N := 50) rfl in_X12_grind_X12 13 (by decide) (by decide +kernel) (fun _ h => h) rfl dX12_grind_73 ?_
        refine lv_iload_n C.1 C.2.1 dX12_grind_76 rfl (lv_at hl 2 rfl) ?_
        obtain ⟨g42, h⟩ := gdE h
        obtain ⟨i43, h⟩ := gdE h
        obtain ⟨z44, e45, h⟩ := bdE h
        refine r_iast C hw g42 i43 e45 dX12_grind_77 (fun H locs hw => ?_)
        refine lv_aload_n C.1 C.2.1 dX12_grind_78 rfl (lv_at hl 1 rfl) ?_
        refine lv_dup C.1 C.2.1 dX12_grind_79 rfl ?_
        have g46 : x0 < zn z44 ∧ zK z44 x0 = 11 := by rw [e45]; exact g39
        refine r_get (v := .int (zF z44 717 x0)) C hw g46 (by decide) (Cn := RX12) (T := TX12) (N := 50) rfl in_X12_grind_X12 13 (by decide) (by decide +kernel) (fun _ h => h) rfl dX12_grind_80 ?_
        refine lv_iconst (v := (1 : Int32)) C.1 C.2.1 dX12_grind_83 (by decide) ?_
        refine lv_iadd C.1 C.2.1 dX12_grind_84 ?_
        obtain ⟨z47, e48, h⟩ := bdE h
        refine r_putI C hw g46 (by decide) (Cn := RX12) (T := TX12) (N := 50) rfl in_X12_grind_X12 tyX12 tyX12_ok nmX12 13 (by decide) (by decide +kernel) (fun _ h => h) (Or.inl rfl) (ty := .int) (by decide +kernel) rfl rfl (Nat.le_of_ble_eq_true rfl) (st_11_13 n0 z44 x0 ((zF z44 717 x0) + (1 : Int32))) e48 dX12_grind_85 (fun H locs hw => ?_)
        refine lv_aload_n C.1 C.2.1 dX12_grind_88 rfl (lv_at hl 1 rfl) ?_
        refine lv_dup C.1 C.2.1 dX12_grind_89 rfl ?_
        have g49 : x0 < zn z47 ∧ zK z47 x0 = 11 := by rw [e48]; exact g46
        refine r_get (v := .int (zF z47 719 x0)) C hw g49 (by decide) (Cn := RX12) (T := TX12) (N := 50) rfl in_X12_grind_X12 15 (by decide) (by decide +kernel) (fun _ h => h) rfl dX12_grind_90 ?_
        refine lv_iload_n C.1 C.2.1 dX12_grind_93 rfl (lv_at hl 0 rfl) ?_
        refine lv_iadd C.1 C.2.1 dX12_grind_94 ?_
        obtain ⟨z50, e51, h⟩ := bdE h
        refine r_putI C hw g49 (by decide) (Cn := RX12) (T := TX12) (N := 50) rfl in_X12_grind_X12 tyX12 tyX12_ok nmX12 15 (by decide) (by decide +kernel) (fun _ h => h) (Or.inl rfl) (ty := .int) (by decide +kernel) rfl rfl (Nat.le_of_ble_eq_true rfl) (st_11_15 n0 z47 x0 ((zF z47 719 x0) + v20)) e51 dX12_grind_95 (fun H locs hw => ?_)
        refine lv_iload_n C.1 C.2.1 dX12_grind_98 rfl (lv_at hl 0 rfl) ?_
        cases h
        replace hF : _ = fin := hF
        subst hF
        exact r_iret C hw dX12_grind_99
      · replace h := brF h c14
        refine lv_bipush (v := (-3 : Int32)) C.1 C.2.1 dX12_grind_32 (by decide) ?_
        cases h
        replace hF : _ = fin := hF
        subst hF
        exact r_iret C hw dX12_grind_34
    · replace h := brF h c9
      refine lv_bipush (v := (-5 : Int32)) C.1 C.2.1 dX12_grind_20 (by decide) ?_
      cases h
      replace hF : _ = fin := hF
      subst hF
      exact r_iret C hw dX12_grind_22
  · replace h := brT h c4
    refine lv_iconst (v := (-1 : Int32)) C.1 C.2.1 dX12_grind_8 (by decide) ?_
    cases h
    replace hF : _ = fin := hF
    subst hF
    exact r_iret C hw dX12_grind_9
set_option maxRecDepth 100000 in
theorem kX12_grind (l : Launch) (n0 : Nat) (D : va_G) (Y : Nat → ClassId) (N : Nat) (x0 : Nat) (x1 : Int32) (z : Hp) {r : Int32} {z1 : Hp} (h : fX12_grind N x0 x1 z = some (r, z1)) : Met l yX12_grind wsX12_grind rmX12_grind (PreC n0 D Y z [.ref (n0 + x0), .int x1]) (PosI n0 D Y z1 r) 0 0 (AA n0) := by
  refine Met.ofW (cc := cX12_grind) (maxL := 3) (ret := (some .int)) (by decide) rfl ?_
  intro p e s m args below meth c s₁ B hml hv
  obtain ⟨rfl, hR, hK⟩ := hv
  have C : Cx n0 D Y RX12 cX12_grind (some .int) 3 wsX12_grind "grind" p s m ([.ref (n0 + x0), .int x1] : List Value).toArray meth c := ⟨B.exec, B.bytes, B.returns, hml, findClass_of_methodNamed B.named, atoms_spec (ws := wsX12_grind) B.pre, B.notSynchronized, (name_of_methodNamed B.named B.method).1, hK⟩
  have hl := lv_entry ([.ref (n0 + x0), .int x1]) (n := 3) (Nat.le_of_ble_eq_true rfl)
  rw [lg_entry_eq]
  generalize (lg_sl ([.ref (n0 + x0), .int x1]) ++ List.replicate (3 - (lg_sl ([.ref (n0 + x0), .int x1])).length) Slot.unset).toArray = ls at hl ⊢
  have hl : lv_has ls 3 [(0, .ref (n0 + x0)), (1, .int x1)] := hl
  exact tX12_grind_0 C h rfl ⟨hR, va_S.rf⟩ hl
theorem in_X12_dish_X12 : ∀ w ∈ wsX120, w ∈ wsX12_dish := by decide +kernel
abbrev rmX12_dish : Room := { frames := 1, cells := 0, slots := 0, locals := 25 }
noncomputable def fX12_dish (N : Nat) (x0 : Nat) (x1 : Int32) (z : Hp) : Option (Int32 × Hp) := bo (fX12_in N (Int32.toInt64 x1) (2 : Int64) (100 : Int64) z) fun r2 => br (r2 = 0) (some ((-2 : Int32), z)) (gd (x0 < zn z ∧ zK z x0 = 11) <| bd (zF z 718 x0) fun v5 => bd (zsF z 718 x0 x1) fun z7 => some (v5, z7))
set_option maxHeartbeats 4000000 in
set_option maxRecDepth 100000 in
theorem tX12_dish_0 {n0 : Nat} {D : va_G} {Y : Nat → ClassId} {p : Program} {l : Launch} {e : Env} {s : State} {m : MethodId} {args : Array Value} {below : List Frame} {meth : Method} {c : Code} {N : Nat} {fin : Int32 × Hp} {x0 : Nat} {x1 : Int32}  {z : Hp} (C : Cx n0 D Y RX12 cX12_dish (some .int) 3 wsX12_dish "dish" p s m args meth c) {x : (Int32 × Hp)} (h : fX12_dish N x0 x1  z = some x) (hF : (fun x => x = fin) x) {H : Heap} {locs : List Loc} {ls : Array Slot} (hw : Wd n0 D Y z s H locs) (hl : lv_has ls 3 [(0, .ref (n0 + x0)), (1, .int x1)]) : W p l e rmX12_dish s m args below meth c H locs 0 0 (MQ below (PosI n0 D Y fin.2 fin.1) args s 0 0 (AA n0)) (F0 m 0 ls []) := by
  unfold fX12_dish at h
  refine lv_iload_n C.1 C.2.1 dX12_dish_0 rfl (lv_at hl 1 rfl) ?_
  refine lv_i2l C.1 C.2.1 dX12_dish_1 rfl ?_
  refine lv_ldc2 (v := (2 : Int64)) C.1 C.2.1 C.2.2.2.2.1 (C.2.2.2.2.2.1 (.constantLong RX12 180 (2 : Int64)) (by decide +kernel)) dX12_dish_2 ?_
  refine lv_ldc2 (v := (100 : Int64)) C.1 C.2.1 C.2.2.2.2.1 (C.2.2.2.2.2.1 (.constantLong RX12 182 (100 : Int64)) (by decide +kernel)) dX12_dish_5 ?_
  obtain ⟨r2, e1, h⟩ := boE h
  refine r_afti hw (r_runS (As := [.long (Int32.toInt64 x1), .long (2 : Int64), .long (100 : Int64)]) (rest := []) C hw (kX12_in l n0 D Y N (Int32.toInt64 x1) (2 : Int64) (100 : Int64) z e1) (va_cwS 3 C.2.2.2.2.2.1 gX12_dish_X12_in rfl rfl rfl (by decide +kernel) ⟨(Nat.le_of_ble_eq_true rfl), (Nat.le_of_ble_eq_true rfl)⟩) rfl hl.1 rfl (Nat.le_of_ble_eq_true rfl) dX12_dish_8 ⟨(Nat.le_of_ble_eq_true rfl), (Nat.le_of_ble_eq_true rfl)⟩) (fun H locs hw => ?_)
  refine lv_if_ne (tgt := 17) C.1 C.2.1 dX12_dish_11 (by decide) (fun c3 => ?_) (fun c3 => ?_)
  · replace h := brF h c3
    refine lv_aload_n C.1 C.2.1 dX12_dish_17 rfl (lv_at hl 0 rfl) ?_
    obtain ⟨g4, h⟩ := gdE h
    refine r_get (v := .int (zF z 718 x0)) C hw g4 (by decide) (Cn := RX12) (T := TX12) (N := 50) rfl in_X12_dish_X12 14 (by decide) (by decide +kernel) (fun _ h => h) rfl dX12_dish_18 ?_
    obtain ⟨v5, e6, h⟩ := bdE h
    refine r_topi e6 ?_
    refine lv_istore_n (i := 2) (lv' := [(2, .int v5), (0, .ref (n0 + x0)), (1, .int x1)]) C.1 C.2.1 dX12_dish_21 rfl hl (by decide) rfl (fun ls hl => ?_)
    refine lv_aload_n C.1 C.2.1 dX12_dish_22 rfl (lv_at hl 1 rfl) ?_
    refine lv_iload_n C.1 C.2.1 dX12_dish_23 rfl (lv_at hl 2 rfl) ?_
    obtain ⟨z7, e8, h⟩ := bdE h
    refine r_putI C hw g4 (by decide) (Cn := RX12) (T := TX12) (N := 50) rfl in_X12_dish_X12 tyX12 tyX12_ok nmX12 14 (by decide) (by decide +kernel) (fun _ h => h) (Or.inl rfl) (ty := .int) (by decide +kernel) rfl rfl (Nat.le_of_ble_eq_true rfl) (st_11_14 n0 z x0 x1) e8 dX12_dish_24 (fun H locs hw => ?_)
    refine lv_iload_n C.1 C.2.1 dX12_dish_27 rfl (lv_at hl 0 rfl) ?_
    cases h
    replace hF : _ = fin := hF
    subst hF
    exact r_iret C hw dX12_dish_28
  · replace h := brT h c3
    refine lv_bipush (v := (-2 : Int32)) C.1 C.2.1 dX12_dish_14 (by decide) ?_
    cases h
    replace hF : _ = fin := hF
    subst hF
    exact r_iret C hw dX12_dish_16
set_option maxRecDepth 100000 in
theorem kX12_dish (l : Launch) (n0 : Nat) (D : va_G) (Y : Nat → ClassId) (N : Nat) (x0 : Nat) (x1 : Int32) (z : Hp) {r : Int32} {z1 : Hp} (h : fX12_dish N x0 x1 z = some (r, z1)) : Met l yX12_dish wsX12_dish rmX12_dish (PreC n0 D Y z [.ref (n0 + x0), .int x1]) (PosI n0 D Y z1 r) 0 0 (AA n0) := by
  refine Met.ofW (cc := cX12_dish) (maxL := 3) (ret := (some .int)) (by decide) rfl ?_
  intro p e s m args below meth c s₁ B hml hv
  obtain ⟨rfl, hR, hK⟩ := hv
  have C : Cx n0 D Y RX12 cX12_dish (some .int) 3 wsX12_dish "dish" p s m ([.ref (n0 + x0), .int x1] : List Value).toArray meth c := ⟨B.exec, B.bytes, B.returns, hml, findClass_of_methodNamed B.named, atoms_spec (ws := wsX12_dish) B.pre, B.notSynchronized, (name_of_methodNamed B.named B.method).1, hK⟩
  have hl := lv_entry ([.ref (n0 + x0), .int x1]) (n := 3) (Nat.le_of_ble_eq_true rfl)
  rw [lg_entry_eq]
  generalize (lg_sl ([.ref (n0 + x0), .int x1]) ++ List.replicate (3 - (lg_sl ([.ref (n0 + x0), .int x1])).length) Slot.unset).toArray = ls at hl ⊢
  have hl : lv_has ls 3 [(0, .ref (n0 + x0)), (1, .int x1)] := hl
  exact tX12_dish_0 C h rfl ⟨hR, va_S.rf⟩ hl
theorem in_X12_priceIn_X12 : ∀ w ∈ wsX120, w ∈ wsX12_priceIn := by decide +kernel
abbrev rmX12_priceIn : Room := { frames := 0, cells := 0, slots := 0, locals := 0 }
noncomputable def fX12_priceIn_78 (N : Nat) (x0 : Nat) (x2 : Int32) (x3 : Int64) (x5 : Int64) (x7 : Int32) (z : Hp) : Option ((Int64 × Int64 × Int32) ⊕ ((Int32) ⊕ (Int32))) := bd (x7 + (1 : Int32)) fun v1 => some (.inl (x3, x5, v1))
set_option maxHeartbeats 4000000 in
set_option maxRecDepth 100000 in
theorem tX12_priceIn_78 {n0 : Nat} {D : va_G} {Y : Nat → ClassId} {p : Program} {l : Launch} {e : Env} {s : State} {m : MethodId} {args : Array Value} {below : List Frame} {meth : Method} {c : Code} {N : Nat} {fin : Int32} {x0 : Nat} {x2 : Int32} {x3 : Int64} {x5 : Int64} {x7 : Int32}  {z : Hp} (C : Cx n0 D Y RX12 cX12_priceIn (some .int) 8 wsX12_priceIn "priceIn" p s m args meth c) {P2 : Int32 → Prop} (hP2 : ∀ u, P2 u → ∀ (H : Heap) (locs : List Loc) (ls : Array Slot), Wd n0 D Y z s H locs → lv_has ls 8 [(0, .ref (n0 + x0)), (2, .int u)] → W p l e rmX12_priceIn s m args below meth c H locs 0 0 (MQ below (PosI n0 D Y z fin) args s 0 0 (AA n0)) (F0 m 2 ls [])) {P14 : Int64 × Int64 × Int32 → Prop} (hP14 : ∀ u, P14 u → ∀ (H : Heap) (locs : List Loc) (ls : Array Slot), Wd n0 D Y z s H locs → lv_has ls 8 [(0, .ref (n0 + x0)), (2, .int x2), (3, .long u.1), (5, .long u.2.1), (7, .int u.2.2)] → W p l e rmX12_priceIn s m args below meth c H locs 0 0 (MQ below (PosI n0 D Y z fin) args s 0 0 (AA n0)) (F0 m 14 ls [])) {x : ((Int64 × Int64 × Int32) ⊕ ((Int32) ⊕ (Int32)))} (h : fX12_priceIn_78 N x0 x2 x3 x5 x7  z = some x) (hF : (Fn P14 (Fn P2 (fun x => x = fin))) x) {H : Heap} {locs : List Loc} {ls : Array Slot} (hw : Wd n0 D Y z s H locs) (hl : lv_has ls 8 [(0, .ref (n0 + x0)), (2, .int x2), (3, .long x3), (5, .long x5), (7, .int x7)]) : W p l e rmX12_priceIn s m args below meth c H locs 0 0 (MQ below (PosI n0 D Y z fin) args s 0 0 (AA n0)) (F0 m 78 ls []) := by
  unfold fX12_priceIn_78 at h
  obtain ⟨v1, e2, h⟩ := bdE h
  refine lv_iinc (v := v1) (lv' := [(7, .int v1), (0, .ref (n0 + x0)), (2, .int x2), (3, .long x3), (5, .long x5)]) C.1 C.2.1 dX12_priceIn_78 hl (k := 4) rfl (by rw [e2]; rfl) (by decide) rfl (fun ls hl => ?_)
  refine lv_goto (tgt := 14) C.1 C.2.1 dX12_priceIn_81 (by decide) ?_
  cases h
  exact hP14 _ hF _ _ _ hw (lv_sub hl [1, 2, 3, 4, 0] rfl)
noncomputable def fX12_priceIn_14 (N : Nat) (x0 : Nat) (x2 : Int32) (x3 : Int64) (x5 : Int64) (x7 : Int32) (z : Hp) : Option ((Int64 × Int64 × Int32) ⊕ ((Int32) ⊕ (Int32))) := gd (x0 < zn z ∧ zK z x0 = 11) <| br ((zF z 711 x0) ≤ x7) (lf <| br ((lg_cmp x5 (0 : Int64)) ≤ 0) (bd (x2 + (-1 : Int32)) fun v5 => some (.inl (v5))) (gd (¬ x5 = 0) <| lf <| some (Int64.toInt32 (x3 / x5)))) (bo (zG z 707 x0) fun b10 => gd (b10 < zn z ∧ zK z b10 = 12) <| gd (¬ (x7 < 0 ∨ zL z b10 ≤ (x7).toNatClampNeg)) <| br ((zA z b10 (x7).toNatClampNeg) = (1 : Int32)) (bo (zG z 708 x0) fun b15 => gd (b15 < zn z ∧ zK z b15 = 12) <| gd (¬ (x7 < 0 ∨ zL z b15 ≤ (x7).toNatClampNeg)) <| br ((zA z b15 (x7).toNatClampNeg) = x2) (bo (zG z 713 x0) fun b20 => gd (b20 < zn z ∧ zK z b20 = 12) <| gd (¬ (x7 < 0 ∨ zL z b20 ≤ (x7).toNatClampNeg)) <| bo (zG z 712 x0) fun b24 => gd (b24 < zn z ∧ zK z b24 = 12) <| gd (¬ (x7 < 0 ∨ zL z b24 ≤ (x7).toNatClampNeg)) <| bd (x3 + ((Int32.toInt64 (zA z b20 (x7).toNatClampNeg)) * (Int32.toInt64 (zA z b24 (x7).toNatClampNeg)))) fun v27 => bo (zG z 712 x0) fun b30 => gd (b30 < zn z ∧ zK z b30 = 12) <| gd (¬ (x7 < 0 ∨ zL z b30 ≤ (x7).toNatClampNeg)) <| bd (x5 + (Int32.toInt64 (zA z b30 (x7).toNatClampNeg))) fun v33 => fX12_priceIn_78 N x0 x2 v27 v33 x7 z) (fX12_priceIn_78 N x0 x2 x3 x5 x7 z)) (fX12_priceIn_78 N x0 x2 x3 x5 x7 z))
set_option maxHeartbeats 4000000 in
set_option maxRecDepth 100000 in
theorem tX12_priceIn_14 {n0 : Nat} {D : va_G} {Y : Nat → ClassId} {p : Program} {l : Launch} {e : Env} {s : State} {m : MethodId} {args : Array Value} {below : List Frame} {meth : Method} {c : Code} {N : Nat} {fin : Int32} {x0 : Nat} {x2 : Int32} {x3 : Int64} {x5 : Int64} {x7 : Int32}  {z : Hp} (C : Cx n0 D Y RX12 cX12_priceIn (some .int) 8 wsX12_priceIn "priceIn" p s m args meth c) {P2 : Int32 → Prop} (hP2 : ∀ u, P2 u → ∀ (H : Heap) (locs : List Loc) (ls : Array Slot), Wd n0 D Y z s H locs → lv_has ls 8 [(0, .ref (n0 + x0)), (2, .int u)] → W p l e rmX12_priceIn s m args below meth c H locs 0 0 (MQ below (PosI n0 D Y z fin) args s 0 0 (AA n0)) (F0 m 2 ls [])) {P14 : Int64 × Int64 × Int32 → Prop} (hP14 : ∀ u, P14 u → ∀ (H : Heap) (locs : List Loc) (ls : Array Slot), Wd n0 D Y z s H locs → lv_has ls 8 [(0, .ref (n0 + x0)), (2, .int x2), (3, .long u.1), (5, .long u.2.1), (7, .int u.2.2)] → W p l e rmX12_priceIn s m args below meth c H locs 0 0 (MQ below (PosI n0 D Y z fin) args s 0 0 (AA n0)) (F0 m 14 ls [])) {x : ((Int64 × Int64 × Int32) ⊕ ((Int32) ⊕ (Int32)))} (h : fX12_priceIn_14 N x0 x2 x3 x5 x7  z = some x) (hF : (Fn P14 (Fn P2 (fun x => x = fin))) x) {H : Heap} {locs : List Loc} {ls : Array Slot} (hw : Wd n0 D Y z s H locs) (hl : lv_has ls 8 [(0, .ref (n0 + x0)), (2, .int x2), (3, .long x3), (5, .long x5), (7, .int x7)]) : W p l e rmX12_priceIn s m args below meth c H locs 0 0 (MQ below (PosI n0 D Y z fin) args s 0 0 (AA n0)) (F0 m 14 ls []) := by
  unfold fX12_priceIn_14 at h
  refine lv_iload C.1 C.2.1 dX12_priceIn_14 (lv_at hl 4 rfl) ?_
  refine lv_aload_n C.1 C.2.1 dX12_priceIn_16 rfl (lv_at hl 0 rfl) ?_
  obtain ⟨g1, h⟩ := gdE h
  refine r_get (v := .int (zF z 711 x0)) C hw g1 (by decide) (Cn := RX12) (T := TX12) (N := 50) rfl in_X12_priceIn_X12 7 (by decide) (by decide +kernel) (fun _ h => h) rfl dX12_priceIn_17 ?_
  refine lv_icmp_ge (tgt := 84) C.1 C.2.1 dX12_priceIn_20 (by decide) (fun c2 => ?_) (fun c2 => ?_)
  · replace h := brT h c2
    obtain ⟨y3, h, hF⟩ := lfX h hF
    refine lv_lload C.1 C.2.1 dX12_priceIn_84 (lv_at hl 3 rfl) ?_
    refine lv_lconst (v := (0 : Int64)) C.1 C.2.1 dX12_priceIn_86 (by decide) ?_
    refine W.lcmp C.1 C.2.1 dX12_priceIn_87 ?_
    refine lv_if_le (tgt := 97) C.1 C.2.1 dX12_priceIn_88 (by decide) (fun c4 => ?_) (fun c4 => ?_)
    · replace h := brT h c4
      obtain ⟨v5, e6, h⟩ := bdE h
      refine lv_iinc (v := v5) (lv' := [(2, .int v5), (0, .ref (n0 + x0)), (3, .long x3), (5, .long x5), (7, .int x7)]) C.1 C.2.1 dX12_priceIn_97 hl (k := 1) rfl (by rw [e6]; rfl) (by decide) rfl (fun ls hl => ?_)
      refine lv_goto (tgt := 2) C.1 C.2.1 dX12_priceIn_100 (by decide) ?_
      cases h
      exact hP2 _ hF _ _ _ hw (lv_sub hl [1, 0] rfl)
    · replace h := brF h c4
      refine lv_lload_n C.1 C.2.1 dX12_priceIn_91 rfl (lv_at hl 2 rfl) ?_
      refine lv_lload C.1 C.2.1 dX12_priceIn_92 (lv_at hl 3 rfl) ?_
      obtain ⟨g7, h⟩ := gdE h
      refine lv_ldiv C.1 C.2.1 dX12_priceIn_94 g7 ?_
      refine lv_l2i C.1 C.2.1 dX12_priceIn_95 rfl ?_
      obtain ⟨y8, h, hF⟩ := lfX h hF
      cases h
      replace hF : _ = fin := hF
      subst hF
      exact r_iret C hw dX12_priceIn_96
  · replace h := brF h c2
    refine lv_aload_n C.1 C.2.1 dX12_priceIn_23 rfl (lv_at hl 0 rfl) ?_
    refine r_get (v := rv n0 (zG z 707 x0)) C hw g1 (by decide) (Cn := RX12) (T := TX12) (N := 50) rfl in_X12_priceIn_X12 3 (by decide) (by decide +kernel) (fun _ h => h) rfl dX12_priceIn_24 ?_
    obtain ⟨b10, e9, h⟩ := boE h
    refine r_topr e9 ?_
    refine lv_iload C.1 C.2.1 dX12_priceIn_27 (lv_at hl 4 rfl) ?_
    obtain ⟨g11, h⟩ := gdE h
    obtain ⟨i12, h⟩ := gdE h
    refine r_iald C hw g11 i12 dX12_priceIn_29 ?_
    refine lv_iconst (v := (1 : Int32)) C.1 C.2.1 dX12_priceIn_30 (by decide) ?_
    refine lv_icmp_ne (tgt := 78) C.1 C.2.1 dX12_priceIn_31 (by decide) (fun c13 => ?_) (fun c13 => ?_)
    · replace h := brF h c13
      exact tX12_priceIn_78 C hP2 hP14 h hF hw (lv_sub hl [0, 1, 2, 3, 4] rfl)
    · replace h := brT h c13
      refine lv_aload_n C.1 C.2.1 dX12_priceIn_34 rfl (lv_at hl 0 rfl) ?_
      refine r_get (v := rv n0 (zG z 708 x0)) C hw g1 (by decide) (Cn := RX12) (T := TX12) (N := 50) rfl in_X12_priceIn_X12 4 (by decide) (by decide +kernel) (fun _ h => h) rfl dX12_priceIn_35 ?_
      obtain ⟨b15, e14, h⟩ := boE h
      refine r_topr e14 ?_
      refine lv_iload C.1 C.2.1 dX12_priceIn_38 (lv_at hl 4 rfl) ?_
      obtain ⟨g16, h⟩ := gdE h
      obtain ⟨i17, h⟩ := gdE h
      refine r_iald C hw g16 i17 dX12_priceIn_40 ?_
      refine lv_iload_n C.1 C.2.1 dX12_priceIn_41 rfl (lv_at hl 1 rfl) ?_
      refine lv_icmp_ne (tgt := 78) C.1 C.2.1 dX12_priceIn_42 (by decide) (fun c18 => ?_) (fun c18 => ?_)
      · replace h := brF h c18
        exact tX12_priceIn_78 C hP2 hP14 h hF hw (lv_sub hl [0, 1, 2, 3, 4] rfl)
      · replace h := brT h c18
        refine lv_lload_n C.1 C.2.1 dX12_priceIn_45 rfl (lv_at hl 2 rfl) ?_
        refine lv_aload_n C.1 C.2.1 dX12_priceIn_46 rfl (lv_at hl 0 rfl) ?_
        refine r_get (v := rv n0 (zG z 713 x0)) C hw g1 (by decide) (Cn := RX12) (T := TX12) (N := 50) rfl in_X12_priceIn_X12 9 (by decide) (by decide +kernel) (fun _ h => h) rfl dX12_priceIn_47 ?_
        obtain ⟨b20, e19, h⟩ := boE h
        refine r_topr e19 ?_
        refine lv_iload C.1 C.2.1 dX12_priceIn_50 (lv_at hl 4 rfl) ?_
        obtain ⟨g21, h⟩ := gdE h
        obtain ⟨i22, h⟩ := gdE h
        refine r_iald C hw g21 i22 dX12_priceIn_52 ?_
        refine lv_i2l C.1 C.2.1 dX12_priceIn_53 rfl ?_
        refine lv_aload_n C.1 C.2.1 dX12_priceIn_54 rfl (lv_at hl 0 rfl) ?_
        refine r_get (v := rv n0 (zG z 712 x0)) C hw g1 (by decide) (Cn := RX12) (T := TX12) (N := 50) rfl in_X12_priceIn_X12 8 (by decide) (by decide +kernel) (fun _ h => h) rfl dX12_priceIn_55 ?_
        obtain ⟨b24, e23, h⟩ := boE h
        refine r_topr e23 ?_
        refine lv_iload C.1 C.2.1 dX12_priceIn_58 (lv_at hl 4 rfl) ?_
        obtain ⟨g25, h⟩ := gdE h
        obtain ⟨i26, h⟩ := gdE h
        refine r_iald C hw g25 i26 dX12_priceIn_60 ?_
        refine lv_i2l C.1 C.2.1 dX12_priceIn_61 rfl ?_
        refine lv_lmul C.1 C.2.1 dX12_priceIn_62 ?_
        refine lv_ladd C.1 C.2.1 dX12_priceIn_63 ?_
        obtain ⟨v27, e28, h⟩ := bdE h
        refine r_topl e28 ?_
        refine lv_lstore_n (i := 3) (lv' := [(3, .long v27), (0, .ref (n0 + x0)), (2, .int x2), (5, .long x5), (7, .int x7)]) C.1 C.2.1 dX12_priceIn_64 rfl hl (by decide) rfl (fun ls hl => ?_)
        refine lv_lload C.1 C.2.1 dX12_priceIn_65 (lv_at hl 3 rfl) ?_
        refine lv_aload_n C.1 C.2.1 dX12_priceIn_67 rfl (lv_at hl 1 rfl) ?_
        refine r_get (v := rv n0 (zG z 712 x0)) C hw g1 (by decide) (Cn := RX12) (T := TX12) (N := 50) rfl in_X12_priceIn_X12 8 (by decide) (by decide +kernel) (fun _ h => h) rfl dX12_priceIn_68 ?_
        obtain ⟨b30, e29, h⟩ := boE h
        refine r_topr e29 ?_
        refine lv_iload C.1 C.2.1 dX12_priceIn_71 (lv_at hl 4 rfl) ?_
        obtain ⟨g31, h⟩ := gdE h
        obtain ⟨i32, h⟩ := gdE h
        refine r_iald C hw g31 i32 dX12_priceIn_73 ?_
        refine lv_i2l C.1 C.2.1 dX12_priceIn_74 rfl ?_
        refine lv_ladd C.1 C.2.1 dX12_priceIn_75 ?_
        obtain ⟨v33, e34, h⟩ := bdE h
        refine r_topl e34 ?_
        refine lv_lstore (i := 5) (lv' := [(5, .long v33), (3, .long v27), (0, .ref (n0 + x0)), (2, .int x2), (7, .int x7)]) C.1 C.2.1 dX12_priceIn_76 hl (by decide) rfl (fun ls hl => ?_)
        exact tX12_priceIn_78 C hP2 hP14 h hF hw (lv_sub hl [2, 3, 1, 0, 4] rfl)
set_option maxHeartbeats 4000000 in
set_option maxRecDepth 100000 in
theorem lX12_priceIn_14 {n0 : Nat} {D : va_G} {Y : Nat → ClassId} {p : Program} {l : Launch} {e : Env} {s : State} {m : MethodId} {args : Array Value} {below : List Frame} {meth : Method} {c : Code} {N : Nat} {fin : Int32} {x0 : Nat} {x2 : Int32} {z : Hp} (C : Cx n0 D Y RX12 cX12_priceIn (some .int) 8 wsX12_priceIn "priceIn" p s m args meth c) {P2 : Int32 → Prop} (hP2 : ∀ u, P2 u → ∀ (H : Heap) (locs : List Loc) (ls : Array Slot), Wd n0 D Y z s H locs → lv_has ls 8 [(0, .ref (n0 + x0)), (2, .int u)] → W p l e rmX12_priceIn s m args below meth c H locs 0 0 (MQ below (PosI n0 D Y z fin) args s 0 0 (AA n0)) (F0 m 2 ls [])) {x : ((Int32) ⊕ (Int32))} : ∀ (n : Nat) (u : Int64 × Int64 × Int32), wh (fun (u : Int64 × Int64 × Int32) => fX12_priceIn_14 N x0 x2 u.1 u.2.1 u.2.2 z) n u = some x → (Fn P2 (fun x => x = fin)) x → ∀ (H : Heap) (locs : List Loc) (ls : Array Slot), Wd n0 D Y z s H locs → lv_has ls 8 [(0, .ref (n0 + x0)), (2, .int x2), (3, .long u.1), (5, .long u.2.1), (7, .int u.2.2)] → W p l e rmX12_priceIn s m args below meth c H locs 0 0 (MQ below (PosI n0 D Y z fin) args s 0 0 (AA n0)) (F0 m 14 ls []) := fun n u h g => wh_ind (P := fun u => ∀ (H : Heap) (locs : List Loc) (ls : Array Slot), Wd n0 D Y z s H locs → lv_has ls 8 [(0, .ref (n0 + x0)), (2, .int x2), (3, .long u.1), (5, .long u.2.1), (7, .int u.2.2)] → W p l e rmX12_priceIn s m args below meth c H locs 0 0 (MQ below (PosI n0 D Y z fin) args s 0 0 (AA n0)) (F0 m 14 ls [])) (G := (Fn P2 (fun x => x = fin))) (fun u x h hF H locs ls hw hl => tX12_priceIn_14 C hP2 (P14 := fun u => ∀ (H : Heap) (locs : List Loc) (ls : Array Slot), Wd n0 D Y z s H locs → lv_has ls 8 [(0, .ref (n0 + x0)), (2, .int x2), (3, .long u.1), (5, .long u.2.1), (7, .int u.2.2)] → W p l e rmX12_priceIn s m args below meth c H locs 0 0 (MQ below (PosI n0 D Y z fin) args s 0 0 (AA n0)) (F0 m 14 ls [])) (fun _ h => h) h hF hw hl) n u x h g
noncomputable def fX12_priceIn_2 (N : Nat) (x0 : Nat) (x2 : Int32) (z : Hp) : Option ((Int32) ⊕ (Int32)) := br (x2 < 0) (lf <| some (100 : Int32)) (wh (fun (u : Int64 × Int64 × Int32) => fX12_priceIn_14 N x0 x2 u.1 u.2.1 u.2.2 z) N ((0 : Int64), (0 : Int64), (0 : Int32)))
set_option maxHeartbeats 4000000 in
set_option maxRecDepth 100000 in
theorem tX12_priceIn_2 {n0 : Nat} {D : va_G} {Y : Nat → ClassId} {p : Program} {l : Launch} {e : Env} {s : State} {m : MethodId} {args : Array Value} {below : List Frame} {meth : Method} {c : Code} {N : Nat} {fin : Int32} {x0 : Nat} {x2 : Int32}  {z : Hp} (C : Cx n0 D Y RX12 cX12_priceIn (some .int) 8 wsX12_priceIn "priceIn" p s m args meth c) {P2 : Int32 → Prop} (hP2 : ∀ u, P2 u → ∀ (H : Heap) (locs : List Loc) (ls : Array Slot), Wd n0 D Y z s H locs → lv_has ls 8 [(0, .ref (n0 + x0)), (2, .int u)] → W p l e rmX12_priceIn s m args below meth c H locs 0 0 (MQ below (PosI n0 D Y z fin) args s 0 0 (AA n0)) (F0 m 2 ls [])) {x : ((Int32) ⊕ (Int32))} (h : fX12_priceIn_2 N x0 x2  z = some x) (hF : (Fn P2 (fun x => x = fin)) x) {H : Heap} {locs : List Loc} {ls : Array Slot} (hw : Wd n0 D Y z s H locs) (hl : lv_has ls 8 [(0, .ref (n0 + x0)), (2, .int x2)]) : W p l e rmX12_priceIn s m args below meth c H locs 0 0 (MQ below (PosI n0 D Y z fin) args s 0 0 (AA n0)) (F0 m 2 ls []) := by
  unfold fX12_priceIn_2 at h
  refine lv_iload_n C.1 C.2.1 dX12_priceIn_2 rfl (lv_at hl 1 rfl) ?_
  refine lv_if_lt (tgt := 103) C.1 C.2.1 dX12_priceIn_3 (by decide) (fun c1 => ?_) (fun c1 => ?_)
  · replace h := brT h c1
    obtain ⟨y2, h, hF⟩ := lfX h hF
    refine lv_bipush (v := (100 : Int32)) C.1 C.2.1 dX12_priceIn_103 (by decide) ?_
    cases h
    replace hF : _ = fin := hF
    subst hF
    exact r_iret C hw dX12_priceIn_105
  · replace h := brF h c1
    refine lv_lconst (v := (0 : Int64)) C.1 C.2.1 dX12_priceIn_6 (by decide) ?_
    refine lv_lstore_n (i := 3) (lv' := [(3, .long (0 : Int64)), (0, .ref (n0 + x0)), (2, .int x2)]) C.1 C.2.1 dX12_priceIn_7 rfl hl (by decide) rfl (fun ls hl => ?_)
    refine lv_lconst (v := (0 : Int64)) C.1 C.2.1 dX12_priceIn_8 (by decide) ?_
    refine lv_lstore (i := 5) (lv' := [(5, .long (0 : Int64)), (3, .long (0 : Int64)), (0, .ref (n0 + x0)), (2, .int x2)]) C.1 C.2.1 dX12_priceIn_9 hl (by decide) rfl (fun ls hl => ?_)
    refine lv_iconst (v := (0 : Int32)) C.1 C.2.1 dX12_priceIn_11 (by decide) ?_
    refine lv_istore (i := 7) (lv' := [(7, .int (0 : Int32)), (5, .long (0 : Int64)), (3, .long (0 : Int64)), (0, .ref (n0 + x0)), (2, .int x2)]) C.1 C.2.1 dX12_priceIn_12 hl (by decide) rfl (fun ls hl => ?_)
    exact lX12_priceIn_14 C hP2 _ _ h hF _ _ _ hw (lv_sub hl [3, 4, 2, 1, 0] rfl)
set_option maxHeartbeats 4000000 in
set_option maxRecDepth 100000 in
theorem lX12_priceIn_2 {n0 : Nat} {D : va_G} {Y : Nat → ClassId} {p : Program} {l : Launch} {e : Env} {s : State} {m : MethodId} {args : Array Value} {below : List Frame} {meth : Method} {c : Code} {N : Nat} {fin : Int32} {x0 : Nat} {z : Hp} (C : Cx n0 D Y RX12 cX12_priceIn (some .int) 8 wsX12_priceIn "priceIn" p s m args meth c) {x : (Int32)} : ∀ (n : Nat) (u : Int32), wh (fun (u : Int32) => fX12_priceIn_2 N x0 u z) n u = some x → (fun x => x = fin) x → ∀ (H : Heap) (locs : List Loc) (ls : Array Slot), Wd n0 D Y z s H locs → lv_has ls 8 [(0, .ref (n0 + x0)), (2, .int u)] → W p l e rmX12_priceIn s m args below meth c H locs 0 0 (MQ below (PosI n0 D Y z fin) args s 0 0 (AA n0)) (F0 m 2 ls []) := fun n u h g => wh_ind (P := fun u => ∀ (H : Heap) (locs : List Loc) (ls : Array Slot), Wd n0 D Y z s H locs → lv_has ls 8 [(0, .ref (n0 + x0)), (2, .int u)] → W p l e rmX12_priceIn s m args below meth c H locs 0 0 (MQ below (PosI n0 D Y z fin) args s 0 0 (AA n0)) (F0 m 2 ls [])) (G := (fun x => x = fin)) (fun u x h hF H locs ls hw hl => tX12_priceIn_2 C (P2 := fun u => ∀ (H : Heap) (locs : List Loc) (ls : Array Slot), Wd n0 D Y z s H locs → lv_has ls 8 [(0, .ref (n0 + x0)), (2, .int u)] → W p l e rmX12_priceIn s m args below meth c H locs 0 0 (MQ below (PosI n0 D Y z fin) args s 0 0 (AA n0)) (F0 m 2 ls [])) (fun _ h => h) h hF hw hl) n u x h g
noncomputable def fX12_priceIn (N : Nat) (x0 : Nat) (x1 : Int32) (z : Hp) : Option (Int32) := wh (fun (u : Int32) => fX12_priceIn_2 N x0 u z) N (x1)
set_option maxHeartbeats 4000000 in
set_option maxRecDepth 100000 in
theorem tX12_priceIn_0 {n0 : Nat} {D : va_G} {Y : Nat → ClassId} {p : Program} {l : Launch} {e : Env} {s : State} {m : MethodId} {args : Array Value} {below : List Frame} {meth : Method} {c : Code} {N : Nat} {fin : Int32} {x0 : Nat} {x1 : Int32}  {z : Hp} (C : Cx n0 D Y RX12 cX12_priceIn (some .int) 8 wsX12_priceIn "priceIn" p s m args meth c) {x : (Int32)} (h : fX12_priceIn N x0 x1  z = some x) (hF : (fun x => x = fin) x) {H : Heap} {locs : List Loc} {ls : Array Slot} (hw : Wd n0 D Y z s H locs) (hl : lv_has ls 8 [(0, .ref (n0 + x0)), (1, .int x1)]) : W p l e rmX12_priceIn s m args below meth c H locs 0 0 (MQ below (PosI n0 D Y z fin) args s 0 0 (AA n0)) (F0 m 0 ls []) := by
  unfold fX12_priceIn at h
  refine lv_iload_n C.1 C.2.1 dX12_priceIn_0 rfl (lv_at hl 1 rfl) ?_
  refine lv_istore_n (i := 2) (lv' := [(2, .int x1), (0, .ref (n0 + x0)), (1, .int x1)]) C.1 C.2.1 dX12_priceIn_1 rfl hl (by decide) rfl (fun ls hl => ?_)
  exact lX12_priceIn_2 C _ _ h hF _ _ _ hw (lv_sub hl [1, 0] rfl)
set_option maxRecDepth 100000 in
theorem kX12_priceIn (l : Launch) (n0 : Nat) (D : va_G) (Y : Nat → ClassId) (N : Nat) (x0 : Nat) (x1 : Int32) (z : Hp) {r : Int32} (h : fX12_priceIn N x0 x1 z = some r) : Met l yX12_priceIn wsX12_priceIn rmX12_priceIn (PreC n0 D Y z [.ref (n0 + x0), .int x1]) (PosI n0 D Y z r) 0 0 (AA n0) := by
  refine Met.ofW (cc := cX12_priceIn) (maxL := 8) (ret := (some .int)) (by decide) rfl ?_
  intro p e s m args below meth c s₁ B hml hv
  obtain ⟨rfl, hR, hK⟩ := hv
  have C : Cx n0 D Y RX12 cX12_priceIn (some .int) 8 wsX12_priceIn "priceIn" p s m ([.ref (n0 + x0), .int x1] : List Value).toArray meth c := ⟨B.exec, B.bytes, B.returns, hml, findClass_of_methodNamed B.named, atoms_spec (ws := wsX12_priceIn) B.pre, B.notSynchronized, (name_of_methodNamed B.named B.method).1, hK⟩
  have hl := lv_entry ([.ref (n0 + x0), .int x1]) (n := 8) (Nat.le_of_ble_eq_true rfl)
  rw [lg_entry_eq]
  generalize (lg_sl ([.ref (n0 + x0), .int x1]) ++ List.replicate (8 - (lg_sl ([.ref (n0 + x0), .int x1])).length) Slot.unset).toArray = ls at hl ⊢
  have hl : lv_has ls 8 [(0, .ref (n0 + x0)), (1, .int x1)] := hl
  exact tX12_priceIn_0 C h rfl ⟨hR, va_S.rf⟩ hl
theorem in_X12_price_X12 : ∀ w ∈ wsX120, w ∈ wsX12_price := by decide +kernel
abbrev rmX12_price : Room := { frames := 1, cells := 0, slots := 0, locals := 27 }
noncomputable def fX12_price (N : Nat) (x0 : Nat) (x1 : Int32) (z : Hp) : Option (Int32) := gd (x0 < zn z ∧ zK z x0 = 11) <| bo (fX12_in N (Int32.toInt64 x1) (-1 : Int64) (Int32.toInt64 (zF z 704 x0)) z) fun r3 => br (r3 = 0) (some (-1 : Int32)) (bo (fX12_priceIn N x0 x1 z) fun r6 => some r6)
set_option maxHeartbeats 4000000 in
set_option maxRecDepth 100000 in
theorem tX12_price_0 {n0 : Nat} {D : va_G} {Y : Nat → ClassId} {p : Program} {l : Launch} {e : Env} {s : State} {m : MethodId} {args : Array Value} {below : List Frame} {meth : Method} {c : Code} {N : Nat} {fin : Int32} {x0 : Nat} {x1 : Int32}  {z : Hp} (C : Cx n0 D Y RX12 cX12_price (some .int) 2 wsX12_price "price" p s m args meth c) {x : (Int32)} (h : fX12_price N x0 x1  z = some x) (hF : (fun x => x = fin) x) {H : Heap} {locs : List Loc} {ls : Array Slot} (hw : Wd n0 D Y z s H locs) (hl : lv_has ls 2 [(0, .ref (n0 + x0)), (1, .int x1)]) : W p l e rmX12_price s m args below meth c H locs 0 0 (MQ below (PosI n0 D Y z fin) args s 0 0 (AA n0)) (F0 m 0 ls []) := by
  unfold fX12_price at h
  refine lv_iload_n C.1 C.2.1 dX12_price_0 rfl (lv_at hl 1 rfl) ?_
  refine lv_i2l C.1 C.2.1 dX12_price_1 rfl ?_
  refine lv_ldc2 (v := (-1 : Int64)) C.1 C.2.1 C.2.2.2.2.1 (C.2.2.2.2.2.1 (.constantLong RX12 184 (-1 : Int64)) (by decide +kernel)) dX12_price_2 ?_
  refine lv_aload_n C.1 C.2.1 dX12_price_5 rfl (lv_at hl 0 rfl) ?_
  obtain ⟨g1, h⟩ := gdE h
  refine r_get (v := .int (zF z 704 x0)) C hw g1 (by decide) (Cn := RX12) (T := TX12) (N := 50) rfl in_X12_price_X12 0 (by decide) (by decide +kernel) (fun _ h => h) rfl dX12_price_6 ?_
  refine lv_i2l C.1 C.2.1 dX12_price_9 rfl ?_
  obtain ⟨r3, e2, h⟩ := boE h
  refine r_afti hw (r_runS (As := [.long (Int32.toInt64 x1), .long (-1 : Int64), .long (Int32.toInt64 (zF z 704 x0))]) (rest := []) C hw (kX12_in l n0 D Y N (Int32.toInt64 x1) (-1 : Int64) (Int32.toInt64 (zF z 704 x0)) z e2) (va_cwS 3 C.2.2.2.2.2.1 gX12_price_X12_in rfl rfl rfl (by decide +kernel) ⟨(Nat.le_of_ble_eq_true rfl), (Nat.le_of_ble_eq_true rfl)⟩) rfl hl.1 rfl (Nat.le_of_ble_eq_true rfl) dX12_price_10 ⟨(Nat.le_of_ble_eq_true rfl), (Nat.le_of_ble_eq_true rfl)⟩) (fun H locs hw => ?_)
  refine lv_if_eq (tgt := 24) C.1 C.2.1 dX12_price_13 (by decide) (fun c4 => ?_) (fun c4 => ?_)
  · replace h := brT h c4
    refine lv_iconst (v := (-1 : Int32)) C.1 C.2.1 dX12_price_24 (by decide) ?_
    cases h
    replace hF : _ = fin := hF
    subst hF
    exact r_iret C hw dX12_price_25
  · replace h := brF h c4
    refine lv_aload_n C.1 C.2.1 dX12_price_16 rfl (lv_at hl 0 rfl) ?_
    refine lv_iload_n C.1 C.2.1 dX12_price_17 rfl (lv_at hl 1 rfl) ?_
    obtain ⟨r6, e5, h⟩ := boE h
    refine r_afti hw (r_runV (As := [.int x1]) (rest := []) C hw (ki := 11) g1 (by decide) rfl (kX12_priceIn l n0 D Y N x0 x1 z e5) (cwV 1 C.2.2.2.2.2.1 gX12_price_X12_priceIn rfl rfl rfl (by decide +kernel) ⟨(Nat.le_of_ble_eq_true rfl), (Nat.le_of_ble_eq_true rfl)⟩) rfl hl.1 rfl (Nat.le_of_ble_eq_true rfl) dX12_price_18 ⟨(Nat.le_of_ble_eq_true rfl), (Nat.le_of_ble_eq_true rfl)⟩) (fun H locs hw => ?_)
    refine lv_goto (tgt := 25) C.1 C.2.1 dX12_price_21 (by decide) ?_
    cases h
    replace hF : _ = fin := hF
    subst hF
    exact r_iret C hw dX12_price_25
set_option maxRecDepth 100000 in
theorem kX12_price (l : Launch) (n0 : Nat) (D : va_G) (Y : Nat → ClassId) (N : Nat) (x0 : Nat) (x1 : Int32) (z : Hp) {r : Int32} (h : fX12_price N x0 x1 z = some r) : Met l yX12_price wsX12_price rmX12_price (PreC n0 D Y z [.ref (n0 + x0), .int x1]) (PosI n0 D Y z r) 0 0 (AA n0) := by
  refine Met.ofW (cc := cX12_price) (maxL := 2) (ret := (some .int)) (by decide) rfl ?_
  intro p e s m args below meth c s₁ B hml hv
  obtain ⟨rfl, hR, hK⟩ := hv
  have C : Cx n0 D Y RX12 cX12_price (some .int) 2 wsX12_price "price" p s m ([.ref (n0 + x0), .int x1] : List Value).toArray meth c := ⟨B.exec, B.bytes, B.returns, hml, findClass_of_methodNamed B.named, atoms_spec (ws := wsX12_price) B.pre, B.notSynchronized, (name_of_methodNamed B.named B.method).1, hK⟩
  have hl := lv_entry ([.ref (n0 + x0), .int x1]) (n := 2) (Nat.le_of_ble_eq_true rfl)
  rw [lg_entry_eq]
  generalize (lg_sl ([.ref (n0 + x0), .int x1]) ++ List.replicate (2 - (lg_sl ([.ref (n0 + x0), .int x1])).length) Slot.unset).toArray = ls at hl ⊢
  have hl : lv_has ls 2 [(0, .ref (n0 + x0)), (1, .int x1)] := hl
  exact tX12_price_0 C h rfl ⟨hR, va_S.rf⟩ hl
theorem in_X12_text_X12 : ∀ w ∈ wsX120, w ∈ wsX12_text := by decide +kernel
abbrev rmX12_text : Room := { frames := 1, cells := 0, slots := 0, locals := 25 }
noncomputable def fX12_text_68 (N : Nat) (x0 : Nat) (z : Hp) : Option (Int32 × Hp) := some ((-2 : Int32), z)
set_option maxHeartbeats 4000000 in
set_option maxRecDepth 100000 in
theorem tX12_text_68 {n0 : Nat} {D : va_G} {Y : Nat → ClassId} {p : Program} {l : Launch} {e : Env} {s : State} {m : MethodId} {args : Array Value} {below : List Frame} {meth : Method} {c : Code} {N : Nat} {fin : Int32 × Hp} {x0 : Nat}  {z : Hp} (C : Cx n0 D Y RX12 cX12_text (some .int) 6 wsX12_text "text" p s m args meth c) {x : (Int32 × Hp)} (h : fX12_text_68 N x0  z = some x) (hF : (fun x => x = fin) x) {H : Heap} {locs : List Loc} {ls : Array Slot} (hw : Wd n0 D Y z s H locs) (hl : lv_has ls 6 [(0, .ref (n0 + x0))]) : W p l e rmX12_text s m args below meth c H locs 0 0 (MQ below (PosI n0 D Y fin.2 fin.1) args s 0 0 (AA n0)) (F0 m 68 ls []) := by
  unfold fX12_text_68 at h
  refine lv_bipush (v := (-2 : Int32)) C.1 C.2.1 dX12_text_68 (by decide) ?_
  cases h
  replace hF : _ = fin := hF
  subst hF
  exact r_iret C hw dX12_text_70
noncomputable def fX12_text (N : Nat) (x0 : Nat) (x1 : Int32) (x2 : Int32) (x3 : Int32) (x4 : Int32) (x5 : Int32) (z : Hp) : Option (Int32 × Hp) := bo (fX12_in N (Int32.toInt64 x1) (0 : Int64) (199 : Int64) z) fun r2 => br (r2 = 0) (fX12_text_68 N x0 z) (bo (fX12_in N (Int32.toInt64 x2) (10 : Int64) (300 : Int64) z) fun r5 => br (r5 = 0) (fX12_text_68 N x0 z) (bo (fX12_in N (Int32.toInt64 x3) (10 : Int64) (300 : Int64) z) fun r8 => br (r8 = 0) (fX12_text_68 N x0 z) (bo (fX12_in N (Int32.toInt64 x4) (10 : Int64) (300 : Int64) z) fun r11 => br (r11 = 0) (fX12_text_68 N x0 z) (bo (fX12_in N (Int32.toInt64 x5) (0 : Int64) (5 : Int64) z) fun r14 => br (r14 = 0) (fX12_text_68 N x0 z) (gd (x0 < zn z ∧ zK z x0 = 11) <| br ((zF z 739 x0) = (6 : Int32)) (some ((-4 : Int32), z)) (bo (zG z 733 x0) fun b19 => gd (b19 < zn z ∧ zK z b19 = 12) <| gd (¬ ((zF z 739 x0) < 0 ∨ zL z b19 ≤ Int32.toNatClampNeg (zF z 739 x0))) <| bd (zsA z b19 (Int32.toNatClampNeg (zF z 739 x0)) x1) fun z22 => bo (zG z22 734 x0) fun b26 => gd (b26 < zn z22 ∧ zK z22 b26 = 12) <| gd (¬ (((3 : Int32) * (zF z22 739 x0)) < 0 ∨ zL z22 b26 ≤ Int32.toNatClampNeg ((3 : Int32) * (zF z22 739 x0)))) <| bd (zsA z22 b26 (Int32.toNatClampNeg ((3 : Int32) * (zF z22 739 x0))) x2) fun z29 => bo (zG z29 734 x0) fun b33 => gd (b33 < zn z29 ∧ zK z29 b33 = 12) <| gd (¬ ((((3 : Int32) * (zF z29 739 x0)) + (1 : Int32)) < 0 ∨ zL z29 b33 ≤ Int32.toNatClampNeg (((3 : Int32) * (zF z29 739 x0)) + (1 : Int32)))) <| bd (zsA z29 b33 (Int32.toNatClampNeg (((3 : Int32) * (zF z29 739 x0)) + (1 : Int32))) x3) fun z36 => bo (zG z36 734 x0) fun b40 => gd (b40 < zn z36 ∧ zK z36 b40 = 12) <| gd (¬ ((((3 : Int32) * (zF z36 739 x0)) + (2 : Int32)) < 0 ∨ zL z36 b40 ≤ Int32.toNatClampNeg (((3 : Int32) * (zF z36 739 x0)) + (2 : Int32)))) <| bd (zsA z36 b40 (Int32.toNatClampNeg (((3 : Int32) * (zF z36 739 x0)) + (2 : Int32))) x4) fun z43 => bo (zG z43 735 x0) fun b47 => gd (b47 < zn z43 ∧ zK z43 b47 = 12) <| gd (¬ ((zF z43 739 x0) < 0 ∨ zL z43 b47 ≤ Int32.toNatClampNeg (zF z43 739 x0))) <| bd (zsA z43 b47 (Int32.toNatClampNeg (zF z43 739 x0)) x5) fun z50 => bd (zsF z50 739 x0 ((zF z50 739 x0) + (1 : Int32))) fun z53 => some (((zF z53 739 x0) - (1 : Int32)), z53)))))))
set_option maxHeartbeats 4000000 in
set_option maxRecDepth 100000 in
theorem tX12_text_0 {n0 : Nat} {D : va_G} {Y : Nat → ClassId} {p : Program} {l : Launch} {e : Env} {s : State} {m : MethodId} {args : Array Value} {below : List Frame} {meth : Method} {c : Code} {N : Nat} {fin : Int32 × Hp} {x0 : Nat} {x1 : Int32} {x2 : Int32} {x3 : Int32} {x4 : Int32} {x5 : Int32}  {z : Hp} (C : Cx n0 D Y RX12 cX12_text (some .int) 6 wsX12_text "text" p s m args meth c) {x : (Int32 × Hp)} (h : fX12_text N x0 x1 x2 x3 x4 x5  z = some x) (hF : (fun x => x = fin) x) {H : Heap} {locs : List Loc} {ls : Array Slot} (hw : Wd n0 D Y z s H locs) (hl : lv_has ls 6 [(0, .ref (n0 + x0)), (1, .int x1), (2, .int x2), (3, .int x3), (4, .int x4), (5, .int x5)]) : W p l e rmX12_text s m args below meth c H locs 0 0 (MQ below (PosI n0 D Y fin.2 fin.1) args s 0 0 (AA n0)) (F0 m 0 ls []) := by
  unfold fX12_text at h
  refine lv_iload_n C.1 C.2.1 dX12_text_0 rfl (lv_at hl 1 rfl) ?_
  refine lv_i2l C.1 C.2.1 dX12_text_1 rfl ?_
  refine lv_lconst (v := (0 : Int64)) C.1 C.2.1 dX12_text_2 (by decide) ?_
  refine lv_ldc2 (v := (199 : Int64)) C.1 C.2.1 C.2.2.2.2.1 (C.2.2.2.2.2.1 (.constantLong RX12 189 (199 : Int64)) (by decide +kernel)) dX12_text_3 ?_
  obtain ⟨r2, e1, h⟩ := boE h
  refine r_afti hw (r_runS (As := [.long (Int32.toInt64 x1), .long (0 : Int64), .long (199 : Int64)]) (rest := []) C hw (kX12_in l n0 D Y N (Int32.toInt64 x1) (0 : Int64) (199 : Int64) z e1) (va_cwS 3 C.2.2.2.2.2.1 gX12_text_X12_in rfl rfl rfl (by decide +kernel) ⟨(Nat.le_of_ble_eq_true rfl), (Nat.le_of_ble_eq_true rfl)⟩) rfl hl.1 rfl (Nat.le_of_ble_eq_true rfl) dX12_text_6 ⟨(Nat.le_of_ble_eq_true rfl), (Nat.le_of_ble_eq_true rfl)⟩) (fun H locs hw => ?_)
  refine lv_if_eq (tgt := 68) C.1 C.2.1 dX12_text_9 (by decide) (fun c3 => ?_) (fun c3 => ?_)
  · replace h := brT h c3
    exact tX12_text_68 C h hF hw (lv_sub hl [0] rfl)
  · replace h := brF h c3
    refine lv_iload_n C.1 C.2.1 dX12_text_12 rfl (lv_at hl 2 rfl) ?_
    refine lv_i2l C.1 C.2.1 dX12_text_13 rfl ?_
    refine lv_ldc2 (v := (10 : Int64)) C.1 C.2.1 C.2.2.2.2.1 (C.2.2.2.2.2.1 (.constantLong RX12 191 (10 : Int64)) (by decide +kernel)) dX12_text_14 ?_
    refine lv_ldc2 (v := (300 : Int64)) C.1 C.2.1 C.2.2.2.2.1 (C.2.2.2.2.2.1 (.constantLong RX12 193 (300 : Int64)) (by decide +kernel)) dX12_text_17 ?_
    obtain ⟨r5, e4, h⟩ := boE h
    refine r_afti hw (r_runS (As := [.long (Int32.toInt64 x2), .long (10 : Int64), .long (300 : Int64)]) (rest := []) C hw (kX12_in l n0 D Y N (Int32.toInt64 x2) (10 : Int64) (300 : Int64) z e4) (va_cwS 3 C.2.2.2.2.2.1 gX12_text_X12_in rfl rfl rfl (by decide +kernel) ⟨(Nat.le_of_ble_eq_true rfl), (Nat.le_of_ble_eq_true rfl)⟩) rfl hl.1 rfl (Nat.le_of_ble_eq_true rfl) dX12_text_20 ⟨(Nat.le_of_ble_eq_true rfl), (Nat.le_of_ble_eq_true rfl)⟩) (fun H locs hw => ?_)
    refine lv_if_eq (tgt := 68) C.1 C.2.1 dX12_text_23 (by decide) (fun c6 => ?_) (fun c6 => ?_)
    · replace h := brT h c6
      exact tX12_text_68 C h hF hw (lv_sub hl [0] rfl)
    · replace h := brF h c6
      refine lv_iload_n C.1 C.2.1 dX12_text_26 rfl (lv_at hl 3 rfl) ?_
      refine lv_i2l C.1 C.2.1 dX12_text_27 rfl ?_
      refine lv_ldc2 (v := (10 : Int64)) C.1 C.2.1 C.2.2.2.2.1 (C.2.2.2.2.2.1 (.constantLong RX12 191 (10 : Int64)) (by decide +kernel)) dX12_text_28 ?_
      refine lv_ldc2 (v := (300 : Int64)) C.1 C.2.1 C.2.2.2.2.1 (C.2.2.2.2.2.1 (.constantLong RX12 193 (300 : Int64)) (by decide +kernel)) dX12_text_31 ?_
      obtain ⟨r8, e7, h⟩ := boE h
      refine r_afti hw (r_runS (As := [.long (Int32.toInt64 x3), .long (10 : Int64), .long (300 : Int64)]) (rest := []) C hw (kX12_in l n0 D Y N (Int32.toInt64 x3) (10 : Int64) (300 : Int64) z e7) (va_cwS 3 C.2.2.2.2.2.1 gX12_text_X12_in rfl rfl rfl (by decide +kernel) ⟨(Nat.le_of_ble_eq_true rfl), (Nat.le_of_ble_eq_true rfl)⟩) rfl hl.1 rfl (Nat.le_of_ble_eq_true rfl) dX12_text_34 ⟨(Nat.le_of_ble_eq_true rfl), (Nat.le_of_ble_eq_true rfl)⟩) (fun H locs hw => ?_)
      refine lv_if_eq (tgt := 68) C.1 C.2.1 dX12_text_37 (by decide) (fun c9 => ?_) (fun c9 => ?_)
      · replace h := brT h c9
        exact tX12_text_68 C h hF hw (lv_sub hl [0] rfl)
      · replace h := brF h c9
        refine lv_iload C.1 C.2.1 dX12_text_40 (lv_at hl 4 rfl) ?_
        refine lv_i2l C.1 C.2.1 dX12_text_42 rfl ?_
        refine lv_ldc2 (v := (10 : Int64)) C.1 C.2.1 C.2.2.2.2.1 (C.2.2.2.2.2.1 (.constantLong RX12 191 (10 : Int64)) (by decide +kernel)) dX12_text_43 ?_
        refine lv_ldc2 (v := (300 : Int64)) C.1 C.2.1 C.2.2.2.2.1 (C.2.2.2.2.2.1 (.constantLong RX12 193 (300 : Int64)) (by decide +kernel)) dX12_text_46 ?_
        obtain ⟨r11, e10, h⟩ := boE h
        refine r_afti hw (r_runS (As := [.long (Int32.toInt64 x4), .long (10 : Int64), .long (300 : Int64)]) (rest := []) C hw (kX12_in l n0 D Y N (Int32.toInt64 x4) (10 : Int64) (300 : Int64) z e10) (va_cwS 3 C.2.2.2.2.2.1 gX12_text_X12_in rfl rfl rfl (by decide +kernel) ⟨(Nat.le_of_ble_eq_true rfl), (Nat.le_of_ble_eq_true rfl)⟩) rfl hl.1 rfl (Nat.le_of_ble_eq_true rfl) dX12_text_49 ⟨(Nat.le_of_ble_eq_true rfl), (Nat.le_of_ble_eq_true rfl)⟩) (fun H locs hw => ?_)
        refine lv_if_eq (tgt := 68) C.1 C.2.1 dX12_text_52 (by decide) (fun c12 => ?_) (fun c12 => ?_)
        · replace h := brT h c12
          exact tX12_text_68 C h hF hw (lv_sub hl [0] rfl)
        · replace h := brF h c12
          refine lv_iload C.1 C.2.1 dX12_text_55 (lv_at hl 5 rfl) ?_
          refine lv_i2l C.1 C.2.1 dX12_text_57 rfl ?_
          refine lv_lconst (v := (0 : Int64)) C.1 C.2.1 dX12_text_58 (by decide) ?_
          refine lv_ldc2 (v := (5 : Int64)) C.1 C.2.1 C.2.2.2.2.1 (C.2.2.2.2.2.1 (.constantLong RX12 195 (5 : Int64)) (by decide +kernel)) dX12_text_59 ?_
          obtain ⟨r14, e13, h⟩ := boE h
          refine r_afti hw (r_runS (As := [.long (Int32.toInt64 x5), .long (0 : Int64), .long (5 : Int64)]) (rest := []) C hw (kX12_in l n0 D Y N (Int32.toInt64 x5) (0 : Int64) (5 : Int64) z e13) (va_cwS 3 C.2.2.2.2.2.1 gX12_text_X12_in rfl rfl rfl (by decide +kernel) ⟨(Nat.le_of_ble_eq_true rfl), (Nat.le_of_ble_eq_true rfl)⟩) rfl hl.1 rfl (Nat.le_of_ble_eq_true rfl) dX12_text_62 ⟨(Nat.le_of_ble_eq_true rfl), (Nat.le_of_ble_eq_true rfl)⟩) (fun H locs hw => ?_)
          refine lv_if_ne (tgt := 71) C.1 C.2.1 dX12_text_65 (by decide) (fun c15 => ?_) (fun c15 => ?_)
          · replace h := brF h c15
            refine lv_aload_n C.1 C.2.1 dX12_text_71 rfl (lv_at hl 0 rfl) ?_
            obtain ⟨g16, h⟩ := gdE h
            refine r_get (v := .int (zF z 739 x0)) C hw g16 (by decide) (Cn := RX12) (T := TX12) (N := 50) rfl in_X12_text_X12 35 (by decide) (by decide +kernel) (fun _ h => h) rfl dX12_text_72 ?_
            refine lv_bipush (v := (6 : Int32)) C.1 C.2.1 dX12_text_75 (by decide) ?_
            refine lv_icmp_ne (tgt := 83) C.1 C.2.1 dX12_text_77 (by decide) (fun c17 => ?_) (fun c17 => ?_)
            · replace h := brF h c17
              refine lv_aload_n C.1 C.2.1 dX12_text_83 rfl (lv_at hl 0 rfl) ?_
              refine r_get (v := rv n0 (zG z 733 x0)) C hw g16 (by decide) (Cn := RX12) (T := TX12) (N := 50) rfl in_X12_text_X12 29 (by decide) (by decide +kernel) (fun _ h => h) rfl dX12_text_84 ?_
              obtain ⟨b19, e18, h⟩ := boE h
              refine r_topr e18 ?_
              refine lv_aload_n C.1 C.2.1 dX12_text_87 rfl (lv_at hl 0 rfl) ?_
              refine r_get (v := .int (zF z 739 x0)) C hw g16 (by decide) (Cn := RX12) (T := TX12) (N := 50) rfl in_X12_text_X12 35 (by decide) (by decide +kernel) (fun _ h => h) rfl dX12_text_88 ?_
              refine lv_iload_n C.1 C.2.1 dX12_text_91 rfl (lv_at hl 1 rfl) ?_
              obtain ⟨g20, h⟩ := gdE h
              obtain ⟨i21, h⟩ := gdE h
              obtain ⟨z22, e23, h⟩ := bdE h
              refine r_iast C hw g20 i21 e23 dX12_text_92 (fun H locs hw => ?_)
              refine lv_aload_n C.1 C.2.1 dX12_text_93 rfl (lv_at hl 0 rfl) ?_
              have g24 : x0 < zn z22 ∧ zK z22 x0 = 11 := by rw [e23]; exact g16
              refine r_get (v := rv n0 (zG z22 734 x0)) C hw g24 (by decide) (Cn := RX12) (T := TX12) (N := 50) rfl in_X12_text_X12 30 (by decide) (by decide +kernel) (fun _ h => h) rfl dX12_text_94 ?_
              obtain ⟨b26, e25, h⟩ := boE h
              refine r_topr e25 ?_
              refine lv_iconst (v := (3 : Int32)) C.1 C.2.1 dX12_text_97 (by decide) ?_
              refine lv_aload_n C.1 C.2.1 dX12_text_98 rfl (lv_at hl 0 rfl) ?_
              refine r_get (v := .int (zF z22 739 x0)) C hw g24 (by decide) (Cn := RX12) (T := TX12) (N := 50) rfl in_X12_text_X12 35 (by decide) (by decide +kernel) (fun _ h => h) rfl dX12_text_99 ?_
              refine lv_imul C.1 C.2.1 dX12_text_102 ?_
              refine lv_iload_n C.1 C.2.1 dX12_text_103 rfl (lv_at hl 2 rfl) ?_
              obtain ⟨g27, h⟩ := gdE h
              obtain ⟨i28, h⟩ := gdE h
              obtain ⟨z29, e30, h⟩ := bdE h
              refine r_iast C hw g27 i28 e30 dX12_text_104 (fun H locs hw => ?_)
              refine lv_aload_n C.1 C.2.1 dX12_text_105 rfl (lv_at hl 0 rfl) ?_
              have g31 : x0 < zn z29 ∧ zK z29 x0 = 11 := by rw [e30]; exact g24
              refine r_get (v := rv n0 (zG z29 734 x0)) C hw g31 (by decide) (Cn := RX12) (T := TX12) (N := 50) rfl in_X12_text_X12 30 (by decide) (by decide +kernel) (fun _ h => h) rfl dX12_text_106 ?_
              obtain ⟨b33, e32, h⟩ := boE h
              refine r_topr e32 ?_
              refine lv_iconst (v := (3 : Int32)) C.1 C.2.1 dX12_text_109 (by decide) ?_
              refine lv_aload_n C.1 C.2.1 dX12_text_110 rfl (lv_at hl 0 rfl) ?_
              refine r_get (v := .int (zF z29 739 x0)) C hw g31 (by decide) (Cn := RX12) (T := TX12) (N := 50) rfl in_X12_text_X12 35 (by decide) (by decide +kernel) (fun _ h => h) rfl dX12_text_111 ?_
              refine lv_imul C.1 C.2.1 dX12_text_114 ?_
              refine lv_iconst (v := (1 : Int32)) C.1 C.2.1 dX12_text_115 (by decide) ?_
              refine lv_iadd C.1 C.2.1 dX12_text_116 ?_
              refine lv_iload_n C.1 C.2.1 dX12_text_117 rfl (lv_at hl 3 rfl) ?_
              obtain ⟨g34, h⟩ := gdE h
              obtain ⟨i35, h⟩ := gdE h
              obtain ⟨z36, e37, h⟩ := bdE h
              refine r_iast C hw g34 i35 e37 dX12_text_118 (fun H locs hw => ?_)
              refine lv_aload_n C.1 C.2.1 dX12_text_119 rfl (lv_at hl 0 rfl) ?_
              have g38 : x0 < zn z36 ∧ zK z36 x0 = 11 := by rw [e37]; exact g31
              refine r_get (v := rv n0 (zG z36 734 x0)) C hw g38 (by decide) (Cn := RX12) (T := TX12) (N := 50) rfl in_X12_text_X12 30 (by decide) (by decide +kernel) (fun _ h => h) rfl dX12_text_120 ?_
              obtain ⟨b40, e39, h⟩ := boE h
              refine r_topr e39 ?_
              refine lv_iconst (v := (3 : Int32)) C.1 C.2.1 dX12_text_123 (by decide) ?_
              refine lv_aload_n C.1 C.2.1 dX12_text_124 rfl (lv_at hl 0 rfl) ?_
              refine r_get (v := .int (zF z36 739 x0)) C hw g38 (by decide) (Cn := RX12) (T := TX12) (N := 50) rfl in_X12_text_X12 35 (by decide) (by decide +kernel) (fun _ h => h) rfl dX12_text_125 ?_
              refine lv_imul C.1 C.2.1 dX12_text_128 ?_
              refine lv_iconst (v := (2 : Int32)) C.1 C.2.1 dX12_text_129 (by decide) ?_
              refine lv_iadd C.1 C.2.1 dX12_text_130 ?_
              refine lv_iload C.1 C.2.1 dX12_text_131 (lv_at hl 4 rfl) ?_
              obtain ⟨g41, h⟩ := gdE h
              obtain ⟨i42, h⟩ := gdE h
              obtain ⟨z43, e44, h⟩ := bdE h
              refine r_iast C hw g41 i42 e44 dX12_text_133 (fun H locs hw => ?_)
              refine lv_aload_n C.1 C.2.1 dX12_text_134 rfl (lv_at hl 0 rfl) ?_
              have g45 : x0 < zn z43 ∧ zK z43 x0 = 11 := by rw [e44]; exact g38
              refine r_get (v := rv n0 (zG z43 735 x0)) C hw g45 (by decide) (Cn := RX12) (T := TX12) (N := 50) rfl in_X12_text_X12 31 (by decide) (by decide +kernel) (fun _ h => h) rfl dX12_text_135 ?_
              obtain ⟨b47, e46, h⟩ := boE h
              refine r_topr e46 ?_
              refine lv_aload_n C.1 C.2.1 dX12_text_138 rfl (lv_at hl 0 rfl) ?_
              refine r_get (v := .int (zF z43 739 x0)) C hw g45 (by decide) (Cn := RX12) (T := TX12) (N := 50) rfl in_X12_text_X12 35 (by decide) (by decide +kernel) (fun _ h => h) rfl dX12_text_139 ?_
              refine lv_iload C.1 C.2.1 dX12_text_142 (lv_at hl 5 rfl) ?_
              obtain ⟨g48, h⟩ := gdE h
              obtain ⟨i49, h⟩ := gdE h
              obtain ⟨z50, e51, h⟩ := bdE h
              refine r_iast C hw g48 i49 e51 dX12_text_144 (fun H locs hw => ?_)
              refine lv_aload_n C.1 C.2.1 dX12_text_145 rfl (lv_at hl 0 rfl) ?_
              refine lv_dup C.1 C.2.1 dX12_text_146 rfl ?_
              have g52 : x0 < zn z50 ∧ zK z50 x0 = 11 := by rw [e51]; exact g45
              refine r_get (v := .int (zF z50 739 x0)) C hw g52 (by decide) (Cn := RX12) (T := TX12) (N := 50) rfl in_X12_text_X12 35 (by decide) (by decide +kernel) (fun _ h => h) rfl dX12_text_147 ?_
              refine lv_iconst (v := (1 : Int32)) C.1 C.2.1 dX12_text_150 (by decide) ?_
              refine lv_iadd C.1 C.2.1 dX12_text_151 ?_
              obtain ⟨z53, e54, h⟩ := bdE h
              refine r_putI C hw g52 (by decide) (Cn := RX12) (T := TX12) (N := 50) rfl in_X12_text_X12 tyX12 tyX12_ok nmX12 35 (by decide) (by decide +kernel) (fun _ h => h) (Or.inl rfl) (ty := .int) (by decide +kernel) rfl rfl (Nat.le_of_ble_eq_true rfl) (st_11_35 n0 z50 x0 ((zF z50 739 x0) + (1 : Int32))) e54 dX12_text_152 (fun H locs hw => ?_)
              refine lv_aload_n C.1 C.2.1 dX12_text_155 rfl (lv_at hl 0 rfl) ?_
              have g55 : x0 < zn z53 ∧ zK z53 x0 = 11 := by rw [e54]; exact g52
              refine r_get (v := .int (zF z53 739 x0)) C hw g55 (by decide) (Cn := RX12) (T := TX12) (N := 50) rfl in_X12_text_X12 35 (by decide) (by decide +kernel) (fun _ h => h) rfl dX12_text_156 ?_
              refine lv_iconst (v := (1 : Int32)) C.1 C.2.1 dX12_text_159 (by decide) ?_
              refine lv_isub C.1 C.2.1 dX12_text_160 ?_
              cases h
              replace hF : _ = fin := hF
              subst hF
              exact r_iret C hw dX12_text_161
            · replace h := brT h c17
              refine lv_bipush (v := (-4 : Int32)) C.1 C.2.1 dX12_text_80 (by decide) ?_
              cases h
              replace hF : _ = fin := hF
              subst hF
              exact r_iret C hw dX12_text_82
          · replace h := brT h c15
            exact tX12_text_68 C h hF hw (lv_sub hl [0] rfl)
set_option maxRecDepth 100000 in
theorem kX12_text (l : Launch) (n0 : Nat) (D : va_G) (Y : Nat → ClassId) (N : Nat) (x0 : Nat) (x1 : Int32) (x2 : Int32) (x3 : Int32) (x4 : Int32) (x5 : Int32) (z : Hp) {r : Int32} {z1 : Hp} (h : fX12_text N x0 x1 x2 x3 x4 x5 z = some (r, z1)) : Met l yX12_text wsX12_text rmX12_text (PreC n0 D Y z [.ref (n0 + x0), .int x1, .int x2, .int x3, .int x4, .int x5]) (PosI n0 D Y z1 r) 0 0 (AA n0) := by
  refine Met.ofW (cc := cX12_text) (maxL := 6) (ret := (some .int)) (by decide) rfl ?_
  intro p e s m args below meth c s₁ B hml hv
  obtain ⟨rfl, hR, hK⟩ := hv
  have C : Cx n0 D Y RX12 cX12_text (some .int) 6 wsX12_text "text" p s m ([.ref (n0 + x0), .int x1, .int x2, .int x3, .int x4, .int x5] : List Value).toArray meth c := ⟨B.exec, B.bytes, B.returns, hml, findClass_of_methodNamed B.named, atoms_spec (ws := wsX12_text) B.pre, B.notSynchronized, (name_of_methodNamed B.named B.method).1, hK⟩
  have hl := lv_entry ([.ref (n0 + x0), .int x1, .int x2, .int x3, .int x4, .int x5]) (n := 6) (Nat.le_of_ble_eq_true rfl)
  rw [lg_entry_eq]
  generalize (lg_sl ([.ref (n0 + x0), .int x1, .int x2, .int x3, .int x4, .int x5]) ++ List.replicate (6 - (lg_sl ([.ref (n0 + x0), .int x1, .int x2, .int x3, .int x4, .int x5])).length) Slot.unset).toArray = ls at hl ⊢
  have hl : lv_has ls 6 [(0, .ref (n0 + x0)), (1, .int x1), (2, .int x2), (3, .int x3), (4, .int x4), (5, .int x5)] := hl
  exact tX12_text_0 C h rfl ⟨hR, va_S.rf⟩ hl
theorem in_X12_step_X12 : ∀ w ∈ wsX120, w ∈ wsX12_step := by decide +kernel
abbrev rmX12_step : Room := { frames := 1, cells := 0, slots := 0, locals := 25 }
noncomputable def fX12_step_42 (N : Nat) (x0 : Nat) (z : Hp) : Option (Int32 × Hp) := some ((-2 : Int32), z)
set_option maxHeartbeats 4000000 in
set_option maxRecDepth 100000 in
theorem tX12_step_42 {n0 : Nat} {D : va_G} {Y : Nat → ClassId} {p : Program} {l : Launch} {e : Env} {s : State} {m : MethodId} {args : Array Value} {below : List Frame} {meth : Method} {c : Code} {N : Nat} {fin : Int32 × Hp} {x0 : Nat}  {z : Hp} (C : Cx n0 D Y RX12 cX12_step (some .int) 4 wsX12_step "step" p s m args meth c) {x : (Int32 × Hp)} (h : fX12_step_42 N x0  z = some x) (hF : (fun x => x = fin) x) {H : Heap} {locs : List Loc} {ls : Array Slot} (hw : Wd n0 D Y z s H locs) (hl : lv_has ls 4 [(0, .ref (n0 + x0))]) : W p l e rmX12_step s m args below meth c H locs 0 0 (MQ below (PosI n0 D Y fin.2 fin.1) args s 0 0 (AA n0)) (F0 m 42 ls []) := by
  unfold fX12_step_42 at h
  refine lv_bipush (v := (-2 : Int32)) C.1 C.2.1 dX12_step_42 (by decide) ?_
  cases h
  replace hF : _ = fin := hF
  subst hF
  exact r_iret C hw dX12_step_44
noncomputable def fX12_step (N : Nat) (x0 : Nat) (x1 : Int32) (x2 : Int32) (x3 : Int32) (z : Hp) : Option (Int32 × Hp) := gd (x0 < zn z ∧ zK z x0 = 11) <| bo (fX12_in N (Int32.toInt64 x1) (0 : Int64) (Int32.toInt64 ((zF z 739 x0) - (1 : Int32))) z) fun r3 => br (r3 = 0) (some ((-1 : Int32), z)) (bo (fX12_in N (Int32.toInt64 x2) (0 : Int64) (1000 : Int64) z) fun r6 => br (r6 = 0) (fX12_step_42 N x0 z) (bo (fX12_in N (Int32.toInt64 x3) (1 : Int64) (1000 : Int64) z) fun r9 => br (r9 = 0) (fX12_step_42 N x0 z) (bo (zG z 738 x0) fun b12 => gd (b12 < zn z ∧ zK z b12 = 12) <| gd (¬ (x1 < 0 ∨ zL z b12 ≤ (x1).toNatClampNeg)) <| br ((zA z b12 (x1).toNatClampNeg) = (8 : Int32)) (some ((-4 : Int32), z)) (bo (zG z 736 x0) fun b17 => bo (zG z 738 x0) fun b19 => gd (b19 < zn z ∧ zK z b19 = 12) <| gd (¬ (x1 < 0 ∨ zL z b19 ≤ (x1).toNatClampNeg)) <| gd (b17 < zn z ∧ zK z b17 = 12) <| gd (¬ ((((8 : Int32) * x1) + (zA z b19 (x1).toNatClampNeg)) < 0 ∨ zL z b17 ≤ Int32.toNatClampNeg (((8 : Int32) * x1) + (zA z b19 (x1).toNatClampNeg)))) <| bd (zsA z b17 (Int32.toNatClampNeg (((8 : Int32) * x1) + (zA z b19 (x1).toNatClampNeg))) x2) fun z24 => bo (zG z24 737 x0) fun b28 => bo (zG z24 738 x0) fun b30 => gd (b30 < zn z24 ∧ zK z24 b30 = 12) <| gd (¬ (x1 < 0 ∨ zL z24 b30 ≤ (x1).toNatClampNeg)) <| gd (b28 < zn z24 ∧ zK z24 b28 = 12) <| gd (¬ ((((8 : Int32) * x1) + (zA z24 b30 (x1).toNatClampNeg)) < 0 ∨ zL z24 b28 ≤ Int32.toNatClampNeg (((8 : Int32) * x1) + (zA z24 b30 (x1).toNatClampNeg)))) <| bd (zsA z24 b28 (Int32.toNatClampNeg (((8 : Int32) * x1) + (zA z24 b30 (x1).toNatClampNeg))) x3) fun z35 => bo (zG z35 738 x0) fun b39 => gd (b39 < zn z35 ∧ zK z35 b39 = 12) <| gd (¬ (x1 < 0 ∨ zL z35 b39 ≤ (x1).toNatClampNeg)) <| gd (¬ (x1 < 0 ∨ zL z35 b39 ≤ Int32.toNatClampNeg x1)) <| bd (zsA z35 b39 (Int32.toNatClampNeg x1) ((zA z35 b39 (x1).toNatClampNeg) + (1 : Int32))) fun z43 => bo (zG z43 738 x0) fun b47 => gd (b47 < zn z43 ∧ zK z43 b47 = 12) <| gd (¬ (x1 < 0 ∨ zL z43 b47 ≤ (x1).toNatClampNeg)) <| some ((zA z43 b47 (x1).toNatClampNeg), z43)))))
set_option maxHeartbeats 4000000 in
set_option maxRecDepth 100000 in
theorem tX12_step_0 {n0 : Nat} {D : va_G} {Y : Nat → ClassId} {p : Program} {l : Launch} {e : Env} {s : State} {m : MethodId} {args : Array Value} {below : List Frame} {meth : Method} {c : Code} {N : Nat} {fin : Int32 × Hp} {x0 : Nat} {x1 : Int32} {x2 : Int32} {x3 : Int32}  {z : Hp} (C : Cx n0 D Y RX12 cX12_step (some .int) 4 wsX12_step "step" p s m args meth c) {x : (Int32 × Hp)} (h : fX12_step N x0 x1 x2 x3  z = some x) (hF : (fun x => x = fin) x) {H : Heap} {locs : List Loc} {ls : Array Slot} (hw : Wd n0 D Y z s H locs) (hl : lv_has ls 4 [(0, .ref (n0 + x0)), (1, .int x1), (2, .int x2), (3, .int x3)]) : W p l e rmX12_step s m args below meth c H locs 0 0 (MQ below (PosI n0 D Y fin.2 fin.1) args s 0 0 (AA n0)) (F0 m 0 ls []) := by
  unfold fX12_step at h
  refine lv_iload_n C.1 C.2.1 dX12_step_0 rfl (lv_at hl 1 rfl) ?_
  refine lv_i2l C.1 C.2.1 dX12_step_1 rfl ?_
  refine lv_lconst (v := (0 : Int64)) C.1 C.2.1 dX12_step_2 (by decide) ?_
  refine lv_aload_n C.1 C.2.1 dX12_step_3 rfl (lv_at hl 0 rfl) ?_
  obtain ⟨g1, h⟩ := gdE h
  refine r_get (v := .int (zF z 739 x0)) C hw g1 (by decide) (Cn := RX12) (T := TX12) (N := 50) rfl in_X12_step_X12 35 (by decide) (by decide +kernel) (fun _ h => h) rfl dX12_step_4 ?_
  refine lv_iconst (v := (1 : Int32)) C.1 C.2.1 dX12_step_7 (by decide) ?_
  refine lv_isub C.1 C.2.1 dX12_step_8 ?_
  refine lv_i2l C.1 C.2.1 dX12_step_9 rfl ?_
  obtain ⟨r3, e2, h⟩ := boE h
  refine r_afti hw (r_runS (As := [.long (Int32.toInt64 x1), .long (0 : Int64), .long (Int32.toInt64 ((zF z 739 x0) - (1 : Int32)))]) (rest := []) C hw (kX12_in l n0 D Y N (Int32.toInt64 x1) (0 : Int64) (Int32.toInt64 ((zF z 739 x0) - (1 : Int32))) z e2) (va_cwS 3 C.2.2.2.2.2.1 gX12_step_X12_in rfl rfl rfl (by decide +kernel) ⟨(Nat.le_of_ble_eq_true rfl), (Nat.le_of_ble_eq_true rfl)⟩) rfl hl.1 rfl (Nat.le_of_ble_eq_true rfl) dX12_step_10 ⟨(Nat.le_of_ble_eq_true rfl), (Nat.le_of_ble_eq_true rfl)⟩) (fun H locs hw => ?_)
  refine lv_if_ne (tgt := 18) C.1 C.2.1 dX12_step_13 (by decide) (fun c4 => ?_) (fun c4 => ?_)
  · replace h := brF h c4
    refine lv_iload_n C.1 C.2.1 dX12_step_18 rfl (lv_at hl 2 rfl) ?_
    refine lv_i2l C.1 C.2.1 dX12_step_19 rfl ?_
    refine lv_lconst (v := (0 : Int64)) C.1 C.2.1 dX12_step_20 (by decide) ?_
    refine lv_ldc2 (v := (1000 : Int64)) C.1 C.2.1 C.2.2.2.2.1 (C.2.2.2.2.2.1 (.constantLong RX12 165 (1000 : Int64)) (by decide +kernel)) dX12_step_21 ?_
    obtain ⟨r6, e5, h⟩ := boE h
    refine r_afti hw (r_runS (As := [.long (Int32.toInt64 x2), .long (0 : Int64), .long (1000 : Int64)]) (rest := []) C hw (kX12_in l n0 D Y N (Int32.toInt64 x2) (0 : Int64) (1000 : Int64) z e5) (va_cwS 3 C.2.2.2.2.2.1 gX12_step_X12_in rfl rfl rfl (by decide +kernel) ⟨(Nat.le_of_ble_eq_true rfl), (Nat.le_of_ble_eq_true rfl)⟩) rfl hl.1 rfl (Nat.le_of_ble_eq_true rfl) dX12_step_24 ⟨(Nat.le_of_ble_eq_true rfl), (Nat.le_of_ble_eq_true rfl)⟩) (fun H locs hw => ?_)
    refine lv_if_eq (tgt := 42) C.1 C.2.1 dX12_step_27 (by decide) (fun c7 => ?_) (fun c7 => ?_)
    · replace h := brT h c7
      exact tX12_step_42 C h hF hw (lv_sub hl [0] rfl)
    · replace h := brF h c7
      refine lv_iload_n C.1 C.2.1 dX12_step_30 rfl (lv_at hl 3 rfl) ?_
      refine lv_i2l C.1 C.2.1 dX12_step_31 rfl ?_
      refine lv_lconst (v := (1 : Int64)) C.1 C.2.1 dX12_step_32 (by decide) ?_
      refine lv_ldc2 (v := (1000 : Int64)) C.1 C.2.1 C.2.2.2.2.1 (C.2.2.2.2.2.1 (.constantLong RX12 165 (1000 : Int64)) (by decide +kernel)) dX12_step_33 ?_
      obtain ⟨r9, e8, h⟩ := boE h
      refine r_afti hw (r_runS (As := [.long (Int32.toInt64 x3), .long (1 : Int64), .long (1000 : Int64)]) (rest := []) C hw (kX12_in l n0 D Y N (Int32.toInt64 x3) (1 : Int64) (1000 : Int64) z e8) (va_cwS 3 C.2.2.2.2.2.1 gX12_step_X12_in rfl rfl rfl (by decide +kernel) ⟨(Nat.le_of_ble_eq_true rfl), (Nat.le_of_ble_eq_true rfl)⟩) rfl hl.1 rfl (Nat.le_of_ble_eq_true rfl) dX12_step_36 ⟨(Nat.le_of_ble_eq_true rfl), (Nat.le_of_ble_eq_true rfl)⟩) (fun H locs hw => ?_)
      refine lv_if_ne (tgt := 45) C.1 C.2.1 dX12_step_39 (by decide) (fun c10 => ?_) (fun c10 => ?_)
      · replace h := brF h c10
        refine lv_aload_n C.1 C.2.1 dX12_step_45 rfl (lv_at hl 0 rfl) ?_
        refine r_get (v := rv n0 (zG z 738 x0)) C hw g1 (by decide) (Cn := RX12) (T := TX12) (N := 50) rfl in_X12_step_X12 34 (by decide) (by decide +kernel) (fun _ h => h) rfl dX12_step_46 ?_
        obtain ⟨b12, e11, h⟩ := boE h
        refine r_topr e11 ?_
        refine lv_iload_n C.1 C.2.1 dX12_step_49 rfl (lv_at hl 1 rfl) ?_
        obtain ⟨g13, h⟩ := gdE h
        obtain ⟨i14, h⟩ := gdE h
        refine r_iald C hw g13 i14 dX12_step_50 ?_
        refine lv_bipush (v := (8 : Int32)) C.1 C.2.1 dX12_step_51 (by decide) ?_
        refine lv_icmp_ne (tgt := 59) C.1 C.2.1 dX12_step_53 (by decide) (fun c15 => ?_) (fun c15 => ?_)
        · replace h := brF h c15
          refine lv_aload_n C.1 C.2.1 dX12_step_59 rfl (lv_at hl 0 rfl) ?_
          refine r_get (v := rv n0 (zG z 736 x0)) C hw g1 (by decide) (Cn := RX12) (T := TX12) (N := 50) rfl in_X12_step_X12 32 (by decide) (by decide +kernel) (fun _ h => h) rfl dX12_step_60 ?_
          obtain ⟨b17, e16, h⟩ := boE h
          refine r_topr e16 ?_
          refine lv_bipush (v := (8 : Int32)) C.1 C.2.1 dX12_step_63 (by decide) ?_
          refine lv_iload_n C.1 C.2.1 dX12_step_65 rfl (lv_at hl 1 rfl) ?_
          refine lv_imul C.1 C.2.1 dX12_step_66 ?_
          refine lv_aload_n C.1 C.2.1 dX12_step_67 rfl (lv_at hl 0 rfl) ?_
          refine r_get (v := rv n0 (zG z 738 x0)) C hw g1 (by decide) (Cn := RX12) (T := TX12) (N := 50) rfl in_X12_step_X12 34 (by decide) (by decide +kernel) (fun _ h => h) rfl dX12_step_68 ?_
          obtain ⟨b19, e18, h⟩ := boE h
          refine r_topr e18 ?_
          refine lv_iload_n C.1 C.2.1 dX12_step_71 rfl (lv_at hl 1 rfl) ?_
          obtain ⟨g20, h⟩ := gdE h
          obtain ⟨i21, h⟩ := gdE h
          refine r_iald C hw g20 i21 dX12_step_72 ?_
          refine lv_iadd C.1 C.2.1 dX12_step_73 ?_
          refine lv_iload_n C.1 C.2.1 dX12_step_74 rfl (lv_at hl 2 rfl) ?_
          obtain ⟨g22, h⟩ := gdE h
          obtain ⟨i23, h⟩ := gdE h
          obtain ⟨z24, e25, h⟩ := bdE h
          refine r_iast C hw g22 i23 e25 dX12_step_75 (fun H locs hw => ?_)
          refine lv_aload_n C.1 C.2.1 dX12_step_76 rfl (lv_at hl 0 rfl) ?_
          have g26 : x0 < zn z24 ∧ zK z24 x0 = 11 := by rw [e25]; exact g1
          refine r_get (v := rv n0 (zG z24 737 x0)) C hw g26 (by decide) (Cn := RX12) (T := TX12) (N := 50) rfl in_X12_step_X12 33 (by decide) (by decide +kernel) (fun _ h => h) rfl dX12_step_77 ?_
          obtain ⟨b28, e27, h⟩ := boE h
          refine r_topr e27 ?_
          refine lv_bipush (v := (8 : Int32)) C.1 C.2.1 dX12_step_80 (by decide) ?_
          refine lv_iload_n C.1 C.2.1 dX12_step_82 rfl (lv_at hl 1 rfl) ?_
          refine lv_imul C.1 C.2.1 dX12_step_83 ?_
          refine lv_aload_n C.1 C.2.1 dX12_step_84 rfl (lv_at hl 0 rfl) ?_
          refine r_get (v := rv n0 (zG z24 738 x0)) C hw g26 (by decide) (Cn := RX12) (T := TX12) (N := 50) rfl in_X12_step_X12 34 (by decide) (by decide +kernel) (fun _ h => h) rfl dX12_step_85 ?_
          obtain ⟨b30, e29, h⟩ := boE h
          refine r_topr e29 ?_
          refine lv_iload_n C.1 C.2.1 dX12_step_88 rfl (lv_at hl 1 rfl) ?_
          obtain ⟨g31, h⟩ := gdE h
          obtain ⟨i32, h⟩ := gdE h
          refine r_iald C hw g31 i32 dX12_step_89 ?_
          refine lv_iadd C.1 C.2.1 dX12_step_90 ?_
          refine lv_iload_n C.1 C.2.1 dX12_step_91 rfl (lv_at hl 3 rfl) ?_
          obtain ⟨g33, h⟩ := gdE h
          obtain ⟨i34, h⟩ := gdE h
          obtain ⟨z35, e36, h⟩ := bdE h
          refine r_iast C hw g33 i34 e36 dX12_step_92 (fun H locs hw => ?_)
          refine lv_aload_n C.1 C.2.1 dX12_step_93 rfl (lv_at hl 0 rfl) ?_
          have g37 : x0 < zn z35 ∧ zK z35 x0 = 11 := by rw [e36]; exact g26
          refine r_get (v := rv n0 (zG z35 738 x0)) C hw g37 (by decide) (Cn := RX12) (T := TX12) (N := 50) rfl in_X12_step_X12 34 (by decide) (by decide +kernel) (fun _ h => h) rfl dX12_step_94 ?_
          obtain ⟨b39, e38, h⟩ := boE h
          refine r_topr e38 ?_
          refine lv_iload_n C.1 C.2.1 dX12_step_97 rfl (lv_at hl 1 rfl) ?_
          refine lv_dup2_11 C.1 C.2.1 dX12_step_98 rfl rfl ?_
          obtain ⟨g40, h⟩ := gdE h
          obtain ⟨i41, h⟩ := gdE h
          refine r_iald C hw g40 i41 dX12_step_99 ?_
          refine lv_iconst (v := (1 : Int32)) C.1 C.2.1 dX12_step_100 (by decide) ?_
          refine lv_iadd C.1 C.2.1 dX12_step_101 ?_
          obtain ⟨i42, h⟩ := gdE h
          obtain ⟨z43, e44, h⟩ := bdE h
          refine r_iast C hw g40 i42 e44 dX12_step_102 (fun H locs hw => ?_)
          refine lv_aload_n C.1 C.2.1 dX12_step_103 rfl (lv_at hl 0 rfl) ?_
          have g45 : x0 < zn z43 ∧ zK z43 x0 = 11 := by rw [e44]; exact g37
          refine r_get (v := rv n0 (zG z43 738 x0)) C hw g45 (by decide) (Cn := RX12) (T := TX12) (N := 50) rfl in_X12_step_X12 34 (by decide) (by decide +kernel) (fun _ h => h) rfl dX12_step_104 ?_
          obtain ⟨b47, e46, h⟩ := boE h
          refine r_topr e46 ?_
          refine lv_iload_n C.1 C.2.1 dX12_step_107 rfl (lv_at hl 1 rfl) ?_
          obtain ⟨g48, h⟩ := gdE h
          obtain ⟨i49, h⟩ := gdE h
          refine r_iald C hw g48 i49 dX12_step_108 ?_
          cases h
          replace hF : _ = fin := hF
          subst hF
          exact r_iret C hw dX12_step_109
        · replace h := brT h c15
          refine lv_bipush (v := (-4 : Int32)) C.1 C.2.1 dX12_step_56 (by decide) ?_
          cases h
          replace hF : _ = fin := hF
          subst hF
          exact r_iret C hw dX12_step_58
      · replace h := brT h c10
        exact tX12_step_42 C h hF hw (lv_sub hl [0] rfl)
  · replace h := brT h c4
    refine lv_iconst (v := (-1 : Int32)) C.1 C.2.1 dX12_step_16 (by decide) ?_
    cases h
    replace hF : _ = fin := hF
    subst hF
    exact r_iret C hw dX12_step_17
set_option maxRecDepth 100000 in
theorem kX12_step (l : Launch) (n0 : Nat) (D : va_G) (Y : Nat → ClassId) (N : Nat) (x0 : Nat) (x1 : Int32) (x2 : Int32) (x3 : Int32) (z : Hp) {r : Int32} {z1 : Hp} (h : fX12_step N x0 x1 x2 x3 z = some (r, z1)) : Met l yX12_step wsX12_step rmX12_step (PreC n0 D Y z [.ref (n0 + x0), .int x1, .int x2, .int x3]) (PosI n0 D Y z1 r) 0 0 (AA n0) := by
  refine Met.ofW (cc := cX12_step) (maxL := 4) (ret := (some .int)) (by decide) rfl ?_
  intro p e s m args below meth c s₁ B hml hv
  obtain ⟨rfl, hR, hK⟩ := hv
  have C : Cx n0 D Y RX12 cX12_step (some .int) 4 wsX12_step "step" p s m ([.ref (n0 + x0), .int x1, .int x2, .int x3] : List Value).toArray meth c := ⟨B.exec, B.bytes, B.returns, hml, findClass_of_methodNamed B.named, atoms_spec (ws := wsX12_step) B.pre, B.notSynchronized, (name_of_methodNamed B.named B.method).1, hK⟩
  have hl := lv_entry ([.ref (n0 + x0), .int x1, .int x2, .int x3]) (n := 4) (Nat.le_of_ble_eq_true rfl)
  rw [lg_entry_eq]
  generalize (lg_sl ([.ref (n0 + x0), .int x1, .int x2, .int x3]) ++ List.replicate (4 - (lg_sl ([.ref (n0 + x0), .int x1, .int x2, .int x3])).length) Slot.unset).toArray = ls at hl ⊢
  have hl : lv_has ls 4 [(0, .ref (n0 + x0)), (1, .int x1), (2, .int x2), (3, .int x3)] := hl
  exact tX12_step_0 C h rfl ⟨hR, va_S.rf⟩ hl
theorem in_X12_textIn_X12 : ∀ w ∈ wsX120, w ∈ wsX12_textIn := by decide +kernel
abbrev rmX12_textIn : Room := { frames := 0, cells := 0, slots := 0, locals := 0 }
noncomputable def fX12_textIn_44 (N : Nat) (x0 : Nat) (x1 : Int32) (x2 : Int32) (x3 : Int32) (z : Hp) : Option ((Int32 × Int32) ⊕ (Int32)) := bd (x3 + (1 : Int32)) fun v1 => some (.inl (x2, v1))
set_option maxHeartbeats 4000000 in
set_option maxRecDepth 100000 in
theorem tX12_textIn_44 {n0 : Nat} {D : va_G} {Y : Nat → ClassId} {p : Program} {l : Launch} {e : Env} {s : State} {m : MethodId} {args : Array Value} {below : List Frame} {meth : Method} {c : Code} {N : Nat} {fin : Int32} {x0 : Nat} {x1 : Int32} {x2 : Int32} {x3 : Int32}  {z : Hp} (C : Cx n0 D Y RX12 cX12_textIn (some .int) 4 wsX12_textIn "textIn" p s m args meth c) {P5 : Int32 × Int32 → Prop} (hP5 : ∀ u, P5 u → ∀ (H : Heap) (locs : List Loc) (ls : Array Slot), Wd n0 D Y z s H locs → lv_has ls 4 [(0, .ref (n0 + x0)), (1, .int x1), (2, .int u.1), (3, .int u.2)] → W p l e rmX12_textIn s m args below meth c H locs 0 0 (MQ below (PosI n0 D Y z fin) args s 0 0 (AA n0)) (F0 m 5 ls [])) {x : ((Int32 × Int32) ⊕ (Int32))} (h : fX12_textIn_44 N x0 x1 x2 x3  z = some x) (hF : (Fn P5 (fun x => x = fin)) x) {H : Heap} {locs : List Loc} {ls : Array Slot} (hw : Wd n0 D Y z s H locs) (hl : lv_has ls 4 [(0, .ref (n0 + x0)), (1, .int x1), (2, .int x2), (3, .int x3)]) : W p l e rmX12_textIn s m args below meth c H locs 0 0 (MQ below (PosI n0 D Y z fin) args s 0 0 (AA n0)) (F0 m 44 ls []) := by
  unfold fX12_textIn_44 at h
  obtain ⟨v1, e2, h⟩ := bdE h
  refine lv_iinc (v := v1) (lv' := [(3, .int v1), (0, .ref (n0 + x0)), (1, .int x1), (2, .int x2)]) C.1 C.2.1 dX12_textIn_44 hl (k := 3) rfl (by rw [e2]; rfl) (by decide) rfl (fun ls hl => ?_)
  refine lv_goto (tgt := 5) C.1 C.2.1 dX12_textIn_47 (by decide) ?_
  cases h
  exact hP5 _ hF _ _ _ hw (lv_sub hl [1, 2, 3, 0] rfl)
noncomputable def fX12_textIn_42 (N : Nat) (x0 : Nat) (x1 : Int32) (x3 : Int32) (z : Hp) : Option ((Int32 × Int32) ⊕ (Int32)) := fX12_textIn_44 N x0 x1 x3 x3 z
set_option maxHeartbeats 4000000 in
set_option maxRecDepth 100000 in
theorem tX12_textIn_42 {n0 : Nat} {D : va_G} {Y : Nat → ClassId} {p : Program} {l : Launch} {e : Env} {s : State} {m : MethodId} {args : Array Value} {below : List Frame} {meth : Method} {c : Code} {N : Nat} {fin : Int32} {x0 : Nat} {x1 : Int32} {x3 : Int32}  {z : Hp} (C : Cx n0 D Y RX12 cX12_textIn (some .int) 4 wsX12_textIn "textIn" p s m args meth c) {P5 : Int32 × Int32 → Prop} (hP5 : ∀ u, P5 u → ∀ (H : Heap) (locs : List Loc) (ls : Array Slot), Wd n0 D Y z s H locs → lv_has ls 4 [(0, .ref (n0 + x0)), (1, .int x1), (2, .int u.1), (3, .int u.2)] → W p l e rmX12_textIn s m args below meth c H locs 0 0 (MQ below (PosI n0 D Y z fin) args s 0 0 (AA n0)) (F0 m 5 ls [])) {x : ((Int32 × Int32) ⊕ (Int32))} (h : fX12_textIn_42 N x0 x1 x3  z = some x) (hF : (Fn P5 (fun x => x = fin)) x) {H : Heap} {locs : List Loc} {ls : Array Slot} (hw : Wd n0 D Y z s H locs) (hl : lv_has ls 4 [(0, .ref (n0 + x0)), (1, .int x1), (3, .int x3)]) : W p l e rmX12_textIn s m args below meth c H locs 0 0 (MQ below (PosI n0 D Y z fin) args s 0 0 (AA n0)) (F0 m 42 ls []) := by
  unfold fX12_textIn_42 at h
  refine lv_iload_n C.1 C.2.1 dX12_textIn_42 rfl (lv_at hl 2 rfl) ?_
  refine lv_istore_n (i := 2) (lv' := [(2, .int x3), (0, .ref (n0 + x0)), (1, .int x1), (3, .int x3)]) C.1 C.2.1 dX12_textIn_43 rfl hl (by decide) rfl (fun ls hl => ?_)
  exact tX12_textIn_44 C hP5 h hF hw (lv_sub hl [1, 2, 0, 3] rfl)
noncomputable def fX12_textIn_5 (N : Nat) (x0 : Nat) (x1 : Int32) (x2 : Int32) (x3 : Int32) (z : Hp) : Option ((Int32 × Int32) ⊕ (Int32)) := gd (x0 < zn z ∧ zK z x0 = 11) <| br ((zF z 739 x0) ≤ x3) (lf <| some x2) (bo (zG z 733 x0) fun b5 => gd (b5 < zn z ∧ zK z b5 = 12) <| gd (¬ (x3 < 0 ∨ zL z b5 ≤ (x3).toNatClampNeg)) <| br (x1 < (zA z b5 (x3).toNatClampNeg)) (fX12_textIn_44 N x0 x1 x2 x3 z) (br (x2 < 0) (fX12_textIn_42 N x0 x1 x3 z) (bo (zG z 733 x0) fun b11 => gd (b11 < zn z ∧ zK z b11 = 12) <| gd (¬ (x3 < 0 ∨ zL z b11 ≤ (x3).toNatClampNeg)) <| bo (zG z 733 x0) fun b15 => gd (b15 < zn z ∧ zK z b15 = 12) <| gd (¬ (x2 < 0 ∨ zL z b15 ≤ (x2).toNatClampNeg)) <| br ((zA z b11 (x3).toNatClampNeg) < (zA z b15 (x2).toNatClampNeg)) (fX12_textIn_44 N x0 x1 x2 x3 z) (fX12_textIn_42 N x0 x1 x3 z))))
set_option maxHeartbeats 4000000 in
set_option maxRecDepth 100000 in
theorem tX12_textIn_5 {n0 : Nat} {D : va_G} {Y : Nat → ClassId} {p : Program} {l : Launch} {e : Env} {s : State} {m : MethodId} {args : Array Value} {below : List Frame} {meth : Method} {c : Code} {N : Nat} {fin : Int32} {x0 : Nat} {x1 : Int32} {x2 : Int32} {x3 : Int32}  {z : Hp} (C : Cx n0 D Y RX12 cX12_textIn (some .int) 4 wsX12_textIn "textIn" p s m args meth c) {P5 : Int32 × Int32 → Prop} (hP5 : ∀ u, P5 u → ∀ (H : Heap) (locs : List Loc) (ls : Array Slot), Wd n0 D Y z s H locs → lv_has ls 4 [(0, .ref (n0 + x0)), (1, .int x1), (2, .int u.1), (3, .int u.2)] → W p l e rmX12_textIn s m args below meth c H locs 0 0 (MQ below (PosI n0 D Y z fin) args s 0 0 (AA n0)) (F0 m 5 ls [])) {x : ((Int32 × Int32) ⊕ (Int32))} (h : fX12_textIn_5 N x0 x1 x2 x3  z = some x) (hF : (Fn P5 (fun x => x = fin)) x) {H : Heap} {locs : List Loc} {ls : Array Slot} (hw : Wd n0 D Y z s H locs) (hl : lv_has ls 4 [(0, .ref (n0 + x0)), (1, .int x1), (2, .int x2), (3, .int x3)]) : W p l e rmX12_textIn s m args below meth c H locs 0 0 (MQ below (PosI n0 D Y z fin) args s 0 0 (AA n0)) (F0 m 5 ls []) := by
  unfold fX12_textIn_5 at h
  refine lv_iload_n C.1 C.2.1 dX12_textIn_5 rfl (lv_at hl 3 rfl) ?_
  refine lv_aload_n C.1 C.2.1 dX12_textIn_6 rfl (lv_at hl 0 rfl) ?_
  obtain ⟨g1, h⟩ := gdE h
  refine r_get (v := .int (zF z 739 x0)) C hw g1 (by decide) (Cn := RX12) (T := TX12) (N := 50) rfl in_X12_textIn_X12 35 (by decide) (by decide +kernel) (fun _ h => h) rfl dX12_textIn_7 ?_
  refine lv_icmp_ge (tgt := 50) C.1 C.2.1 dX12_textIn_10 (by decide) (fun c2 => ?_) (fun c2 => ?_)
  · replace h := brT h c2
    obtain ⟨y3, h, hF⟩ := lfX h hF
    refine lv_iload_n C.1 C.2.1 dX12_textIn_50 rfl (lv_at hl 2 rfl) ?_
    cases h
    replace hF : _ = fin := hF
    subst hF
    exact r_iret C hw dX12_textIn_51
  · replace h := brF h c2
    refine lv_aload_n C.1 C.2.1 dX12_textIn_13 rfl (lv_at hl 0 rfl) ?_
    refine r_get (v := rv n0 (zG z 733 x0)) C hw g1 (by decide) (Cn := RX12) (T := TX12) (N := 50) rfl in_X12_textIn_X12 29 (by decide) (by decide +kernel) (fun _ h => h) rfl dX12_textIn_14 ?_
    obtain ⟨b5, e4, h⟩ := boE h
    refine r_topr e4 ?_
    refine lv_iload_n C.1 C.2.1 dX12_textIn_17 rfl (lv_at hl 3 rfl) ?_
    obtain ⟨g6, h⟩ := gdE h
    obtain ⟨i7, h⟩ := gdE h
    refine r_iald C hw g6 i7 dX12_textIn_18 ?_
    refine lv_iload_n C.1 C.2.1 dX12_textIn_19 rfl (lv_at hl 1 rfl) ?_
    refine lv_icmp_gt (tgt := 44) C.1 C.2.1 dX12_textIn_20 (by decide) (fun c8 => ?_) (fun c8 => ?_)
    · replace h := brT h c8
      exact tX12_textIn_44 C hP5 h hF hw (lv_sub hl [0, 1, 2, 3] rfl)
    · replace h := brF h c8
      refine lv_iload_n C.1 C.2.1 dX12_textIn_23 rfl (lv_at hl 2 rfl) ?_
      refine lv_if_lt (tgt := 42) C.1 C.2.1 dX12_textIn_24 (by decide) (fun c9 => ?_) (fun c9 => ?_)
      · replace h := brT h c9
        exact tX12_textIn_42 C hP5 h hF hw (lv_sub hl [0, 1, 3] rfl)
      · replace h := brF h c9
        refine lv_aload_n C.1 C.2.1 dX12_textIn_27 rfl (lv_at hl 0 rfl) ?_
        refine r_get (v := rv n0 (zG z 733 x0)) C hw g1 (by decide) (Cn := RX12) (T := TX12) (N := 50) rfl in_X12_textIn_X12 29 (by decide) (by decide +kernel) (fun _ h => h) rfl dX12_textIn_28 ?_
        obtain ⟨b11, e10, h⟩ := boE h
        refine r_topr e10 ?_
        refine lv_iload_n C.1 C.2.1 dX12_textIn_31 rfl (lv_at hl 3 rfl) ?_
        obtain ⟨g12, h⟩ := gdE h
        obtain ⟨i13, h⟩ := gdE h
        refine r_iald C hw g12 i13 dX12_textIn_32 ?_
        refine lv_aload_n C.1 C.2.1 dX12_textIn_33 rfl (lv_at hl 0 rfl) ?_
        refine r_get (v := rv n0 (zG z 733 x0)) C hw g1 (by decide) (Cn := RX12) (T := TX12) (N := 50) rfl in_X12_textIn_X12 29 (by decide) (by decide +kernel) (fun _ h => h) rfl dX12_textIn_34 ?_
        obtain ⟨b15, e14, h⟩ := boE h
        refine r_topr e14 ?_
        refine lv_iload_n C.1 C.2.1 dX12_textIn_37 rfl (lv_at hl 2 rfl) ?_
        obtain ⟨g16, h⟩ := gdE h
        obtain ⟨i17, h⟩ := gdE h
        refine r_iald C hw g16 i17 dX12_textIn_38 ?_
        refine lv_icmp_lt (tgt := 44) C.1 C.2.1 dX12_textIn_39 (by decide) (fun c18 => ?_) (fun c18 => ?_)
        · replace h := brT h c18
          exact tX12_textIn_44 C hP5 h hF hw (lv_sub hl [0, 1, 2, 3] rfl)
        · replace h := brF h c18
          exact tX12_textIn_42 C hP5 h hF hw (lv_sub hl [0, 1, 3] rfl)
set_option maxHeartbeats 4000000 in
set_option maxRecDepth 100000 in
theorem lX12_textIn_5 {n0 : Nat} {D : va_G} {Y : Nat → ClassId} {p : Program} {l : Launch} {e : Env} {s : State} {m : MethodId} {args : Array Value} {below : List Frame} {meth : Method} {c : Code} {N : Nat} {fin : Int32} {x0 : Nat} {x1 : Int32} {z : Hp} (C : Cx n0 D Y RX12 cX12_textIn (some .int) 4 wsX12_textIn "textIn" p s m args meth c) {x : (Int32)} : ∀ (n : Nat) (u : Int32 × Int32), wh (fun (u : Int32 × Int32) => fX12_textIn_5 N x0 x1 u.1 u.2 z) n u = some x → (fun x => x = fin) x → ∀ (H : Heap) (locs : List Loc) (ls : Array Slot), Wd n0 D Y z s H locs → lv_has ls 4 [(0, .ref (n0 + x0)), (1, .int x1), (2, .int u.1), (3, .int u.2)] → W p l e rmX12_textIn s m args below meth c H locs 0 0 (MQ below (PosI n0 D Y z fin) args s 0 0 (AA n0)) (F0 m 5 ls []) := fun n u h g => wh_ind (P := fun u => ∀ (H : Heap) (locs : List Loc) (ls : Array Slot), Wd n0 D Y z s H locs → lv_has ls 4 [(0, .ref (n0 + x0)), (1, .int x1), (2, .int u.1), (3, .int u.2)] → W p l e rmX12_textIn s m args below meth c H locs 0 0 (MQ below (PosI n0 D Y z fin) args s 0 0 (AA n0)) (F0 m 5 ls [])) (G := (fun x => x = fin)) (fun u x h hF H locs ls hw hl => tX12_textIn_5 C (P5 := fun u => ∀ (H : Heap) (locs : List Loc) (ls : Array Slot), Wd n0 D Y z s H locs → lv_has ls 4 [(0, .ref (n0 + x0)), (1, .int x1), (2, .int u.1), (3, .int u.2)] → W p l e rmX12_textIn s m args below meth c H locs 0 0 (MQ below (PosI n0 D Y z fin) args s 0 0 (AA n0)) (F0 m 5 ls [])) (fun _ h => h) h hF hw hl) n u x h g
noncomputable def fX12_textIn (N : Nat) (x0 : Nat) (x1 : Int32) (z : Hp) : Option (Int32) := wh (fun (u : Int32 × Int32) => fX12_textIn_5 N x0 x1 u.1 u.2 z) N ((-6 : Int32), (0 : Int32))
set_option maxHeartbeats 4000000 in
set_option maxRecDepth 100000 in
theorem tX12_textIn_0 {n0 : Nat} {D : va_G} {Y : Nat → ClassId} {p : Program} {l : Launch} {e : Env} {s : State} {m : MethodId} {args : Array Value} {below : List Frame} {meth : Method} {c : Code} {N : Nat} {fin : Int32} {x0 : Nat} {x1 : Int32}  {z : Hp} (C : Cx n0 D Y RX12 cX12_textIn (some .int) 4 wsX12_textIn "textIn" p s m args meth c) {x : (Int32)} (h : fX12_textIn N x0 x1  z = some x) (hF : (fun x => x = fin) x) {H : Heap} {locs : List Loc} {ls : Array Slot} (hw : Wd n0 D Y z s H locs) (hl : lv_has ls 4 [(0, .ref (n0 + x0)), (1, .int x1)]) : W p l e rmX12_textIn s m args below meth c H locs 0 0 (MQ below (PosI n0 D Y z fin) args s 0 0 (AA n0)) (F0 m 0 ls []) := by
  unfold fX12_textIn at h
  refine lv_bipush (v := (-6 : Int32)) C.1 C.2.1 dX12_textIn_0 (by decide) ?_
  refine lv_istore_n (i := 2) (lv' := [(2, .int (-6 : Int32)), (0, .ref (n0 + x0)), (1, .int x1)]) C.1 C.2.1 dX12_textIn_2 rfl hl (by decide) rfl (fun ls hl => ?_)
  refine lv_iconst (v := (0 : Int32)) C.1 C.2.1 dX12_textIn_3 (by decide) ?_
  refine lv_istore_n (i := 3) (lv' := [(3, .int (0 : Int32)), (2, .int (-6 : Int32)), (0, .ref (n0 + x0)), (1, .int x1)]) C.1 C.2.1 dX12_textIn_4 rfl hl (by decide) rfl (fun ls hl => ?_)
  exact lX12_textIn_5 C _ _ h hF _ _ _ hw (lv_sub hl [2, 3, 1, 0] rfl)
set_option maxRecDepth 100000 in
theorem kX12_textIn (l : Launch) (n0 : Nat) (D : va_G) (Y : Nat → ClassId) (N : Nat) (x0 : Nat) (x1 : Int32) (z : Hp) {r : Int32} (h : fX12_textIn N x0 x1 z = some r) : Met l yX12_textIn wsX12_textIn rmX12_textIn (PreC n0 D Y z [.ref (n0 + x0), .int x1]) (PosI n0 D Y z r) 0 0 (AA n0) := by
  refine Met.ofW (cc := cX12_textIn) (maxL := 4) (ret := (some .int)) (by decide) rfl ?_
  intro p e s m args below meth c s₁ B hml hv
  obtain ⟨rfl, hR, hK⟩ := hv
  have C : Cx n0 D Y RX12 cX12_textIn (some .int) 4 wsX12_textIn "textIn" p s m ([.ref (n0 + x0), .int x1] : List Value).toArray meth c := ⟨B.exec, B.bytes, B.returns, hml, findClass_of_methodNamed B.named, atoms_spec (ws := wsX12_textIn) B.pre, B.notSynchronized, (name_of_methodNamed B.named B.method).1, hK⟩
  have hl := lv_entry ([.ref (n0 + x0), .int x1]) (n := 4) (Nat.le_of_ble_eq_true rfl)
  rw [lg_entry_eq]
  generalize (lg_sl ([.ref (n0 + x0), .int x1]) ++ List.replicate (4 - (lg_sl ([.ref (n0 + x0), .int x1])).length) Slot.unset).toArray = ls at hl ⊢
  have hl : lv_has ls 4 [(0, .ref (n0 + x0)), (1, .int x1)] := hl
  exact tX12_textIn_0 C h rfl ⟨hR, va_S.rf⟩ hl
abbrev rmX12_inForce : Room := { frames := 1, cells := 0, slots := 0, locals := 25 }
noncomputable def fX12_inForce (N : Nat) (x0 : Nat) (x1 : Int32) (z : Hp) : Option (Int32) := bo (fX12_in N (Int32.toInt64 x1) (0 : Int64) (199 : Int64) z) fun r2 => br (r2 = 0) (some (-1 : Int32)) (gd (x0 < zn z ∧ zK z x0 = 11) <| bo (fX12_textIn N x0 x1 z) fun r5 => some r5)
set_option maxHeartbeats 4000000 in
set_option maxRecDepth 100000 in
theorem tX12_inForce_0 {n0 : Nat} {D : va_G} {Y : Nat → ClassId} {p : Program} {l : Launch} {e : Env} {s : State} {m : MethodId} {args : Array Value} {below : List Frame} {meth : Method} {c : Code} {N : Nat} {fin : Int32} {x0 : Nat} {x1 : Int32}  {z : Hp} (C : Cx n0 D Y RX12 cX12_inForce (some .int) 2 wsX12_inForce "inForce" p s m args meth c) {x : (Int32)} (h : fX12_inForce N x0 x1  z = some x) (hF : (fun x => x = fin) x) {H : Heap} {locs : List Loc} {ls : Array Slot} (hw : Wd n0 D Y z s H locs) (hl : lv_has ls 2 [(0, .ref (n0 + x0)), (1, .int x1)]) : W p l e rmX12_inForce s m args below meth c H locs 0 0 (MQ below (PosI n0 D Y z fin) args s 0 0 (AA n0)) (F0 m 0 ls []) := by
  unfold fX12_inForce at h
  refine lv_iload_n C.1 C.2.1 dX12_inForce_0 rfl (lv_at hl 1 rfl) ?_
  refine lv_i2l C.1 C.2.1 dX12_inForce_1 rfl ?_
  refine lv_lconst (v := (0 : Int64)) C.1 C.2.1 dX12_inForce_2 (by decide) ?_
  refine lv_ldc2 (v := (199 : Int64)) C.1 C.2.1 C.2.2.2.2.1 (C.2.2.2.2.2.1 (.constantLong RX12 189 (199 : Int64)) (by decide +kernel)) dX12_inForce_3 ?_
  obtain ⟨r2, e1, h⟩ := boE h
  refine r_afti hw (r_runS (As := [.long (Int32.toInt64 x1), .long (0 : Int64), .long (199 : Int64)]) (rest := []) C hw (kX12_in l n0 D Y N (Int32.toInt64 x1) (0 : Int64) (199 : Int64) z e1) (va_cwS 3 C.2.2.2.2.2.1 gX12_inForce_X12_in rfl rfl rfl (by decide +kernel) ⟨(Nat.le_of_ble_eq_true rfl), (Nat.le_of_ble_eq_true rfl)⟩) rfl hl.1 rfl (Nat.le_of_ble_eq_true rfl) dX12_inForce_6 ⟨(Nat.le_of_ble_eq_true rfl), (Nat.le_of_ble_eq_true rfl)⟩) (fun H locs hw => ?_)
  refine lv_if_eq (tgt := 20) C.1 C.2.1 dX12_inForce_9 (by decide) (fun c3 => ?_) (fun c3 => ?_)
  · replace h := brT h c3
    refine lv_iconst (v := (-1 : Int32)) C.1 C.2.1 dX12_inForce_20 (by decide) ?_
    cases h
    replace hF : _ = fin := hF
    subst hF
    exact r_iret C hw dX12_inForce_21
  · replace h := brF h c3
    refine lv_aload_n C.1 C.2.1 dX12_inForce_12 rfl (lv_at hl 0 rfl) ?_
    refine lv_iload_n C.1 C.2.1 dX12_inForce_13 rfl (lv_at hl 1 rfl) ?_
    obtain ⟨g6, h⟩ := gdE h
    obtain ⟨r5, e4, h⟩ := boE h
    refine r_afti hw (r_runV (As := [.int x1]) (rest := []) C hw (ki := 11) g6 (by decide) rfl (kX12_textIn l n0 D Y N x0 x1 z e4) (cwV 1 C.2.2.2.2.2.1 gX12_inForce_X12_textIn rfl rfl rfl (by decide +kernel) ⟨(Nat.le_of_ble_eq_true rfl), (Nat.le_of_ble_eq_true rfl)⟩) rfl hl.1 rfl (Nat.le_of_ble_eq_true rfl) dX12_inForce_14 ⟨(Nat.le_of_ble_eq_true rfl), (Nat.le_of_ble_eq_true rfl)⟩) (fun H locs hw => ?_)
    refine lv_goto (tgt := 21) C.1 C.2.1 dX12_inForce_17 (by decide) ?_
    cases h
    replace hF : _ = fin := hF
    subst hF
    exact r_iret C hw dX12_inForce_21
set_option maxRecDepth 100000 in
theorem kX12_inForce (l : Launch) (n0 : Nat) (D : va_G) (Y : Nat → ClassId) (N : Nat) (x0 : Nat) (x1 : Int32) (z : Hp) {r : Int32} (h : fX12_inForce N x0 x1 z = some r) : Met l yX12_inForce wsX12_inForce rmX12_inForce (PreC n0 D Y z [.ref (n0 + x0), .int x1]) (PosI n0 D Y z r) 0 0 (AA n0) := by
  refine Met.ofW (cc := cX12_inForce) (maxL := 2) (ret := (some .int)) (by decide) rfl ?_
  intro p e s m args below meth c s₁ B hml hv
  obtain ⟨rfl, hR, hK⟩ := hv
  have C : Cx n0 D Y RX12 cX12_inForce (some .int) 2 wsX12_inForce "inForce" p s m ([.ref (n0 + x0), .int x1] : List Value).toArray meth c := ⟨B.exec, B.bytes, B.returns, hml, findClass_of_methodNamed B.named, atoms_spec (ws := wsX12_inForce) B.pre, B.notSynchronized, (name_of_methodNamed B.named B.method).1, hK⟩
  have hl := lv_entry ([.ref (n0 + x0), .int x1]) (n := 2) (Nat.le_of_ble_eq_true rfl)
  rw [lg_entry_eq]
  generalize (lg_sl ([.ref (n0 + x0), .int x1]) ++ List.replicate (2 - (lg_sl ([.ref (n0 + x0), .int x1])).length) Slot.unset).toArray = ls at hl ⊢
  have hl : lv_has ls 2 [(0, .ref (n0 + x0)), (1, .int x1)] := hl
  exact tX12_inForce_0 C h rfl ⟨hR, va_S.rf⟩ hl
theorem in_X12_dueIn_X12 : ∀ w ∈ wsX120, w ∈ wsX12_dueIn := by decide +kernel
abbrev rmX12_dueIn : Room := { frames := 1, cells := 0, slots := 0, locals := 27 }
noncomputable def fX12_dueIn_84 (N : Nat) (x0 : Nat) (x1 : Int32) (x3 : Int32) (x4 : Int32) (x5 : Int32) (x6 : Int32) (z : Hp) : Option ((Int32 × Int32) ⊕ (Int32)) := bd (x6 + (1 : Int32)) fun v1 => some (.inl (x5, v1))
set_option maxHeartbeats 4000000 in
set_option maxRecDepth 100000 in
theorem tX12_dueIn_84 {n0 : Nat} {D : va_G} {Y : Nat → ClassId} {p : Program} {l : Launch} {e : Env} {s : State} {m : MethodId} {args : Array Value} {below : List Frame} {meth : Method} {c : Code} {N : Nat} {fin : Int32} {x0 : Nat} {x1 : Int32} {x3 : Int32} {x4 : Int32} {x5 : Int32} {x6 : Int32}  {z : Hp} (C : Cx n0 D Y RX12 cX12_dueIn (some .int) 7 wsX12_dueIn "dueIn" p s m args meth c) {P30 : Int32 × Int32 → Prop} (hP30 : ∀ u, P30 u → ∀ (H : Heap) (locs : List Loc) (ls : Array Slot), Wd n0 D Y z s H locs → lv_has ls 7 [(0, .ref (n0 + x0)), (1, .int x1), (3, .int x3), (4, .int x4), (5, .int u.1), (6, .int u.2)] → W p l e rmX12_dueIn s m args below meth c H locs 0 0 (MQ below (PosI n0 D Y z fin) args s 0 0 (AA n0)) (F0 m 30 ls [])) {x : ((Int32 × Int32) ⊕ (Int32))} (h : fX12_dueIn_84 N x0 x1 x3 x4 x5 x6  z = some x) (hF : (Fn P30 (fun x => x = fin)) x) {H : Heap} {locs : List Loc} {ls : Array Slot} (hw : Wd n0 D Y z s H locs) (hl : lv_has ls 7 [(0, .ref (n0 + x0)), (1, .int x1), (3, .int x3), (4, .int x4), (5, .int x5), (6, .int x6)]) : W p l e rmX12_dueIn s m args below meth c H locs 0 0 (MQ below (PosI n0 D Y z fin) args s 0 0 (AA n0)) (F0 m 84 ls []) := by
  unfold fX12_dueIn_84 at h
  obtain ⟨v1, e2, h⟩ := bdE h
  refine lv_iinc (v := v1) (lv' := [(6, .int v1), (0, .ref (n0 + x0)), (1, .int x1), (3, .int x3), (4, .int x4), (5, .int x5)]) C.1 C.2.1 dX12_dueIn_84 hl (k := 5) rfl (by rw [e2]; rfl) (by decide) rfl (fun ls hl => ?_)
  refine lv_goto (tgt := 30) C.1 C.2.1 dX12_dueIn_87 (by decide) ?_
  cases h
  exact hP30 _ hF _ _ _ hw (lv_sub hl [1, 2, 3, 4, 5, 0] rfl)
noncomputable def fX12_dueIn_80 (N : Nat) (x0 : Nat) (x1 : Int32) (x3 : Int32) (x4 : Int32) (x6 : Int32) (z : Hp) : Option ((Int32 × Int32) ⊕ (Int32)) := fX12_dueIn_84 N x0 x1 x3 x4 x6 x6 z
set_option maxHeartbeats 4000000 in
set_option maxRecDepth 100000 in
theorem tX12_dueIn_80 {n0 : Nat} {D : va_G} {Y : Nat → ClassId} {p : Program} {l : Launch} {e : Env} {s : State} {m : MethodId} {args : Array Value} {below : List Frame} {meth : Method} {c : Code} {N : Nat} {fin : Int32} {x0 : Nat} {x1 : Int32} {x3 : Int32} {x4 : Int32} {x6 : Int32}  {z : Hp} (C : Cx n0 D Y RX12 cX12_dueIn (some .int) 7 wsX12_dueIn "dueIn" p s m args meth c) {P30 : Int32 × Int32 → Prop} (hP30 : ∀ u, P30 u → ∀ (H : Heap) (locs : List Loc) (ls : Array Slot), Wd n0 D Y z s H locs → lv_has ls 7 [(0, .ref (n0 + x0)), (1, .int x1), (3, .int x3), (4, .int x4), (5, .int u.1), (6, .int u.2)] → W p l e rmX12_dueIn s m args below meth c H locs 0 0 (MQ below (PosI n0 D Y z fin) args s 0 0 (AA n0)) (F0 m 30 ls [])) {x : ((Int32 × Int32) ⊕ (Int32))} (h : fX12_dueIn_80 N x0 x1 x3 x4 x6  z = some x) (hF : (Fn P30 (fun x => x = fin)) x) {H : Heap} {locs : List Loc} {ls : Array Slot} (hw : Wd n0 D Y z s H locs) (hl : lv_has ls 7 [(0, .ref (n0 + x0)), (1, .int x1), (3, .int x3), (4, .int x4), (6, .int x6)]) : W p l e rmX12_dueIn s m args below meth c H locs 0 0 (MQ below (PosI n0 D Y z fin) args s 0 0 (AA n0)) (F0 m 80 ls []) := by
  unfold fX12_dueIn_80 at h
  refine lv_iload C.1 C.2.1 dX12_dueIn_80 (lv_at hl 4 rfl) ?_
  refine lv_istore (i := 5) (lv' := [(5, .int x6), (0, .ref (n0 + x0)), (1, .int x1), (3, .int x3), (4, .int x4), (6, .int x6)]) C.1 C.2.1 dX12_dueIn_82 hl (by decide) rfl (fun ls hl => ?_)
  exact tX12_dueIn_84 C hP30 h hF hw (lv_sub hl [1, 2, 3, 4, 0, 5] rfl)
noncomputable def fX12_dueIn_30 (N : Nat) (x0 : Nat) (x1 : Int32) (x3 : Int32) (x4 : Int32) (x5 : Int32) (x6 : Int32) (z : Hp) : Option ((Int32 × Int32) ⊕ (Int32)) := gd (x0 < zn z ∧ zK z x0 = 11) <| bo (zG z 738 x0) fun b3 => gd (b3 < zn z ∧ zK z b3 = 12) <| gd (¬ (x3 < 0 ∨ zL z b3 ≤ (x3).toNatClampNeg)) <| br ((((8 : Int32) * x3) + (zA z b3 (x3).toNatClampNeg)) ≤ x6) (lf <| br (0 ≤ x5) (bo (zG z 737 x0) fun b10 => gd (b10 < zn z ∧ zK z b10 = 12) <| gd (¬ (x5 < 0 ∨ zL z b10 ≤ (x5).toNatClampNeg)) <| bo (zG z 734 x0) fun b14 => bd (((3 : Int32) * x3) + x1) fun v15 => gd (b14 < zn z ∧ zK z b14 = 12) <| gd (¬ (v15 < 0 ∨ zL z b14 ≤ (v15).toNatClampNeg)) <| some (((zA z b10 (x5).toNatClampNeg) * (zA z b14 (v15).toNatClampNeg)) / (100 : Int32))) (some (0 : Int32))) (bo (zG z 736 x0) fun b20 => gd (b20 < zn z ∧ zK z b20 = 12) <| gd (¬ (x6 < 0 ∨ zL z b20 ≤ (x6).toNatClampNeg)) <| br (x4 < (zA z b20 (x6).toNatClampNeg)) (fX12_dueIn_84 N x0 x1 x3 x4 x5 x6 z) (br (x5 < 0) (fX12_dueIn_80 N x0 x1 x3 x4 x6 z) (bo (zG z 736 x0) fun b26 => gd (b26 < zn z ∧ zK z b26 = 12) <| gd (¬ (x6 < 0 ∨ zL z b26 ≤ (x6).toNatClampNeg)) <| bo (zG z 736 x0) fun b30 => gd (b30 < zn z ∧ zK z b30 = 12) <| gd (¬ (x5 < 0 ∨ zL z b30 ≤ (x5).toNatClampNeg)) <| br ((zA z b26 (x6).toNatClampNeg) < (zA z b30 (x5).toNatClampNeg)) (fX12_dueIn_84 N x0 x1 x3 x4 x5 x6 z) (fX12_dueIn_80 N x0 x1 x3 x4 x6 z))))
set_option maxHeartbeats 4000000 in
set_option maxRecDepth 100000 in
theorem tX12_dueIn_30 {n0 : Nat} {D : va_G} {Y : Nat → ClassId} {p : Program} {l : Launch} {e : Env} {s : State} {m : MethodId} {args : Array Value} {below : List Frame} {meth : Method} {c : Code} {N : Nat} {fin : Int32} {x0 : Nat} {x1 : Int32} {x3 : Int32} {x4 : Int32} {x5 : Int32} {x6 : Int32}  {z : Hp} (C : Cx n0 D Y RX12 cX12_dueIn (some .int) 7 wsX12_dueIn "dueIn" p s m args meth c) {P30 : Int32 × Int32 → Prop} (hP30 : ∀ u, P30 u → ∀ (H : Heap) (locs : List Loc) (ls : Array Slot), Wd n0 D Y z s H locs → lv_has ls 7 [(0, .ref (n0 + x0)), (1, .int x1), (3, .int x3), (4, .int x4), (5, .int u.1), (6, .int u.2)] → W p l e rmX12_dueIn s m args below meth c H locs 0 0 (MQ below (PosI n0 D Y z fin) args s 0 0 (AA n0)) (F0 m 30 ls [])) {x : ((Int32 × Int32) ⊕ (Int32))} (h : fX12_dueIn_30 N x0 x1 x3 x4 x5 x6  z = some x) (hF : (Fn P30 (fun x => x = fin)) x) {H : Heap} {locs : List Loc} {ls : Array Slot} (hw : Wd n0 D Y z s H locs) (hl : lv_has ls 7 [(0, .ref (n0 + x0)), (1, .int x1), (3, .int x3), (4, .int x4), (5, .int x5), (6, .int x6)]) : W p l e rmX12_dueIn s m args below meth c H locs 0 0 (MQ below (PosI n0 D Y z fin) args s 0 0 (AA n0)) (F0 m 30 ls []) := by
  unfold fX12_dueIn_30 at h
  refine lv_iload C.1 C.2.1 dX12_dueIn_30 (lv_at hl 5 rfl) ?_
  refine lv_bipush (v := (8 : Int32)) C.1 C.2.1 dX12_dueIn_32 (by decide) ?_
  refine lv_iload_n C.1 C.2.1 dX12_dueIn_34 rfl (lv_at hl 2 rfl) ?_
  refine lv_imul C.1 C.2.1 dX12_dueIn_35 ?_
  refine lv_aload_n C.1 C.2.1 dX12_dueIn_36 rfl (lv_at hl 0 rfl) ?_
  obtain ⟨g1, h⟩ := gdE h
  refine r_get (v := rv n0 (zG z 738 x0)) C hw g1 (by decide) (Cn := RX12) (T := TX12) (N := 50) rfl in_X12_dueIn_X12 34 (by decide) (by decide +kernel) (fun _ h => h) rfl dX12_dueIn_37 ?_
  obtain ⟨b3, e2, h⟩ := boE h
  refine r_topr e2 ?_
  refine lv_iload_n C.1 C.2.1 dX12_dueIn_40 rfl (lv_at hl 2 rfl) ?_
  obtain ⟨g4, h⟩ := gdE h
  obtain ⟨i5, h⟩ := gdE h
  refine r_iald C hw g4 i5 dX12_dueIn_41 ?_
  refine lv_iadd C.1 C.2.1 dX12_dueIn_42 ?_
  refine lv_icmp_ge (tgt := 90) C.1 C.2.1 dX12_dueIn_43 (by decide) (fun c6 => ?_) (fun c6 => ?_)
  · replace h := brT h c6
    obtain ⟨y7, h, hF⟩ := lfX h hF
    refine lv_iload C.1 C.2.1 dX12_dueIn_90 (lv_at hl 4 rfl) ?_
    refine lv_if_ge (tgt := 99) C.1 C.2.1 dX12_dueIn_92 (by decide) (fun c8 => ?_) (fun c8 => ?_)
    · replace h := brT h c8
      refine lv_aload_n C.1 C.2.1 dX12_dueIn_99 rfl (lv_at hl 0 rfl) ?_
      refine r_get (v := rv n0 (zG z 737 x0)) C hw g1 (by decide) (Cn := RX12) (T := TX12) (N := 50) rfl in_X12_dueIn_X12 33 (by decide) (by decide +kernel) (fun _ h => h) rfl dX12_dueIn_100 ?_
      obtain ⟨b10, e9, h⟩ := boE h
      refine r_topr e9 ?_
      refine lv_iload C.1 C.2.1 dX12_dueIn_103 (lv_at hl 4 rfl) ?_
      obtain ⟨g11, h⟩ := gdE h
      obtain ⟨i12, h⟩ := gdE h
      refine r_iald C hw g11 i12 dX12_dueIn_105 ?_
      refine lv_aload_n C.1 C.2.1 dX12_dueIn_106 rfl (lv_at hl 0 rfl) ?_
      refine r_get (v := rv n0 (zG z 734 x0)) C hw g1 (by decide) (Cn := RX12) (T := TX12) (N := 50) rfl in_X12_dueIn_X12 30 (by decide) (by decide +kernel) (fun _ h => h) rfl dX12_dueIn_107 ?_
      obtain ⟨b14, e13, h⟩ := boE h
      refine r_topr e13 ?_
      refine lv_iconst (v := (3 : Int32)) C.1 C.2.1 dX12_dueIn_110 (by decide) ?_
      refine lv_iload_n C.1 C.2.1 dX12_dueIn_111 rfl (lv_at hl 2 rfl) ?_
      refine lv_imul C.1 C.2.1 dX12_dueIn_112 ?_
      refine lv_iload_n C.1 C.2.1 dX12_dueIn_113 rfl (lv_at hl 1 rfl) ?_
      refine lv_iadd C.1 C.2.1 dX12_dueIn_114 ?_
      obtain ⟨v15, e16, h⟩ := bdE h
      refine r_topi e16 ?_
      obtain ⟨g17, h⟩ := gdE h
      obtain ⟨i18, h⟩ := gdE h
      refine r_iald C hw g17 i18 dX12_dueIn_115 ?_
      refine lv_imul C.1 C.2.1 dX12_dueIn_116 ?_
      refine lv_bipush (v := (100 : Int32)) C.1 C.2.1 dX12_dueIn_117 (by decide) ?_
      refine lv_idiv C.1 C.2.1 dX12_dueIn_119 (by decide) ?_
      cases h
      replace hF : _ = fin := hF
      subst hF
      exact r_iret C hw dX12_dueIn_120
    · replace h := brF h c8
      refine lv_iconst (v := (0 : Int32)) C.1 C.2.1 dX12_dueIn_95 (by decide) ?_
      refine lv_goto (tgt := 120) C.1 C.2.1 dX12_dueIn_96 (by decide) ?_
      cases h
      replace hF : _ = fin := hF
      subst hF
      exact r_iret C hw dX12_dueIn_120
  · replace h := brF h c6
    refine lv_aload_n C.1 C.2.1 dX12_dueIn_46 rfl (lv_at hl 0 rfl) ?_
    refine r_get (v := rv n0 (zG z 736 x0)) C hw g1 (by decide) (Cn := RX12) (T := TX12) (N := 50) rfl in_X12_dueIn_X12 32 (by decide) (by decide +kernel) (fun _ h => h) rfl dX12_dueIn_47 ?_
    obtain ⟨b20, e19, h⟩ := boE h
    refine r_topr e19 ?_
    refine lv_iload C.1 C.2.1 dX12_dueIn_50 (lv_at hl 5 rfl) ?_
    obtain ⟨g21, h⟩ := gdE h
    obtain ⟨i22, h⟩ := gdE h
    refine r_iald C hw g21 i22 dX12_dueIn_52 ?_
    refine lv_iload C.1 C.2.1 dX12_dueIn_53 (lv_at hl 3 rfl) ?_
    refine lv_icmp_gt (tgt := 84) C.1 C.2.1 dX12_dueIn_55 (by decide) (fun c23 => ?_) (fun c23 => ?_)
    · replace h := brT h c23
      exact tX12_dueIn_84 C hP30 h hF hw (lv_sub hl [0, 1, 2, 3, 4, 5] rfl)
    · replace h := brF h c23
      refine lv_iload C.1 C.2.1 dX12_dueIn_58 (lv_at hl 4 rfl) ?_
      refine lv_if_lt (tgt := 80) C.1 C.2.1 dX12_dueIn_60 (by decide) (fun c24 => ?_) (fun c24 => ?_)
      · replace h := brT h c24
        exact tX12_dueIn_80 C hP30 h hF hw (lv_sub hl [0, 1, 2, 3, 5] rfl)
      · replace h := brF h c24
        refine lv_aload_n C.1 C.2.1 dX12_dueIn_63 rfl (lv_at hl 0 rfl) ?_
        refine r_get (v := rv n0 (zG z 736 x0)) C hw g1 (by decide) (Cn := RX12) (T := TX12) (N := 50) rfl in_X12_dueIn_X12 32 (by decide) (by decide +kernel) (fun _ h => h) rfl dX12_dueIn_64 ?_
        obtain ⟨b26, e25, h⟩ := boE h
        refine r_topr e25 ?_
        refine lv_iload C.1 C.2.1 dX12_dueIn_67 (lv_at hl 5 rfl) ?_
        obtain ⟨g27, h⟩ := gdE h
        obtain ⟨i28, h⟩ := gdE h
        refine r_iald C hw g27 i28 dX12_dueIn_69 ?_
        refine lv_aload_n C.1 C.2.1 dX12_dueIn_70 rfl (lv_at hl 0 rfl) ?_
        refine r_get (v := rv n0 (zG z 736 x0)) C hw g1 (by decide) (Cn := RX12) (T := TX12) (N := 50) rfl in_X12_dueIn_X12 32 (by decide) (by decide +kernel) (fun _ h => h) rfl dX12_dueIn_71 ?_
        obtain ⟨b30, e29, h⟩ := boE h
        refine r_topr e29 ?_
        refine lv_iload C.1 C.2.1 dX12_dueIn_74 (lv_at hl 4 rfl) ?_
        obtain ⟨g31, h⟩ := gdE h
        obtain ⟨i32, h⟩ := gdE h
        refine r_iald C hw g31 i32 dX12_dueIn_76 ?_
        refine lv_icmp_lt (tgt := 84) C.1 C.2.1 dX12_dueIn_77 (by decide) (fun c33 => ?_) (fun c33 => ?_)
        · replace h := brT h c33
          exact tX12_dueIn_84 C hP30 h hF hw (lv_sub hl [0, 1, 2, 3, 4, 5] rfl)
        · replace h := brF h c33
          exact tX12_dueIn_80 C hP30 h hF hw (lv_sub hl [0, 1, 2, 3, 5] rfl)
set_option maxHeartbeats 4000000 in
set_option maxRecDepth 100000 in
theorem lX12_dueIn_30 {n0 : Nat} {D : va_G} {Y : Nat → ClassId} {p : Program} {l : Launch} {e : Env} {s : State} {m : MethodId} {args : Array Value} {below : List Frame} {meth : Method} {c : Code} {N : Nat} {fin : Int32} {x0 : Nat} {x1 : Int32} {x3 : Int32} {x4 : Int32} {z : Hp} (C : Cx n0 D Y RX12 cX12_dueIn (some .int) 7 wsX12_dueIn "dueIn" p s m args meth c) {x : (Int32)} : ∀ (n : Nat) (u : Int32 × Int32), wh (fun (u : Int32 × Int32) => fX12_dueIn_30 N x0 x1 x3 x4 u.1 u.2 z) n u = some x → (fun x => x = fin) x → ∀ (H : Heap) (locs : List Loc) (ls : Array Slot), Wd n0 D Y z s H locs → lv_has ls 7 [(0, .ref (n0 + x0)), (1, .int x1), (3, .int x3), (4, .int x4), (5, .int u.1), (6, .int u.2)] → W p l e rmX12_dueIn s m args below meth c H locs 0 0 (MQ below (PosI n0 D Y z fin) args s 0 0 (AA n0)) (F0 m 30 ls []) := fun n u h g => wh_ind (P := fun u => ∀ (H : Heap) (locs : List Loc) (ls : Array Slot), Wd n0 D Y z s H locs → lv_has ls 7 [(0, .ref (n0 + x0)), (1, .int x1), (3, .int x3), (4, .int x4), (5, .int u.1), (6, .int u.2)] → W p l e rmX12_dueIn s m args below meth c H locs 0 0 (MQ below (PosI n0 D Y z fin) args s 0 0 (AA n0)) (F0 m 30 ls [])) (G := (fun x => x = fin)) (fun u x h hF H locs ls hw hl => tX12_dueIn_30 C (P30 := fun u => ∀ (H : Heap) (locs : List Loc) (ls : Array Slot), Wd n0 D Y z s H locs → lv_has ls 7 [(0, .ref (n0 + x0)), (1, .int x1), (3, .int x3), (4, .int x4), (5, .int u.1), (6, .int u.2)] → W p l e rmX12_dueIn s m args below meth c H locs 0 0 (MQ below (PosI n0 D Y z fin) args s 0 0 (AA n0)) (F0 m 30 ls [])) (fun _ h => h) h hF hw hl) n u x h g
noncomputable def fX12_dueIn (N : Nat) (x0 : Nat) (x1 : Int32) (x2 : Int32) (z : Hp) : Option (Int32) := gd (x0 < zn z ∧ zK z x0 = 11) <| bo (fX12_textIn N x0 x2 z) fun r2 => br (0 ≤ r2) (bo (fX12_priceIn N x0 (x2 - (1 : Int32)) z) fun r6 => bd ((8 : Int32) * r2) fun v7 => wh (fun (u : Int32 × Int32) => fX12_dueIn_30 N x0 x1 r2 r6 u.1 u.2 z) N ((-1 : Int32), v7)) (some (0 : Int32))
set_option maxHeartbeats 4000000 in
set_option maxRecDepth 100000 in
theorem tX12_dueIn_0 {n0 : Nat} {D : va_G} {Y : Nat → ClassId} {p : Program} {l : Launch} {e : Env} {s : State} {m : MethodId} {args : Array Value} {below : List Frame} {meth : Method} {c : Code} {N : Nat} {fin : Int32} {x0 : Nat} {x1 : Int32} {x2 : Int32}  {z : Hp} (C : Cx n0 D Y RX12 cX12_dueIn (some .int) 7 wsX12_dueIn "dueIn" p s m args meth c) {x : (Int32)} (h : fX12_dueIn N x0 x1 x2  z = some x) (hF : (fun x => x = fin) x) {H : Heap} {locs : List Loc} {ls : Array Slot} (hw : Wd n0 D Y z s H locs) (hl : lv_has ls 7 [(0, .ref (n0 + x0)), (1, .int x1), (2, .int x2)]) : W p l e rmX12_dueIn s m args below meth c H locs 0 0 (MQ below (PosI n0 D Y z fin) args s 0 0 (AA n0)) (F0 m 0 ls []) := by
  unfold fX12_dueIn at h
  refine lv_aload_n C.1 C.2.1 dX12_dueIn_0 rfl (lv_at hl 0 rfl) ?_
  refine lv_iload_n C.1 C.2.1 dX12_dueIn_1 rfl (lv_at hl 2 rfl) ?_
  obtain ⟨g3, h⟩ := gdE h
  obtain ⟨r2, e1, h⟩ := boE h
  refine r_afti hw (r_runV (As := [.int x2]) (rest := []) C hw (ki := 11) g3 (by decide) rfl (kX12_textIn l n0 D Y N x0 x2 z e1) (cwV 1 C.2.2.2.2.2.1 gX12_dueIn_X12_textIn rfl rfl rfl (by decide +kernel) ⟨(Nat.le_of_ble_eq_true rfl), (Nat.le_of_ble_eq_true rfl)⟩) rfl hl.1 rfl (Nat.le_of_ble_eq_true rfl) dX12_dueIn_2 ⟨(Nat.le_of_ble_eq_true rfl), (Nat.le_of_ble_eq_true rfl)⟩) (fun H locs hw => ?_)
  refine lv_istore_n (i := 3) (lv' := [(3, .int r2), (0, .ref (n0 + x0)), (1, .int x1), (2, .int x2)]) C.1 C.2.1 dX12_dueIn_5 rfl hl (by decide) rfl (fun ls hl => ?_)
  refine lv_iload_n C.1 C.2.1 dX12_dueIn_6 rfl (lv_at hl 0 rfl) ?_
  refine lv_if_ge (tgt := 12) C.1 C.2.1 dX12_dueIn_7 (by decide) (fun c4 => ?_) (fun c4 => ?_)
  · replace h := brT h c4
    refine lv_aload_n C.1 C.2.1 dX12_dueIn_12 rfl (lv_at hl 1 rfl) ?_
    refine lv_iload_n C.1 C.2.1 dX12_dueIn_13 rfl (lv_at hl 3 rfl) ?_
    refine lv_iconst (v := (1 : Int32)) C.1 C.2.1 dX12_dueIn_14 (by decide) ?_
    refine lv_isub C.1 C.2.1 dX12_dueIn_15 ?_
    obtain ⟨r6, e5, h⟩ := boE h
    refine r_afti hw (r_runV (As := [.int (x2 - (1 : Int32))]) (rest := []) C hw (ki := 11) g3 (by decide) rfl (kX12_priceIn l n0 D Y N x0 (x2 - (1 : Int32)) z e5) (cwV 1 C.2.2.2.2.2.1 gX12_dueIn_X12_priceIn rfl rfl rfl (by decide +kernel) ⟨(Nat.le_of_ble_eq_true rfl), (Nat.le_of_ble_eq_true rfl)⟩) rfl hl.1 rfl (Nat.le_of_ble_eq_true rfl) dX12_dueIn_16 ⟨(Nat.le_of_ble_eq_true rfl), (Nat.le_of_ble_eq_true rfl)⟩) (fun H locs hw => ?_)
    refine lv_istore (i := 4) (lv' := [(4, .int r6), (3, .int r2), (0, .ref (n0 + x0)), (1, .int x1), (2, .int x2)]) C.1 C.2.1 dX12_dueIn_19 hl (by decide) rfl (fun ls hl => ?_)
    refine lv_iconst (v := (-1 : Int32)) C.1 C.2.1 dX12_dueIn_21 (by decide) ?_
    refine lv_istore (i := 5) (lv' := [(5, .int (-1 : Int32)), (4, .int r6), (3, .int r2), (0, .ref (n0 + x0)), (1, .int x1), (2, .int x2)]) C.1 C.2.1 dX12_dueIn_22 hl (by decide) rfl (fun ls hl => ?_)
    refine lv_bipush (v := (8 : Int32)) C.1 C.2.1 dX12_dueIn_24 (by decide) ?_
    refine lv_iload_n C.1 C.2.1 dX12_dueIn_26 rfl (lv_at hl 2 rfl) ?_
    refine lv_imul C.1 C.2.1 dX12_dueIn_27 ?_
    obtain ⟨v7, e8, h⟩ := bdE h
    refine r_topi e8 ?_
    refine lv_istore (i := 6) (lv' := [(6, .int v7), (5, .int (-1 : Int32)), (4, .int r6), (3, .int r2), (0, .ref (n0 + x0)), (1, .int x1), (2, .int x2)]) C.1 C.2.1 dX12_dueIn_28 hl (by decide) rfl (fun ls hl => ?_)
    exact lX12_dueIn_30 C _ _ h hF _ _ _ hw (lv_sub hl [4, 5, 3, 2, 1, 0] rfl)
  · replace h := brF h c4
    refine lv_iconst (v := (0 : Int32)) C.1 C.2.1 dX12_dueIn_10 (by decide) ?_
    cases h
    replace hF : _ = fin := hF
    subst hF
    exact r_iret C hw dX12_dueIn_11
set_option maxRecDepth 100000 in
theorem kX12_dueIn (l : Launch) (n0 : Nat) (D : va_G) (Y : Nat → ClassId) (N : Nat) (x0 : Nat) (x1 : Int32) (x2 : Int32) (z : Hp) {r : Int32} (h : fX12_dueIn N x0 x1 x2 z = some r) : Met l yX12_dueIn wsX12_dueIn rmX12_dueIn (PreC n0 D Y z [.ref (n0 + x0), .int x1, .int x2]) (PosI n0 D Y z r) 0 0 (AA n0) := by
  refine Met.ofW (cc := cX12_dueIn) (maxL := 7) (ret := (some .int)) (by decide) rfl ?_
  intro p e s m args below meth c s₁ B hml hv
  obtain ⟨rfl, hR, hK⟩ := hv
  have C : Cx n0 D Y RX12 cX12_dueIn (some .int) 7 wsX12_dueIn "dueIn" p s m ([.ref (n0 + x0), .int x1, .int x2] : List Value).toArray meth c := ⟨B.exec, B.bytes, B.returns, hml, findClass_of_methodNamed B.named, atoms_spec (ws := wsX12_dueIn) B.pre, B.notSynchronized, (name_of_methodNamed B.named B.method).1, hK⟩
  have hl := lv_entry ([.ref (n0 + x0), .int x1, .int x2]) (n := 7) (Nat.le_of_ble_eq_true rfl)
  rw [lg_entry_eq]
  generalize (lg_sl ([.ref (n0 + x0), .int x1, .int x2]) ++ List.replicate (7 - (lg_sl ([.ref (n0 + x0), .int x1, .int x2])).length) Slot.unset).toArray = ls at hl ⊢
  have hl : lv_has ls 7 [(0, .ref (n0 + x0)), (1, .int x1), (2, .int x2)] := hl
  exact tX12_dueIn_0 C h rfl ⟨hR, va_S.rf⟩ hl
theorem in_X12_due_X12 : ∀ w ∈ wsX120, w ∈ wsX12_due := by decide +kernel
abbrev rmX12_due : Room := { frames := 2, cells := 0, slots := 0, locals := 53 }
noncomputable def fX12_due (N : Nat) (x0 : Nat) (x1 : Int32) (x2 : Int32) (z : Hp) : Option (Int32) := gd (x0 < zn z ∧ zK z x0 = 11) <| bo (fX12_in N (Int32.toInt64 x2) (0 : Int64) (Int32.toInt64 (zF z 704 x0)) z) fun r3 => br (r3 = 0) (some (-1 : Int32)) (bo (fX12_in N (Int32.toInt64 x1) (0 : Int64) (2 : Int64) z) fun r6 => br (r6 = 0) (some (-2 : Int32)) (bo (fX12_dueIn N x0 x1 x2 z) fun r9 => some r9))
set_option maxHeartbeats 4000000 in
set_option maxRecDepth 100000 in
theorem tX12_due_0 {n0 : Nat} {D : va_G} {Y : Nat → ClassId} {p : Program} {l : Launch} {e : Env} {s : State} {m : MethodId} {args : Array Value} {below : List Frame} {meth : Method} {c : Code} {N : Nat} {fin : Int32} {x0 : Nat} {x1 : Int32} {x2 : Int32}  {z : Hp} (C : Cx n0 D Y RX12 cX12_due (some .int) 3 wsX12_due "due" p s m args meth c) {x : (Int32)} (h : fX12_due N x0 x1 x2  z = some x) (hF : (fun x => x = fin) x) {H : Heap} {locs : List Loc} {ls : Array Slot} (hw : Wd n0 D Y z s H locs) (hl : lv_has ls 3 [(0, .ref (n0 + x0)), (1, .int x1), (2, .int x2)]) : W p l e rmX12_due s m args below meth c H locs 0 0 (MQ below (PosI n0 D Y z fin) args s 0 0 (AA n0)) (F0 m 0 ls []) := by
  unfold fX12_due at h
  refine lv_iload_n C.1 C.2.1 dX12_due_0 rfl (lv_at hl 2 rfl) ?_
  refine lv_i2l C.1 C.2.1 dX12_due_1 rfl ?_
  refine lv_lconst (v := (0 : Int64)) C.1 C.2.1 dX12_due_2 (by decide) ?_
  refine lv_aload_n C.1 C.2.1 dX12_due_3 rfl (lv_at hl 0 rfl) ?_
  obtain ⟨g1, h⟩ := gdE h
  refine r_get (v := .int (zF z 704 x0)) C hw g1 (by decide) (Cn := RX12) (T := TX12) (N := 50) rfl in_X12_due_X12 0 (by decide) (by decide +kernel) (fun _ h => h) rfl dX12_due_4 ?_
  refine lv_i2l C.1 C.2.1 dX12_due_7 rfl ?_
  obtain ⟨r3, e2, h⟩ := boE h
  refine r_afti hw (r_runS (As := [.long (Int32.toInt64 x2), .long (0 : Int64), .long (Int32.toInt64 (zF z 704 x0))]) (rest := []) C hw (kX12_in l n0 D Y N (Int32.toInt64 x2) (0 : Int64) (Int32.toInt64 (zF z 704 x0)) z e2) (va_cwS 3 C.2.2.2.2.2.1 gX12_due_X12_in rfl rfl rfl (by decide +kernel) ⟨(Nat.le_of_ble_eq_true rfl), (Nat.le_of_ble_eq_true rfl)⟩) rfl hl.1 rfl (Nat.le_of_ble_eq_true rfl) dX12_due_8 ⟨(Nat.le_of_ble_eq_true rfl), (Nat.le_of_ble_eq_true rfl)⟩) (fun H locs hw => ?_)
  refine lv_if_ne (tgt := 16) C.1 C.2.1 dX12_due_11 (by decide) (fun c4 => ?_) (fun c4 => ?_)
  · replace h := brF h c4
    refine lv_iload_n C.1 C.2.1 dX12_due_16 rfl (lv_at hl 1 rfl) ?_
    refine lv_i2l C.1 C.2.1 dX12_due_17 rfl ?_
    refine lv_lconst (v := (0 : Int64)) C.1 C.2.1 dX12_due_18 (by decide) ?_
    refine lv_ldc2 (v := (2 : Int64)) C.1 C.2.1 C.2.2.2.2.1 (C.2.2.2.2.2.1 (.constantLong RX12 180 (2 : Int64)) (by decide +kernel)) dX12_due_19 ?_
    obtain ⟨r6, e5, h⟩ := boE h
    refine r_afti hw (r_runS (As := [.long (Int32.toInt64 x1), .long (0 : Int64), .long (2 : Int64)]) (rest := []) C hw (kX12_in l n0 D Y N (Int32.toInt64 x1) (0 : Int64) (2 : Int64) z e5) (va_cwS 3 C.2.2.2.2.2.1 gX12_due_X12_in rfl rfl rfl (by decide +kernel) ⟨(Nat.le_of_ble_eq_true rfl), (Nat.le_of_ble_eq_true rfl)⟩) rfl hl.1 rfl (Nat.le_of_ble_eq_true rfl) dX12_due_22 ⟨(Nat.le_of_ble_eq_true rfl), (Nat.le_of_ble_eq_true rfl)⟩) (fun H locs hw => ?_)
    refine lv_if_eq (tgt := 37) C.1 C.2.1 dX12_due_25 (by decide) (fun c7 => ?_) (fun c7 => ?_)
    · replace h := brT h c7
      refine lv_bipush (v := (-2 : Int32)) C.1 C.2.1 dX12_due_37 (by decide) ?_
      cases h
      replace hF : _ = fin := hF
      subst hF
      exact r_iret C hw dX12_due_39
    · replace h := brF h c7
      refine lv_aload_n C.1 C.2.1 dX12_due_28 rfl (lv_at hl 0 rfl) ?_
      refine lv_iload_n C.1 C.2.1 dX12_due_29 rfl (lv_at hl 1 rfl) ?_
      refine lv_iload_n C.1 C.2.1 dX12_due_30 rfl (lv_at hl 2 rfl) ?_
      obtain ⟨r9, e8, h⟩ := boE h
      refine r_afti hw (r_runV (As := [.int x1, .int x2]) (rest := []) C hw (ki := 11) g1 (by decide) rfl (kX12_dueIn l n0 D Y N x0 x1 x2 z e8) (cwV 2 C.2.2.2.2.2.1 gX12_due_X12_dueIn rfl rfl rfl (by decide +kernel) ⟨(Nat.le_of_ble_eq_true rfl), (Nat.le_of_ble_eq_true rfl)⟩) rfl hl.1 rfl (Nat.le_of_ble_eq_true rfl) dX12_due_31 ⟨(Nat.le_of_ble_eq_true rfl), (Nat.le_of_ble_eq_true rfl)⟩) (fun H locs hw => ?_)
      refine lv_goto (tgt := 39) C.1 C.2.1 dX12_due_34 (by decide) ?_
      cases h
      replace hF : _ = fin := hF
      subst hF
      exact r_iret C hw dX12_due_39
  · replace h := brT h c4
    refine lv_iconst (v := (-1 : Int32)) C.1 C.2.1 dX12_due_14 (by decide) ?_
    cases h
    replace hF : _ = fin := hF
    subst hF
    exact r_iret C hw dX12_due_15
set_option maxRecDepth 100000 in
theorem kX12_due (l : Launch) (n0 : Nat) (D : va_G) (Y : Nat → ClassId) (N : Nat) (x0 : Nat) (x1 : Int32) (x2 : Int32) (z : Hp) {r : Int32} (h : fX12_due N x0 x1 x2 z = some r) : Met l yX12_due wsX12_due rmX12_due (PreC n0 D Y z [.ref (n0 + x0), .int x1, .int x2]) (PosI n0 D Y z r) 0 0 (AA n0) := by
  refine Met.ofW (cc := cX12_due) (maxL := 3) (ret := (some .int)) (by decide) rfl ?_
  intro p e s m args below meth c s₁ B hml hv
  obtain ⟨rfl, hR, hK⟩ := hv
  have C : Cx n0 D Y RX12 cX12_due (some .int) 3 wsX12_due "due" p s m ([.ref (n0 + x0), .int x1, .int x2] : List Value).toArray meth c := ⟨B.exec, B.bytes, B.returns, hml, findClass_of_methodNamed B.named, atoms_spec (ws := wsX12_due) B.pre, B.notSynchronized, (name_of_methodNamed B.named B.method).1, hK⟩
  have hl := lv_entry ([.ref (n0 + x0), .int x1, .int x2]) (n := 3) (Nat.le_of_ble_eq_true rfl)
  rw [lg_entry_eq]
  generalize (lg_sl ([.ref (n0 + x0), .int x1, .int x2]) ++ List.replicate (3 - (lg_sl ([.ref (n0 + x0), .int x1, .int x2])).length) Slot.unset).toArray = ls at hl ⊢
  have hl : lv_has ls 3 [(0, .ref (n0 + x0)), (1, .int x1), (2, .int x2)] := hl
  exact tX12_due_0 C h rfl ⟨hR, va_S.rf⟩ hl
theorem in_X12_flourOf_X12 : ∀ w ∈ wsX120, w ∈ wsX12_flourOf := by decide +kernel
abbrev rmX12_flourOf : Room := { frames := 0, cells := 0, slots := 0, locals := 0 }
noncomputable def fX12_flourOf_43 (N : Nat) (x0 : Nat) (x1 : Int32) (x3 : Int32) (s0 : Int32) (s1 : Int32) (z : Hp) : Option ((Int32 × Int32) ⊕ (Int32)) := bd (s1 + s0) fun v1 => bd (x3 + (1 : Int32)) fun v3 => some (.inl (v1, v3))
set_option maxHeartbeats 4000000 in
set_option maxRecDepth 100000 in
theorem tX12_flourOf_43 {n0 : Nat} {D : va_G} {Y : Nat → ClassId} {p : Program} {l : Launch} {e : Env} {s : State} {m : MethodId} {args : Array Value} {below : List Frame} {meth : Method} {c : Code} {N : Nat} {fin : Int32} {x0 : Nat} {x1 : Int32} {x3 : Int32} {s0 : Int32} {s1 : Int32} {z : Hp} (C : Cx n0 D Y RX12 cX12_flourOf (some .int) 4 wsX12_flourOf "flourOf" p s m args meth c) {P4 : Int32 × Int32 → Prop} (hP4 : ∀ u, P4 u → ∀ (H : Heap) (locs : List Loc) (ls : Array Slot), Wd n0 D Y z s H locs → lv_has ls 4 [(0, .ref (n0 + x0)), (1, .int x1), (2, .int u.1), (3, .int u.2)] → W p l e rmX12_flourOf s m args below meth c H locs 0 0 (MQ below (PosI n0 D Y z fin) args s 0 0 (AA n0)) (F0 m 4 ls [])) {x : ((Int32 × Int32) ⊕ (Int32))} (h : fX12_flourOf_43 N x0 x1 x3 s0 s1 z = some x) (hF : (Fn P4 (fun x => x = fin)) x) {H : Heap} {locs : List Loc} {ls : Array Slot} (hw : Wd n0 D Y z s H locs) (hl : lv_has ls 4 [(0, .ref (n0 + x0)), (1, .int x1), (3, .int x3)]) : W p l e rmX12_flourOf s m args below meth c H locs 0 0 (MQ below (PosI n0 D Y z fin) args s 0 0 (AA n0)) (F0 m 43 ls [.int s0, .int s1]) := by
  unfold fX12_flourOf_43 at h
  refine lv_iadd C.1 C.2.1 dX12_flourOf_43 ?_
  obtain ⟨v1, e2, h⟩ := bdE h
  refine r_topi e2 ?_
  refine lv_istore_n (i := 2) (lv' := [(2, .int v1), (0, .ref (n0 + x0)), (1, .int x1), (3, .int x3)]) C.1 C.2.1 dX12_flourOf_44 rfl hl (by decide) rfl (fun ls hl => ?_)
  obtain ⟨v3, e4, h⟩ := bdE h
  refine lv_iinc (v := v3) (lv' := [(3, .int v3), (2, .int v1), (0, .ref (n0 + x0)), (1, .int x1)]) C.1 C.2.1 dX12_flourOf_45 hl (k := 3) rfl (by rw [e4]; rfl) (by decide) rfl (fun ls hl => ?_)
  refine lv_goto (tgt := 4) C.1 C.2.1 dX12_flourOf_48 (by decide) ?_
  cases h
  exact hP4 _ hF _ _ _ hw (lv_sub hl [2, 3, 1, 0] rfl)
noncomputable def fX12_flourOf_42 (N : Nat) (x0 : Nat) (x1 : Int32) (x3 : Int32) (s0 : Int32) (z : Hp) : Option ((Int32 × Int32) ⊕ (Int32)) := fX12_flourOf_43 N x0 x1 x3 (0 : Int32) s0 z
set_option maxHeartbeats 4000000 in
set_option maxRecDepth 100000 in
theorem tX12_flourOf_42 {n0 : Nat} {D : va_G} {Y : Nat → ClassId} {p : Program} {l : Launch} {e : Env} {s : State} {m : MethodId} {args : Array Value} {below : List Frame} {meth : Method} {c : Code} {N : Nat} {fin : Int32} {x0 : Nat} {x1 : Int32} {x3 : Int32} {s0 : Int32} {z : Hp} (C : Cx n0 D Y RX12 cX12_flourOf (some .int) 4 wsX12_flourOf "flourOf" p s m args meth c) {P4 : Int32 × Int32 → Prop} (hP4 : ∀ u, P4 u → ∀ (H : Heap) (locs : List Loc) (ls : Array Slot), Wd n0 D Y z s H locs → lv_has ls 4 [(0, .ref (n0 + x0)), (1, .int x1), (2, .int u.1), (3, .int u.2)] → W p l e rmX12_flourOf s m args below meth c H locs 0 0 (MQ below (PosI n0 D Y z fin) args s 0 0 (AA n0)) (F0 m 4 ls [])) {x : ((Int32 × Int32) ⊕ (Int32))} (h : fX12_flourOf_42 N x0 x1 x3 s0 z = some x) (hF : (Fn P4 (fun x => x = fin)) x) {H : Heap} {locs : List Loc} {ls : Array Slot} (hw : Wd n0 D Y z s H locs) (hl : lv_has ls 4 [(0, .ref (n0 + x0)), (1, .int x1), (3, .int x3)]) : W p l e rmX12_flourOf s m args below meth c H locs 0 0 (MQ below (PosI n0 D Y z fin) args s 0 0 (AA n0)) (F0 m 42 ls [.int s0]) := by
  unfold fX12_flourOf_42 at h
  refine lv_iconst (v := (0 : Int32)) C.1 C.2.1 dX12_flourOf_42 (by decide) ?_
  exact tX12_flourOf_43 C hP4 h hF hw (lv_sub hl [0, 1, 2] rfl)
noncomputable def fX12_flourOf_4 (N : Nat) (x0 : Nat) (x1 : Int32) (x2 : Int32) (x3 : Int32) (z : Hp) : Option ((Int32 × Int32) ⊕ (Int32)) := gd (x0 < zn z ∧ zK z x0 = 11) <| br ((zF z 711 x0) ≤ x3) (lf <| some x2) (bo (zG z 707 x0) fun b5 => gd (b5 < zn z ∧ zK z b5 = 12) <| gd (¬ (x3 < 0 ∨ zL z b5 ≤ (x3).toNatClampNeg)) <| br ((zA z b5 (x3).toNatClampNeg) = (1 : Int32)) (bo (zG z 710 x0) fun b10 => gd (b10 < zn z ∧ zK z b10 = 12) <| gd (¬ (x3 < 0 ∨ zL z b10 ≤ (x3).toNatClampNeg)) <| br ((zA z b10 (x3).toNatClampNeg) = x1) (bo (zG z 715 x0) fun b15 => gd (b15 < zn z ∧ zK z b15 = 12) <| gd (¬ (x3 < 0 ∨ zL z b15 ≤ (x3).toNatClampNeg)) <| fX12_flourOf_43 N x0 x1 x3 (zA z b15 (x3).toNatClampNeg) x2 z) (fX12_flourOf_42 N x0 x1 x3 x2 z)) (fX12_flourOf_42 N x0 x1 x3 x2 z))
set_option maxHeartbeats 4000000 in
set_option maxRecDepth 100000 in
theorem tX12_flourOf_4 {n0 : Nat} {D : va_G} {Y : Nat → ClassId} {p : Program} {l : Launch} {e : Env} {s : State} {m : MethodId} {args : Array Value} {below : List Frame} {meth : Method} {c : Code} {N : Nat} {fin : Int32} {x0 : Nat} {x1 : Int32} {x2 : Int32} {x3 : Int32}  {z : Hp} (C : Cx n0 D Y RX12 cX12_flourOf (some .int) 4 wsX12_flourOf "flourOf" p s m args meth c) {P4 : Int32 × Int32 → Prop} (hP4 : ∀ u, P4 u → ∀ (H : Heap) (locs : List Loc) (ls : Array Slot), Wd n0 D Y z s H locs → lv_has ls 4 [(0, .ref (n0 + x0)), (1, .int x1), (2, .int u.1), (3, .int u.2)] → W p l e rmX12_flourOf s m args below meth c H locs 0 0 (MQ below (PosI n0 D Y z fin) args s 0 0 (AA n0)) (F0 m 4 ls [])) {x : ((Int32 × Int32) ⊕ (Int32))} (h : fX12_flourOf_4 N x0 x1 x2 x3  z = some x) (hF : (Fn P4 (fun x => x = fin)) x) {H : Heap} {locs : List Loc} {ls : Array Slot} (hw : Wd n0 D Y z s H locs) (hl : lv_has ls 4 [(0, .ref (n0 + x0)), (1, .int x1), (2, .int x2), (3, .int x3)]) : W p l e rmX12_flourOf s m args below meth c H locs 0 0 (MQ below (PosI n0 D Y z fin) args s 0 0 (AA n0)) (F0 m 4 ls []) := by
  unfold fX12_flourOf_4 at h
  refine lv_iload_n C.1 C.2.1 dX12_flourOf_4 rfl (lv_at hl 3 rfl) ?_
  refine lv_aload_n C.1 C.2.1 dX12_flourOf_5 rfl (lv_at hl 0 rfl) ?_
  obtain ⟨g1, h⟩ := gdE h
  refine r_get (v := .int (zF z 711 x0)) C hw g1 (by decide) (Cn := RX12) (T := TX12) (N := 50) rfl in_X12_flourOf_X12 7 (by decide) (by decide +kernel) (fun _ h => h) rfl dX12_flourOf_6 ?_
  refine lv_icmp_ge (tgt := 51) C.1 C.2.1 dX12_flourOf_9 (by decide) (fun c2 => ?_) (fun c2 => ?_)
  · replace h := brT h c2
    obtain ⟨y3, h, hF⟩ := lfX h hF
    refine lv_iload_n C.1 C.2.1 dX12_flourOf_51 rfl (lv_at hl 2 rfl) ?_
    cases h
    replace hF : _ = fin := hF
    subst hF
    exact r_iret C hw dX12_flourOf_52
  · replace h := brF h c2
    refine lv_iload_n C.1 C.2.1 dX12_flourOf_12 rfl (lv_at hl 2 rfl) ?_
    refine lv_aload_n C.1 C.2.1 dX12_flourOf_13 rfl (lv_at hl 0 rfl) ?_
    refine r_get (v := rv n0 (zG z 707 x0)) C hw g1 (by decide) (Cn := RX12) (T := TX12) (N := 50) rfl in_X12_flourOf_X12 3 (by decide) (by decide +kernel) (fun _ h => h) rfl dX12_flourOf_14 ?_
    obtain ⟨b5, e4, h⟩ := boE h
    refine r_topr e4 ?_
    refine lv_iload_n C.1 C.2.1 dX12_flourOf_17 rfl (lv_at hl 3 rfl) ?_
    obtain ⟨g6, h⟩ := gdE h
    obtain ⟨i7, h⟩ := gdE h
    refine r_iald C hw g6 i7 dX12_flourOf_18 ?_
    refine lv_iconst (v := (1 : Int32)) C.1 C.2.1 dX12_flourOf_19 (by decide) ?_
    refine lv_icmp_ne (tgt := 42) C.1 C.2.1 dX12_flourOf_20 (by decide) (fun c8 => ?_) (fun c8 => ?_)
    · replace h := brF h c8
      exact tX12_flourOf_42 C hP4 h hF hw (lv_sub hl [0, 1, 3] rfl)
    · replace h := brT h c8
      refine lv_aload_n C.1 C.2.1 dX12_flourOf_23 rfl (lv_at hl 0 rfl) ?_
      refine r_get (v := rv n0 (zG z 710 x0)) C hw g1 (by decide) (Cn := RX12) (T := TX12) (N := 50) rfl in_X12_flourOf_X12 6 (by decide) (by decide +kernel) (fun _ h => h) rfl dX12_flourOf_24 ?_
      obtain ⟨b10, e9, h⟩ := boE h
      refine r_topr e9 ?_
      refine lv_iload_n C.1 C.2.1 dX12_flourOf_27 rfl (lv_at hl 3 rfl) ?_
      obtain ⟨g11, h⟩ := gdE h
      obtain ⟨i12, h⟩ := gdE h
      refine r_iald C hw g11 i12 dX12_flourOf_28 ?_
      refine lv_iload_n C.1 C.2.1 dX12_flourOf_29 rfl (lv_at hl 1 rfl) ?_
      refine lv_icmp_ne (tgt := 42) C.1 C.2.1 dX12_flourOf_30 (by decide) (fun c13 => ?_) (fun c13 => ?_)
      · replace h := brF h c13
        exact tX12_flourOf_42 C hP4 h hF hw (lv_sub hl [0, 1, 3] rfl)
      · replace h := brT h c13
        refine lv_aload_n C.1 C.2.1 dX12_flourOf_33 rfl (lv_at hl 0 rfl) ?_
        refine r_get (v := rv n0 (zG z 715 x0)) C hw g1 (by decide) (Cn := RX12) (T := TX12) (N := 50) rfl in_X12_flourOf_X12 11 (by decide) (by decide +kernel) (fun _ h => h) rfl dX12_flourOf_34 ?_
        obtain ⟨b15, e14, h⟩ := boE h
        refine r_topr e14 ?_
        refine lv_iload_n C.1 C.2.1 dX12_flourOf_37 rfl (lv_at hl 3 rfl) ?_
        obtain ⟨g16, h⟩ := gdE h
        obtain ⟨i17, h⟩ := gdE h
        refine r_iald C hw g16 i17 dX12_flourOf_38 ?_
        refine lv_goto (tgt := 43) C.1 C.2.1 dX12_flourOf_39 (by decide) ?_
        exact tX12_flourOf_43 C hP4 h hF hw (lv_sub hl [0, 1, 3] rfl)
set_option maxHeartbeats 4000000 in
set_option maxRecDepth 100000 in
theorem lX12_flourOf_4 {n0 : Nat} {D : va_G} {Y : Nat → ClassId} {p : Program} {l : Launch} {e : Env} {s : State} {m : MethodId} {args : Array Value} {below : List Frame} {meth : Method} {c : Code} {N : Nat} {fin : Int32} {x0 : Nat} {x1 : Int32} {z : Hp} (C : Cx n0 D Y RX12 cX12_flourOf (some .int) 4 wsX12_flourOf "flourOf" p s m args meth c) {x : (Int32)} : ∀ (n : Nat) (u : Int32 × Int32), wh (fun (u : Int32 × Int32) => fX12_flourOf_4 N x0 x1 u.1 u.2 z) n u = some x → (fun x => x = fin) x → ∀ (H : Heap) (locs : List Loc) (ls : Array Slot), Wd n0 D Y z s H locs → lv_has ls 4 [(0, .ref (n0 + x0)), (1, .int x1), (2, .int u.1), (3, .int u.2)] → W p l e rmX12_flourOf s m args below meth c H locs 0 0 (MQ below (PosI n0 D Y z fin) args s 0 0 (AA n0)) (F0 m 4 ls []) := fun n u h g => wh_ind (P := fun u => ∀ (H : Heap) (locs : List Loc) (ls : Array Slot), Wd n0 D Y z s H locs → lv_has ls 4 [(0, .ref (n0 + x0)), (1, .int x1), (2, .int u.1), (3, .int u.2)] → W p l e rmX12_flourOf s m args below meth c H locs 0 0 (MQ below (PosI n0 D Y z fin) args s 0 0 (AA n0)) (F0 m 4 ls [])) (G := (fun x => x = fin)) (fun u x h hF H locs ls hw hl => tX12_flourOf_4 C (P4 := fun u => ∀ (H : Heap) (locs : List Loc) (ls : Array Slot), Wd n0 D Y z s H locs → lv_has ls 4 [(0, .ref (n0 + x0)), (1, .int x1), (2, .int u.1), (3, .int u.2)] → W p l e rmX12_flourOf s m args below meth c H locs 0 0 (MQ below (PosI n0 D Y z fin) args s 0 0 (AA n0)) (F0 m 4 ls [])) (fun _ h => h) h hF hw hl) n u x h g
noncomputable def fX12_flourOf (N : Nat) (x0 : Nat) (x1 : Int32) (z : Hp) : Option (Int32) := wh (fun (u : Int32 × Int32) => fX12_flourOf_4 N x0 x1 u.1 u.2 z) N ((0 : Int32), (0 : Int32))
set_option maxHeartbeats 4000000 in
set_option maxRecDepth 100000 in
theorem tX12_flourOf_0 {n0 : Nat} {D : va_G} {Y : Nat → ClassId} {p : Program} {l : Launch} {e : Env} {s : State} {m : MethodId} {args : Array Value} {below : List Frame} {meth : Method} {c : Code} {N : Nat} {fin : Int32} {x0 : Nat} {x1 : Int32}  {z : Hp} (C : Cx n0 D Y RX12 cX12_flourOf (some .int) 4 wsX12_flourOf "flourOf" p s m args meth c) {x : (Int32)} (h : fX12_flourOf N x0 x1  z = some x) (hF : (fun x => x = fin) x) {H : Heap} {locs : List Loc} {ls : Array Slot} (hw : Wd n0 D Y z s H locs) (hl : lv_has ls 4 [(0, .ref (n0 + x0)), (1, .int x1)]) : W p l e rmX12_flourOf s m args below meth c H locs 0 0 (MQ below (PosI n0 D Y z fin) args s 0 0 (AA n0)) (F0 m 0 ls []) := by
  unfold fX12_flourOf at h
  refine lv_iconst (v := (0 : Int32)) C.1 C.2.1 dX12_flourOf_0 (by decide) ?_
  refine lv_istore_n (i := 2) (lv' := [(2, .int (0 : Int32)), (0, .ref (n0 + x0)), (1, .int x1)]) C.1 C.2.1 dX12_flourOf_1 rfl hl (by decide) rfl (fun ls hl => ?_)
  refine lv_iconst (v := (0 : Int32)) C.1 C.2.1 dX12_flourOf_2 (by decide) ?_
  refine lv_istore_n (i := 3) (lv' := [(3, .int (0 : Int32)), (2, .int (0 : Int32)), (0, .ref (n0 + x0)), (1, .int x1)]) C.1 C.2.1 dX12_flourOf_3 rfl hl (by decide) rfl (fun ls hl => ?_)
  exact lX12_flourOf_4 C _ _ h hF _ _ _ hw (lv_sub hl [2, 3, 1, 0] rfl)
set_option maxRecDepth 100000 in
theorem kX12_flourOf (l : Launch) (n0 : Nat) (D : va_G) (Y : Nat → ClassId) (N : Nat) (x0 : Nat) (x1 : Int32) (z : Hp) {r : Int32} (h : fX12_flourOf N x0 x1 z = some r) : Met l yX12_flourOf wsX12_flourOf rmX12_flourOf (PreC n0 D Y z [.ref (n0 + x0), .int x1]) (PosI n0 D Y z r) 0 0 (AA n0) := by
  refine Met.ofW (cc := cX12_flourOf) (maxL := 4) (ret := (some .int)) (by decide) rfl ?_
  intro p e s m args below meth c s₁ B hml hv
  obtain ⟨rfl, hR, hK⟩ := hv
  have C : Cx n0 D Y RX12 cX12_flourOf (some .int) 4 wsX12_flourOf "flourOf" p s m ([.ref (n0 + x0), .int x1] : List Value).toArray meth c := ⟨B.exec, B.bytes, B.returns, hml, findClass_of_methodNamed B.named, atoms_spec (ws := wsX12_flourOf) B.pre, B.notSynchronized, (name_of_methodNamed B.named B.method).1, hK⟩
  have hl := lv_entry ([.ref (n0 + x0), .int x1]) (n := 4) (Nat.le_of_ble_eq_true rfl)
  rw [lg_entry_eq]
  generalize (lg_sl ([.ref (n0 + x0), .int x1]) ++ List.replicate (4 - (lg_sl ([.ref (n0 + x0), .int x1])).length) Slot.unset).toArray = ls at hl ⊢
  have hl : lv_has ls 4 [(0, .ref (n0 + x0)), (1, .int x1)] := hl
  exact tX12_flourOf_0 C h rfl ⟨hR, va_S.rf⟩ hl
theorem in_X12_bake_X12 : ∀ w ∈ wsX120, w ∈ wsX12_bake := by decide +kernel
abbrev rmX12_bake : Room := { frames := 2, cells := 0, slots := 0, locals := 46 }
noncomputable def fX12_bake_47 (N : Nat) (x0 : Nat) (z : Hp) : Option (Int32 × Hp) := some ((-2 : Int32), z)
set_option maxHeartbeats 4000000 in
set_option maxRecDepth 100000 in
theorem tX12_bake_47 {n0 : Nat} {D : va_G} {Y : Nat → ClassId} {p : Program} {l : Launch} {e : Env} {s : State} {m : MethodId} {args : Array Value} {below : List Frame} {meth : Method} {c : Code} {N : Nat} {fin : Int32 × Hp} {x0 : Nat}  {z : Hp} (C : Cx n0 D Y RX12 cX12_bake (some .int) 10 wsX12_bake "bake" p s m args meth c) {x : (Int32 × Hp)} (h : fX12_bake_47 N x0  z = some x) (hF : (fun x => x = fin) x) {H : Heap} {locs : List Loc} {ls : Array Slot} (hw : Wd n0 D Y z s H locs) (hl : lv_has ls 10 [(0, .ref (n0 + x0))]) : W p l e rmX12_bake s m args below meth c H locs 0 0 (MQ below (PosI n0 D Y fin.2 fin.1) args s 0 0 (AA n0)) (F0 m 47 ls []) := by
  unfold fX12_bake_47 at h
  refine lv_bipush (v := (-2 : Int32)) C.1 C.2.1 dX12_bake_47 (by decide) ?_
  cases h
  replace hF : _ = fin := hF
  subst hF
  exact r_iret C hw dX12_bake_49
noncomputable def fX12_bake_264 (N : Nat) (x0 : Nat) (x1 : Int32) (x5 : Int32) (x6 : Int32) (x7 : Int32) (z : Hp) : Option ((Int32 × Int32 × Hp) ⊕ (Int32 × Hp)) := bd (x7 + (1 : Int32)) fun v1 => some (.inl (x5, v1, z))
set_option maxHeartbeats 4000000 in
set_option maxRecDepth 100000 in
theorem tX12_bake_264 {n0 : Nat} {D : va_G} {Y : Nat → ClassId} {p : Program} {l : Launch} {e : Env} {s : State} {m : MethodId} {args : Array Value} {below : List Frame} {meth : Method} {c : Code} {N : Nat} {fin : Int32 × Hp} {x0 : Nat} {x1 : Int32} {x5 : Int32} {x6 : Int32} {x7 : Int32}  {z : Hp} (C : Cx n0 D Y RX12 cX12_bake (some .int) 10 wsX12_bake "bake" p s m args meth c) {P143 : Int32 × Int32 × Hp → Prop} (hP143 : ∀ u, P143 u → ∀ (H : Heap) (locs : List Loc) (ls : Array Slot), Wd n0 D Y (u.2.2) s H locs → lv_has ls 10 [(0, .ref (n0 + x0)), (1, .int x1), (5, .int u.1), (6, .int x6), (7, .int u.2.1)] → W p l e rmX12_bake s m args below meth c H locs 0 0 (MQ below (PosI n0 D Y fin.2 fin.1) args s 0 0 (AA n0)) (F0 m 143 ls [])) {x : ((Int32 × Int32 × Hp) ⊕ (Int32 × Hp))} (h : fX12_bake_264 N x0 x1 x5 x6 x7  z = some x) (hF : (Fn P143 (fun x => x = fin)) x) {H : Heap} {locs : List Loc} {ls : Array Slot} (hw : Wd n0 D Y z s H locs) (hl : lv_has ls 10 [(0, .ref (n0 + x0)), (1, .int x1), (5, .int x5), (6, .int x6), (7, .int x7)]) : W p l e rmX12_bake s m args below meth c H locs 0 0 (MQ below (PosI n0 D Y fin.2 fin.1) args s 0 0 (AA n0)) (F0 m 264 ls []) := by
  unfold fX12_bake_264 at h
  obtain ⟨v1, e2, h⟩ := bdE h
  refine lv_iinc (v := v1) (lv' := [(7, .int v1), (0, .ref (n0 + x0)), (1, .int x1), (5, .int x5), (6, .int x6)]) C.1 C.2.1 dX12_bake_264 hl (k := 4) rfl (by rw [e2]; rfl) (by decide) rfl (fun ls hl => ?_)
  refine lv_goto (tgt := 143) C.1 C.2.1 dX12_bake_267 (by decide) ?_
  cases h
  exact hP143 _ hF _ _ _ hw (lv_sub hl [1, 2, 3, 4, 0] rfl)
noncomputable def fX12_bake_211 (N : Nat) (x0 : Nat) (x1 : Int32) (x5 : Int32) (x6 : Int32) (x7 : Int32) (x8 : Int32) (s0 : Int32) (z : Hp) : Option ((Int32 × Int32 × Hp) ⊕ (Int32 × Hp)) := gd (x0 < zn z ∧ zK z x0 = 11) <| bo (zG z 715 x0) fun b3 => gd (b3 < zn z ∧ zK z b3 = 12) <| gd (¬ (x8 < 0 ∨ zL z b3 ≤ (x8).toNatClampNeg)) <| gd (¬ (x8 < 0 ∨ zL z b3 ≤ Int32.toNatClampNeg x8)) <| bd (zsA z b3 (Int32.toNatClampNeg x8) ((zA z b3 (x8).toNatClampNeg) - s0)) fun z7 => bd (x5 - s0) fun v9 => bo (zG z7 725 x0) fun b13 => gd (b13 < zn z7 ∧ zK z7 b13 = 12) <| gd (¬ ((zF z7 727 x0) < 0 ∨ zL z7 b13 ≤ Int32.toNatClampNeg (zF z7 727 x0))) <| bd (zsA z7 b13 (Int32.toNatClampNeg (zF z7 727 x0)) x8) fun z16 => bo (zG z16 726 x0) fun b20 => gd (b20 < zn z16 ∧ zK z16 b20 = 12) <| gd (¬ ((zF z16 727 x0) < 0 ∨ zL z16 b20 ≤ Int32.toNatClampNeg (zF z16 727 x0))) <| bd (zsA z16 b20 (Int32.toNatClampNeg (zF z16 727 x0)) s0) fun z23 => bd (zsF z23 727 x0 ((zF z23 727 x0) + (1 : Int32))) fun z26 => fX12_bake_264 N x0 x1 v9 x6 x7 z26
set_option maxHeartbeats 4000000 in
set_option maxRecDepth 100000 in
theorem tX12_bake_211 {n0 : Nat} {D : va_G} {Y : Nat → ClassId} {p : Program} {l : Launch} {e : Env} {s : State} {m : MethodId} {args : Array Value} {below : List Frame} {meth : Method} {c : Code} {N : Nat} {fin : Int32 × Hp} {x0 : Nat} {x1 : Int32} {x5 : Int32} {x6 : Int32} {x7 : Int32} {x8 : Int32} {s0 : Int32} {z : Hp} (C : Cx n0 D Y RX12 cX12_bake (some .int) 10 wsX12_bake "bake" p s m args meth c) {P143 : Int32 × Int32 × Hp → Prop} (hP143 : ∀ u, P143 u → ∀ (H : Heap) (locs : List Loc) (ls : Array Slot), Wd n0 D Y (u.2.2) s H locs → lv_has ls 10 [(0, .ref (n0 + x0)), (1, .int x1), (5, .int u.1), (6, .int x6), (7, .int u.2.1)] → W p l e rmX12_bake s m args below meth c H locs 0 0 (MQ below (PosI n0 D Y fin.2 fin.1) args s 0 0 (AA n0)) (F0 m 143 ls [])) {x : ((Int32 × Int32 × Hp) ⊕ (Int32 × Hp))} (h : fX12_bake_211 N x0 x1 x5 x6 x7 x8 s0 z = some x) (hF : (Fn P143 (fun x => x = fin)) x) {H : Heap} {locs : List Loc} {ls : Array Slot} (hw : Wd n0 D Y z s H locs) (hl : lv_has ls 10 [(0, .ref (n0 + x0)), (1, .int x1), (5, .int x5), (6, .int x6), (7, .int x7), (8, .int x8)]) : W p l e rmX12_bake s m args below meth c H locs 0 0 (MQ below (PosI n0 D Y fin.2 fin.1) args s 0 0 (AA n0)) (F0 m 211 ls [.int s0]) := by
  unfold fX12_bake_211 at h
  refine lv_istore (i := 9) (lv' := [(9, .int s0), (0, .ref (n0 + x0)), (1, .int x1), (5, .int x5), (6, .int x6), (7, .int x7), (8, .int x8)]) C.1 C.2.1 dX12_bake_211 hl (by decide) rfl (fun ls hl => ?_)
  refine lv_aload_n C.1 C.2.1 dX12_bake_213 rfl (lv_at hl 1 rfl) ?_
  obtain ⟨g1, h⟩ := gdE h
  refine r_get (v := rv n0 (zG z 715 x0)) C hw g1 (by decide) (Cn := RX12) (T := TX12) (N := 50) rfl in_X12_bake_X12 11 (by decide) (by decide +kernel) (fun _ h => h) rfl dX12_bake_214 ?_
  obtain ⟨b3, e2, h⟩ := boE h
  refine r_topr e2 ?_
  refine lv_iload C.1 C.2.1 dX12_bake_217 (lv_at hl 6 rfl) ?_
  refine lv_dup2_11 C.1 C.2.1 dX12_bake_219 rfl rfl ?_
  obtain ⟨g4, h⟩ := gdE h
  obtain ⟨i5, h⟩ := gdE h
  refine r_iald C hw g4 i5 dX12_bake_220 ?_
  refine lv_iload C.1 C.2.1 dX12_bake_221 (lv_at hl 0 rfl) ?_
  refine lv_isub C.1 C.2.1 dX12_bake_223 ?_
  obtain ⟨i6, h⟩ := gdE h
  obtain ⟨z7, e8, h⟩ := bdE h
  refine r_iast C hw g4 i6 e8 dX12_bake_224 (fun H locs hw => ?_)
  refine lv_iload C.1 C.2.1 dX12_bake_225 (lv_at hl 3 rfl) ?_
  refine lv_iload C.1 C.2.1 dX12_bake_227 (lv_at hl 0 rfl) ?_
  refine lv_isub C.1 C.2.1 dX12_bake_229 ?_
  obtain ⟨v9, e10, h⟩ := bdE h
  refine r_topi e10 ?_
  refine lv_istore (i := 5) (lv' := [(5, .int v9), (9, .int s0), (0, .ref (n0 + x0)), (1, .int x1), (6, .int x6), (7, .int x7), (8, .int x8)]) C.1 C.2.1 dX12_bake_230 hl (by decide) rfl (fun ls hl => ?_)
  refine lv_aload_n C.1 C.2.1 dX12_bake_232 rfl (lv_at hl 2 rfl) ?_
  have g11 : x0 < zn z7 ∧ zK z7 x0 = 11 := by rw [e8]; exact g1
  refine r_get (v := rv n0 (zG z7 725 x0)) C hw g11 (by decide) (Cn := RX12) (T := TX12) (N := 50) rfl in_X12_bake_X12 21 (by decide) (by decide +kernel) (fun _ h => h) rfl dX12_bake_233 ?_
  obtain ⟨b13, e12, h⟩ := boE h
  refine r_topr e12 ?_
  refine lv_aload_n C.1 C.2.1 dX12_bake_236 rfl (lv_at hl 2 rfl) ?_
  refine r_get (v := .int (zF z7 727 x0)) C hw g11 (by decide) (Cn := RX12) (T := TX12) (N := 50) rfl in_X12_bake_X12 23 (by decide) (by decide +kernel) (fun _ h => h) rfl dX12_bake_237 ?_
  refine lv_iload C.1 C.2.1 dX12_bake_240 (lv_at hl 6 rfl) ?_
  obtain ⟨g14, h⟩ := gdE h
  obtain ⟨i15, h⟩ := gdE h
  obtain ⟨z16, e17, h⟩ := bdE h
  refine r_iast C hw g14 i15 e17 dX12_bake_242 (fun H locs hw => ?_)
  refine lv_aload_n C.1 C.2.1 dX12_bake_243 rfl (lv_at hl 2 rfl) ?_
  have g18 : x0 < zn z16 ∧ zK z16 x0 = 11 := by rw [e17]; exact g11
  refine r_get (v := rv n0 (zG z16 726 x0)) C hw g18 (by decide) (Cn := RX12) (T := TX12) (N := 50) rfl in_X12_bake_X12 22 (by decide) (by decide +kernel) (fun _ h => h) rfl dX12_bake_244 ?_
  obtain ⟨b20, e19, h⟩ := boE h
  refine r_topr e19 ?_
  refine lv_aload_n C.1 C.2.1 dX12_bake_247 rfl (lv_at hl 2 rfl) ?_
  refine r_get (v := .int (zF z16 727 x0)) C hw g18 (by decide) (Cn := RX12) (T := TX12) (N := 50) rfl in_X12_bake_X12 23 (by decide) (by decide +kernel) (fun _ h => h) rfl dX12_bake_248 ?_
  refine lv_iload C.1 C.2.1 dX12_bake_251 (lv_at hl 1 rfl) ?_
  obtain ⟨g21, h⟩ := gdE h
  obtain ⟨i22, h⟩ := gdE h
  obtain ⟨z23, e24, h⟩ := bdE h
  refine r_iast C hw g21 i22 e24 dX12_bake_253 (fun H locs hw => ?_)
  refine lv_aload_n C.1 C.2.1 dX12_bake_254 rfl (lv_at hl 2 rfl) ?_
  refine lv_dup C.1 C.2.1 dX12_bake_255 rfl ?_
  have g25 : x0 < zn z23 ∧ zK z23 x0 = 11 := by rw [e24]; exact g18
  refine r_get (v := .int (zF z23 727 x0)) C hw g25 (by decide) (Cn := RX12) (T := TX12) (N := 50) rfl in_X12_bake_X12 23 (by decide) (by decide +kernel) (fun _ h => h) rfl dX12_bake_256 ?_
  refine lv_iconst (v := (1 : Int32)) C.1 C.2.1 dX12_bake_259 (by decide) ?_
  refine lv_iadd C.1 C.2.1 dX12_bake_260 ?_
  obtain ⟨z26, e27, h⟩ := bdE h
  refine r_putI C hw g25 (by decide) (Cn := RX12) (T := TX12) (N := 50) rfl in_X12_bake_X12 tyX12 tyX12_ok nmX12 23 (by decide) (by decide +kernel) (fun _ h => h) (Or.inl rfl) (ty := .int) (by decide +kernel) rfl rfl (Nat.le_of_ble_eq_true rfl) (st_11_23 n0 z23 x0 ((zF z23 727 x0) + (1 : Int32))) e27 dX12_bake_261 (fun H locs hw => ?_)
  exact tX12_bake_264 C hP143 h hF hw (lv_sub hl [2, 3, 0, 4, 5] rfl)
noncomputable def fX12_bake_270 (N : Nat) (x0 : Nat) (x1 : Int32) (x6 : Int32) (z : Hp) : Option (Int32 × Hp) := gd (x0 < zn z ∧ zK z x0 = 11) <| bo (zG z 724 x0) fun b3 => bo (zG z 723 x0) fun b5 => gd (b5 < zn z ∧ zK z b5 = 12) <| gd (¬ (x6 < 0 ∨ zL z b5 ≤ (x6).toNatClampNeg)) <| gd (b3 < zn z ∧ zK z b3 = 12) <| gd (¬ (x6 < 0 ∨ zL z b3 ≤ Int32.toNatClampNeg x6)) <| bd (zsA z b3 (Int32.toNatClampNeg x6) ((zF z 727 x0) - (zA z b5 (x6).toNatClampNeg))) fun z10 => bo (zG z10 732 x0) fun b14 => gd (b14 < zn z10 ∧ zK z10 b14 = 12) <| gd (¬ (x1 < 0 ∨ zL z10 b14 ≤ Int32.toNatClampNeg x1)) <| bd (zsA z10 b14 (Int32.toNatClampNeg x1) x6) fun z17 => bp (fX12_enter N x0 (2 : Int32) x1 z17) fun r20 z21 => some (r20, z21)
set_option maxHeartbeats 4000000 in
set_option maxRecDepth 100000 in
theorem tX12_bake_270 {n0 : Nat} {D : va_G} {Y : Nat → ClassId} {p : Program} {l : Launch} {e : Env} {s : State} {m : MethodId} {args : Array Value} {below : List Frame} {meth : Method} {c : Code} {N : Nat} {fin : Int32 × Hp} {x0 : Nat} {x1 : Int32} {x6 : Int32}  {z : Hp} (C : Cx n0 D Y RX12 cX12_bake (some .int) 10 wsX12_bake "bake" p s m args meth c) {x : (Int32 × Hp)} (h : fX12_bake_270 N x0 x1 x6  z = some x) (hF : (fun x => x = fin) x) {H : Heap} {locs : List Loc} {ls : Array Slot} (hw : Wd n0 D Y z s H locs) (hl : lv_has ls 10 [(0, .ref (n0 + x0)), (1, .int x1), (6, .int x6)]) : W p l e rmX12_bake s m args below meth c H locs 0 0 (MQ below (PosI n0 D Y fin.2 fin.1) args s 0 0 (AA n0)) (F0 m 270 ls []) := by
  unfold fX12_bake_270 at h
  refine lv_aload_n C.1 C.2.1 dX12_bake_270 rfl (lv_at hl 0 rfl) ?_
  obtain ⟨g1, h⟩ := gdE h
  refine r_get (v := rv n0 (zG z 724 x0)) C hw g1 (by decide) (Cn := RX12) (T := TX12) (N := 50) rfl in_X12_bake_X12 20 (by decide) (by decide +kernel) (fun _ h => h) rfl dX12_bake_271 ?_
  obtain ⟨b3, e2, h⟩ := boE h
  refine r_topr e2 ?_
  refine lv_iload C.1 C.2.1 dX12_bake_274 (lv_at hl 2 rfl) ?_
  refine lv_aload_n C.1 C.2.1 dX12_bake_276 rfl (lv_at hl 0 rfl) ?_
  refine r_get (v := .int (zF z 727 x0)) C hw g1 (by decide) (Cn := RX12) (T := TX12) (N := 50) rfl in_X12_bake_X12 23 (by decide) (by decide +kernel) (fun _ h => h) rfl dX12_bake_277 ?_
  refine lv_aload_n C.1 C.2.1 dX12_bake_280 rfl (lv_at hl 0 rfl) ?_
  refine r_get (v := rv n0 (zG z 723 x0)) C hw g1 (by decide) (Cn := RX12) (T := TX12) (N := 50) rfl in_X12_bake_X12 19 (by decide) (by decide +kernel) (fun _ h => h) rfl dX12_bake_281 ?_
  obtain ⟨b5, e4, h⟩ := boE h
  refine r_topr e4 ?_
  refine lv_iload C.1 C.2.1 dX12_bake_284 (lv_at hl 2 rfl) ?_
  obtain ⟨g6, h⟩ := gdE h
  obtain ⟨i7, h⟩ := gdE h
  refine r_iald C hw g6 i7 dX12_bake_286 ?_
  refine lv_isub C.1 C.2.1 dX12_bake_287 ?_
  obtain ⟨g8, h⟩ := gdE h
  obtain ⟨i9, h⟩ := gdE h
  obtain ⟨z10, e11, h⟩ := bdE h
  refine r_iast C hw g8 i9 e11 dX12_bake_288 (fun H locs hw => ?_)
  refine lv_aload_n C.1 C.2.1 dX12_bake_289 rfl (lv_at hl 0 rfl) ?_
  have g12 : x0 < zn z10 ∧ zK z10 x0 = 11 := by rw [e11]; exact g1
  refine r_get (v := rv n0 (zG z10 732 x0)) C hw g12 (by decide) (Cn := RX12) (T := TX12) (N := 50) rfl in_X12_bake_X12 28 (by decide) (by decide +kernel) (fun _ h => h) rfl dX12_bake_290 ?_
  obtain ⟨b14, e13, h⟩ := boE h
  refine r_topr e13 ?_
  refine lv_iload_n C.1 C.2.1 dX12_bake_293 rfl (lv_at hl 1 rfl) ?_
  refine lv_iload C.1 C.2.1 dX12_bake_294 (lv_at hl 2 rfl) ?_
  obtain ⟨g15, h⟩ := gdE h
  obtain ⟨i16, h⟩ := gdE h
  obtain ⟨z17, e18, h⟩ := bdE h
  refine r_iast C hw g15 i16 e18 dX12_bake_296 (fun H locs hw => ?_)
  refine lv_aload_n C.1 C.2.1 dX12_bake_297 rfl (lv_at hl 0 rfl) ?_
  refine lv_iconst (v := (2 : Int32)) C.1 C.2.1 dX12_bake_298 (by decide) ?_
  refine lv_iload_n C.1 C.2.1 dX12_bake_299 rfl (lv_at hl 1 rfl) ?_
  obtain ⟨r20, z21, e19, h⟩ := bpE h
  have g22 : x0 < zn z17 ∧ zK z17 x0 = 11 := by rw [e18]; exact g12
  refine r_afti hw (r_runV (As := [.int (2 : Int32), .int x1]) (rest := []) C hw (ki := 11) g22 (by decide) rfl (kX12_enter l n0 D Y N x0 (2 : Int32) x1 z17 e19) (cwV 2 C.2.2.2.2.2.1 gX12_bake_X12_enter rfl rfl rfl (by decide +kernel) ⟨(Nat.le_of_ble_eq_true rfl), (Nat.le_of_ble_eq_true rfl)⟩) rfl hl.1 rfl (Nat.le_of_ble_eq_true rfl) dX12_bake_300 ⟨(Nat.le_of_ble_eq_true rfl), (Nat.le_of_ble_eq_true rfl)⟩) (fun H locs hw => ?_)
  cases h
  replace hF : _ = fin := hF
  subst hF
  exact r_iret C hw dX12_bake_303
noncomputable def fX12_bake_143 (N : Nat) (x0 : Nat) (x1 : Int32) (x5 : Int32) (x6 : Int32) (x7 : Int32) (z : Hp) : Option ((Int32 × Int32 × Hp) ⊕ (Int32 × Hp)) := gd (x0 < zn z ∧ zK z x0 = 11) <| br ((zF z 717 x0) ≤ x7) (lf <| fX12_bake_270 N x0 x1 x6 z) (br (x5 ≤ 0) (lf <| fX12_bake_270 N x0 x1 x6 z) (bo (zG z 716 x0) fun b7 => gd (b7 < zn z ∧ zK z b7 = 12) <| gd (¬ (x7 < 0 ∨ zL z b7 ≤ (x7).toNatClampNeg)) <| bd (zA z b7 (x7).toNatClampNeg) fun v10 => bo (zG z 710 x0) fun b13 => gd (b13 < zn z ∧ zK z b13 = 12) <| gd (¬ (v10 < 0 ∨ zL z b13 ≤ (v10).toNatClampNeg)) <| br ((zA z b13 (v10).toNatClampNeg) = x1) (bo (zG z 715 x0) fun b18 => gd (b18 < zn z ∧ zK z b18 = 12) <| gd (¬ (v10 < 0 ∨ zL z b18 ≤ (v10).toNatClampNeg)) <| br ((zA z b18 (v10).toNatClampNeg) ≤ 0) (fX12_bake_264 N x0 x1 x5 x6 x7 z) (bo (zG z 715 x0) fun b23 => gd (b23 < zn z ∧ zK z b23 = 12) <| gd (¬ (v10 < 0 ∨ zL z b23 ≤ (v10).toNatClampNeg)) <| br (x5 ≤ (zA z b23 (v10).toNatClampNeg)) (fX12_bake_211 N x0 x1 x5 x6 x7 v10 x5 z) (bo (zG z 715 x0) fun b28 => gd (b28 < zn z ∧ zK z b28 = 12) <| gd (¬ (v10 < 0 ∨ zL z b28 ≤ (v10).toNatClampNeg)) <| fX12_bake_211 N x0 x1 x5 x6 x7 v10 (zA z b28 (v10).toNatClampNeg) z))) (fX12_bake_264 N x0 x1 x5 x6 x7 z)))
set_option maxHeartbeats 4000000 in
set_option maxRecDepth 100000 in
theorem tX12_bake_143 {n0 : Nat} {D : va_G} {Y : Nat → ClassId} {p : Program} {l : Launch} {e : Env} {s : State} {m : MethodId} {args : Array Value} {below : List Frame} {meth : Method} {c : Code} {N : Nat} {fin : Int32 × Hp} {x0 : Nat} {x1 : Int32} {x5 : Int32} {x6 : Int32} {x7 : Int32}  {z : Hp} (C : Cx n0 D Y RX12 cX12_bake (some .int) 10 wsX12_bake "bake" p s m args meth c) {P143 : Int32 × Int32 × Hp → Prop} (hP143 : ∀ u, P143 u → ∀ (H : Heap) (locs : List Loc) (ls : Array Slot), Wd n0 D Y (u.2.2) s H locs → lv_has ls 10 [(0, .ref (n0 + x0)), (1, .int x1), (5, .int u.1), (6, .int x6), (7, .int u.2.1)] → W p l e rmX12_bake s m args below meth c H locs 0 0 (MQ below (PosI n0 D Y fin.2 fin.1) args s 0 0 (AA n0)) (F0 m 143 ls [])) {x : ((Int32 × Int32 × Hp) ⊕ (Int32 × Hp))} (h : fX12_bake_143 N x0 x1 x5 x6 x7  z = some x) (hF : (Fn P143 (fun x => x = fin)) x) {H : Heap} {locs : List Loc} {ls : Array Slot} (hw : Wd n0 D Y z s H locs) (hl : lv_has ls 10 [(0, .ref (n0 + x0)), (1, .int x1), (5, .int x5), (6, .int x6), (7, .int x7)]) : W p l e rmX12_bake s m args below meth c H locs 0 0 (MQ below (PosI n0 D Y fin.2 fin.1) args s 0 0 (AA n0)) (F0 m 143 ls []) := by
  unfold fX12_bake_143 at h
  refine lv_iload C.1 C.2.1 dX12_bake_143 (lv_at hl 4 rfl) ?_
  refine lv_aload_n C.1 C.2.1 dX12_bake_145 rfl (lv_at hl 0 rfl) ?_
  obtain ⟨g1, h⟩ := gdE h
  refine r_get (v := .int (zF z 717 x0)) C hw g1 (by decide) (Cn := RX12) (T := TX12) (N := 50) rfl in_X12_bake_X12 13 (by decide) (by decide +kernel) (fun _ h => h) rfl dX12_bake_146 ?_
  refine lv_icmp_ge (tgt := 270) C.1 C.2.1 dX12_bake_149 (by decide) (fun c2 => ?_) (fun c2 => ?_)
  · replace h := brT h c2
    obtain ⟨y3, h, hF⟩ := lfX h hF
    exact tX12_bake_270 C h hF hw (lv_sub hl [0, 1, 3] rfl)
  · replace h := brF h c2
    refine lv_iload C.1 C.2.1 dX12_bake_152 (lv_at hl 2 rfl) ?_
    refine lv_if_le (tgt := 270) C.1 C.2.1 dX12_bake_154 (by decide) (fun c4 => ?_) (fun c4 => ?_)
    · replace h := brT h c4
      obtain ⟨y5, h, hF⟩ := lfX h hF
      exact tX12_bake_270 C h hF hw (lv_sub hl [0, 1, 3] rfl)
    · replace h := brF h c4
      refine lv_aload_n C.1 C.2.1 dX12_bake_157 rfl (lv_at hl 0 rfl) ?_
      refine r_get (v := rv n0 (zG z 716 x0)) C hw g1 (by decide) (Cn := RX12) (T := TX12) (N := 50) rfl in_X12_bake_X12 12 (by decide) (by decide +kernel) (fun _ h => h) rfl dX12_bake_158 ?_
      obtain ⟨b7, e6, h⟩ := boE h
      refine r_topr e6 ?_
      refine lv_iload C.1 C.2.1 dX12_bake_161 (lv_at hl 4 rfl) ?_
      obtain ⟨g8, h⟩ := gdE h
      obtain ⟨i9, h⟩ := gdE h
      refine r_iald C hw g8 i9 dX12_bake_163 ?_
      obtain ⟨v10, e11, h⟩ := bdE h
      refine r_topi e11 ?_
      refine lv_istore (i := 8) (lv' := [(8, .int v10), (0, .ref (n0 + x0)), (1, .int x1), (5, .int x5), (6, .int x6), (7, .int x7)]) C.1 C.2.1 dX12_bake_164 hl (by decide) rfl (fun ls hl => ?_)
      refine lv_aload_n C.1 C.2.1 dX12_bake_166 rfl (lv_at hl 1 rfl) ?_
      refine r_get (v := rv n0 (zG z 710 x0)) C hw g1 (by decide) (Cn := RX12) (T := TX12) (N := 50) rfl in_X12_bake_X12 6 (by decide) (by decide +kernel) (fun _ h => h) rfl dX12_bake_167 ?_
      obtain ⟨b13, e12, h⟩ := boE h
      refine r_topr e12 ?_
      refine lv_iload C.1 C.2.1 dX12_bake_170 (lv_at hl 0 rfl) ?_
      obtain ⟨g14, h⟩ := gdE h
      obtain ⟨i15, h⟩ := gdE h
      refine r_iald C hw g14 i15 dX12_bake_172 ?_
      refine lv_iload_n C.1 C.2.1 dX12_bake_173 rfl (lv_at hl 2 rfl) ?_
      refine lv_icmp_ne (tgt := 264) C.1 C.2.1 dX12_bake_174 (by decide) (fun c16 => ?_) (fun c16 => ?_)
      · replace h := brF h c16
        exact tX12_bake_264 C hP143 h hF hw (lv_sub hl [1, 2, 3, 4, 5] rfl)
      · replace h := brT h c16
        refine lv_aload_n C.1 C.2.1 dX12_bake_177 rfl (lv_at hl 1 rfl) ?_
        refine r_get (v := rv n0 (zG z 715 x0)) C hw g1 (by decide) (Cn := RX12) (T := TX12) (N := 50) rfl in_X12_bake_X12 11 (by decide) (by decide +kernel) (fun _ h => h) rfl dX12_bake_178 ?_
        obtain ⟨b18, e17, h⟩ := boE h
        refine r_topr e17 ?_
        refine lv_iload C.1 C.2.1 dX12_bake_181 (lv_at hl 0 rfl) ?_
        obtain ⟨g19, h⟩ := gdE h
        obtain ⟨i20, h⟩ := gdE h
        refine r_iald C hw g19 i20 dX12_bake_183 ?_
        refine lv_if_le (tgt := 264) C.1 C.2.1 dX12_bake_184 (by decide) (fun c21 => ?_) (fun c21 => ?_)
        · replace h := brT h c21
          exact tX12_bake_264 C hP143 h hF hw (lv_sub hl [1, 2, 3, 4, 5] rfl)
        · replace h := brF h c21
          refine lv_aload_n C.1 C.2.1 dX12_bake_187 rfl (lv_at hl 1 rfl) ?_
          refine r_get (v := rv n0 (zG z 715 x0)) C hw g1 (by decide) (Cn := RX12) (T := TX12) (N := 50) rfl in_X12_bake_X12 11 (by decide) (by decide +kernel) (fun _ h => h) rfl dX12_bake_188 ?_
          obtain ⟨b23, e22, h⟩ := boE h
          refine r_topr e22 ?_
          refine lv_iload C.1 C.2.1 dX12_bake_191 (lv_at hl 0 rfl) ?_
          obtain ⟨g24, h⟩ := gdE h
          obtain ⟨i25, h⟩ := gdE h
          refine r_iald C hw g24 i25 dX12_bake_193 ?_
          refine lv_iload C.1 C.2.1 dX12_bake_194 (lv_at hl 3 rfl) ?_
          refine lv_icmp_ge (tgt := 209) C.1 C.2.1 dX12_bake_196 (by decide) (fun c26 => ?_) (fun c26 => ?_)
          · replace h := brT h c26
            refine lv_iload C.1 C.2.1 dX12_bake_209 (lv_at hl 3 rfl) ?_
            exact tX12_bake_211 C hP143 h hF hw (lv_sub hl [1, 2, 3, 4, 5, 0] rfl)
          · replace h := brF h c26
            refine lv_aload_n C.1 C.2.1 dX12_bake_199 rfl (lv_at hl 1 rfl) ?_
            refine r_get (v := rv n0 (zG z 715 x0)) C hw g1 (by decide) (Cn := RX12) (T := TX12) (N := 50) rfl in_X12_bake_X12 11 (by decide) (by decide +kernel) (fun _ h => h) rfl dX12_bake_200 ?_
            obtain ⟨b28, e27, h⟩ := boE h
            refine r_topr e27 ?_
            refine lv_iload C.1 C.2.1 dX12_bake_203 (lv_at hl 0 rfl) ?_
            obtain ⟨g29, h⟩ := gdE h
            obtain ⟨i30, h⟩ := gdE h
            refine r_iald C hw g29 i30 dX12_bake_205 ?_
            refine lv_goto (tgt := 211) C.1 C.2.1 dX12_bake_206 (by decide) ?_
            exact tX12_bake_211 C hP143 h hF hw (lv_sub hl [1, 2, 3, 4, 5, 0] rfl)
set_option maxHeartbeats 4000000 in
set_option maxRecDepth 100000 in
theorem lX12_bake_143 {n0 : Nat} {D : va_G} {Y : Nat → ClassId} {p : Program} {l : Launch} {e : Env} {s : State} {m : MethodId} {args : Array Value} {below : List Frame} {meth : Method} {c : Code} {N : Nat} {fin : Int32 × Hp} {x0 : Nat} {x1 : Int32} {x6 : Int32} (C : Cx n0 D Y RX12 cX12_bake (some .int) 10 wsX12_bake "bake" p s m args meth c) {x : (Int32 × Hp)} : ∀ (n : Nat) (u : Int32 × Int32 × Hp), wh (fun (u : Int32 × Int32 × Hp) => fX12_bake_143 N x0 x1 u.1 x6 u.2.1 u.2.2) n u = some x → (fun x => x = fin) x → ∀ (H : Heap) (locs : List Loc) (ls : Array Slot), Wd n0 D Y (u.2.2) s H locs → lv_has ls 10 [(0, .ref (n0 + x0)), (1, .int x1), (5, .int u.1), (6, .int x6), (7, .int u.2.1)] → W p l e rmX12_bake s m args below meth c H locs 0 0 (MQ below (PosI n0 D Y fin.2 fin.1) args s 0 0 (AA n0)) (F0 m 143 ls []) := fun n u h g => wh_ind (P := fun u => ∀ (H : Heap) (locs : List Loc) (ls : Array Slot), Wd n0 D Y (u.2.2) s H locs → lv_has ls 10 [(0, .ref (n0 + x0)), (1, .int x1), (5, .int u.1), (6, .int x6), (7, .int u.2.1)] → W p l e rmX12_bake s m args below meth c H locs 0 0 (MQ below (PosI n0 D Y fin.2 fin.1) args s 0 0 (AA n0)) (F0 m 143 ls [])) (G := (fun x => x = fin)) (fun u x h hF H locs ls hw hl => tX12_bake_143 C (P143 := fun u => ∀ (H : Heap) (locs : List Loc) (ls : Array Slot), Wd n0 D Y (u.2.2) s H locs → lv_has ls 10 [(0, .ref (n0 + x0)), (1, .int x1), (5, .int u.1), (6, .int x6), (7, .int u.2.1)] → W p l e rmX12_bake s m args below meth c H locs 0 0 (MQ below (PosI n0 D Y fin.2 fin.1) args s 0 0 (AA n0)) (F0 m 143 ls [])) (fun _ h => h) h hF hw hl) n u x h g
noncomputable def fX12_bake (N : Nat) (x0 : Nat) (x1 : Int32) (x2 : Int32) (x3 : Int32) (x4 : Int32) (z : Hp) : Option (Int32 × Hp) := gd (x0 < zn z ∧ zK z x0 = 11) <| bo (fX12_isBaker N x0 x1 z) fun r2 => br (r2 = 0) (some ((-1 : Int32), z)) (bo (fX12_in N (Int32.toInt64 x2) (0 : Int64) (2 : Int64) z) fun r6 => br (r6 = 0) (fX12_bake_47 N x0 z) (bo (fX12_in N (Int32.toInt64 x3) (1 : Int64) (500 : Int64) z) fun r9 => br (r9 = 0) (fX12_bake_47 N x0 z) (bo (fX12_in N (Int32.toInt64 x4) (1 : Int64) (2000 : Int64) z) fun r12 => br (r12 = 0) (fX12_bake_47 N x0 z) (bo (zG z 731 x0) fun b15 => gd (b15 < zn z ∧ zK z b15 = 12) <| gd (¬ (x1 < 0 ∨ zL z b15 ≤ (x1).toNatClampNeg)) <| br ((zA z b15 (x1).toNatClampNeg) ≤ (zF z 704 x0)) (br ((zF z 711 x0) = (200 : Int32)) (some ((-4 : Int32), z)) (bd (x3 * x4) fun v20 => bo (fX12_flourOf N x0 x1 z) fun r23 => br (v20 ≤ r23) (bd (zF z 711 x0) fun v25 => bo (zG z 720 x0) fun b28 => gd (b28 < zn z ∧ zK z b28 = 12) <| gd (¬ (v25 < 0 ∨ zL z b28 ≤ Int32.toNatClampNeg v25)) <| bd (zsA z b28 (Int32.toNatClampNeg v25) x2) fun z31 => bo (zG z31 721 x0) fun b35 => gd (b35 < zn z31 ∧ zK z31 b35 = 12) <| gd (¬ (v25 < 0 ∨ zL z31 b35 ≤ Int32.toNatClampNeg v25)) <| bd (zsA z31 b35 (Int32.toNatClampNeg v25) x3) fun z38 => bo (zG z38 722 x0) fun b42 => gd (b42 < zn z38 ∧ zK z38 b42 = 12) <| gd (¬ (v25 < 0 ∨ zL z38 b42 ≤ Int32.toNatClampNeg v25)) <| bd (zsA z38 b42 (Int32.toNatClampNeg v25) x4) fun z45 => bo (zG z45 723 x0) fun b49 => gd (b49 < zn z45 ∧ zK z45 b49 = 12) <| gd (¬ (v25 < 0 ∨ zL z45 b49 ≤ Int32.toNatClampNeg v25)) <| bd (zsA z45 b49 (Int32.toNatClampNeg v25) (zF z45 727 x0)) fun z52 => wh (fun (u : Int32 × Int32 × Hp) => fX12_bake_143 N x0 x1 u.1 v25 u.2.1 u.2.2) N (v20, (0 : Int32), z52)) (some ((-5 : Int32), z)))) (some ((-3 : Int32), z))))))
set_option maxHeartbeats 4000000 in
set_option maxRecDepth 100000 in
theorem tX12_bake_0 {n0 : Nat} {D : va_G} {Y : Nat → ClassId} {p : Program} {l : Launch} {e : Env} {s : State} {m : MethodId} {args : Array Value} {below : List Frame} {meth : Method} {c : Code} {N : Nat} {fin : Int32 × Hp} {x0 : Nat} {x1 : Int32} {x2 : Int32} {x3 : Int32} {x4 : Int32}  {z : Hp} (C : Cx n0 D Y RX12 cX12_bake (some .int) 10 wsX12_bake "bake" p s m args meth c) {x : (Int32 × Hp)} (h : fX12_bake N x0 x1 x2 x3 x4  z = some x) (hF : (fun x => x = fin) x) {H : Heap} {locs : List Loc} {ls : Array Slot} (hw : Wd n0 D Y z s H locs) (hl : lv_has ls 10 [(0, .ref (n0 + x0)), (1, .int x1), (2, .int x2), (3, .int x3), (4, .int x4)]) : W p l e rmX12_bake s m args below meth c H locs 0 0 (MQ below (PosI n0 D Y fin.2 fin.1) args s 0 0 (AA n0)) (F0 m 0 ls []) := by
  unfold fX12_bake at h
  refine lv_aload_n C.1 C.2.1 dX12_bake_0 rfl (lv_at hl 0 rfl) ?_
  refine lv_iload_n C.1 C.2.1 dX12_bake_1 rfl (lv_at hl 1 rfl) ?_
  obtain ⟨g3, h⟩ := gdE h
  obtain ⟨r2, e1, h⟩ := boE h
  refine r_afti hw (r_runV (As := [.int x1]) (rest := []) C hw (ki := 11) g3 (by decide) rfl (kX12_isBaker l n0 D Y N x0 x1 z e1) (cwV 1 C.2.2.2.2.2.1 gX12_bake_X12_isBaker rfl rfl rfl (by decide +kernel) ⟨(Nat.le_of_ble_eq_true rfl), (Nat.le_of_ble_eq_true rfl)⟩) rfl hl.1 rfl (Nat.le_of_ble_eq_true rfl) dX12_bake_2 ⟨(Nat.le_of_ble_eq_true rfl), (Nat.le_of_ble_eq_true rfl)⟩) (fun H locs hw => ?_)
  refine lv_if_ne (tgt := 10) C.1 C.2.1 dX12_bake_5 (by decide) (fun c4 => ?_) (fun c4 => ?_)
  · replace h := brF h c4
    refine lv_iload_n C.1 C.2.1 dX12_bake_10 rfl (lv_at hl 2 rfl) ?_
    refine lv_i2l C.1 C.2.1 dX12_bake_11 rfl ?_
    refine lv_lconst (v := (0 : Int64)) C.1 C.2.1 dX12_bake_12 (by decide) ?_
    refine lv_ldc2 (v := (2 : Int64)) C.1 C.2.1 C.2.2.2.2.1 (C.2.2.2.2.2.1 (.constantLong RX12 180 (2 : Int64)) (by decide +kernel)) dX12_bake_13 ?_
    obtain ⟨r6, e5, h⟩ := boE h
    refine r_afti hw (r_runS (As := [.long (Int32.toInt64 x2), .long (0 : Int64), .long (2 : Int64)]) (rest := []) C hw (kX12_in l n0 D Y N (Int32.toInt64 x2) (0 : Int64) (2 : Int64) z e5) (va_cwS 3 C.2.2.2.2.2.1 gX12_bake_X12_in rfl rfl rfl (by decide +kernel) ⟨(Nat.le_of_ble_eq_true rfl), (Nat.le_of_ble_eq_true rfl)⟩) rfl hl.1 rfl (Nat.le_of_ble_eq_true rfl) dX12_bake_16 ⟨(Nat.le_of_ble_eq_true rfl), (Nat.le_of_ble_eq_true rfl)⟩) (fun H locs hw => ?_)
    refine lv_if_eq (tgt := 47) C.1 C.2.1 dX12_bake_19 (by decide) (fun c7 => ?_) (fun c7 => ?_)
    · replace h := brT h c7
      exact tX12_bake_47 C h hF hw (lv_sub hl [0] rfl)
    · replace h := brF h c7
      refine lv_iload_n C.1 C.2.1 dX12_bake_22 rfl (lv_at hl 3 rfl) ?_
      refine lv_i2l C.1 C.2.1 dX12_bake_23 rfl ?_
      refine lv_lconst (v := (1 : Int64)) C.1 C.2.1 dX12_bake_24 (by decide) ?_
      refine lv_ldc2 (v := (500 : Int64)) C.1 C.2.1 C.2.2.2.2.1 (C.2.2.2.2.2.1 (.constantLong RX12 206 (500 : Int64)) (by decide +kernel)) dX12_bake_25 ?_
      obtain ⟨r9, e8, h⟩ := boE h
      refine r_afti hw (r_runS (As := [.long (Int32.toInt64 x3), .long (1 : Int64), .long (500 : Int64)]) (rest := []) C hw (kX12_in l n0 D Y N (Int32.toInt64 x3) (1 : Int64) (500 : Int64) z e8) (va_cwS 3 C.2.2.2.2.2.1 gX12_bake_X12_in rfl rfl rfl (by decide +kernel) ⟨(Nat.le_of_ble_eq_true rfl), (Nat.le_of_ble_eq_true rfl)⟩) rfl hl.1 rfl (Nat.le_of_ble_eq_true rfl) dX12_bake_28 ⟨(Nat.le_of_ble_eq_true rfl), (Nat.le_of_ble_eq_true rfl)⟩) (fun H locs hw => ?_)
      refine lv_if_eq (tgt := 47) C.1 C.2.1 dX12_bake_31 (by decide) (fun c10 => ?_) (fun c10 => ?_)
      · replace h := brT h c10
        exact tX12_bake_47 C h hF hw (lv_sub hl [0] rfl)
      · replace h := brF h c10
        refine lv_iload C.1 C.2.1 dX12_bake_34 (lv_at hl 4 rfl) ?_
        refine lv_i2l C.1 C.2.1 dX12_bake_36 rfl ?_
        refine lv_lconst (v := (1 : Int64)) C.1 C.2.1 dX12_bake_37 (by decide) ?_
        refine lv_ldc2 (v := (2000 : Int64)) C.1 C.2.1 C.2.2.2.2.1 (C.2.2.2.2.2.1 (.constantLong RX12 208 (2000 : Int64)) (by decide +kernel)) dX12_bake_38 ?_
        obtain ⟨r12, e11, h⟩ := boE h
        refine r_afti hw (r_runS (As := [.long (Int32.toInt64 x4), .long (1 : Int64), .long (2000 : Int64)]) (rest := []) C hw (kX12_in l n0 D Y N (Int32.toInt64 x4) (1 : Int64) (2000 : Int64) z e11) (va_cwS 3 C.2.2.2.2.2.1 gX12_bake_X12_in rfl rfl rfl (by decide +kernel) ⟨(Nat.le_of_ble_eq_true rfl), (Nat.le_of_ble_eq_true rfl)⟩) rfl hl.1 rfl (Nat.le_of_ble_eq_true rfl) dX12_bake_41 ⟨(Nat.le_of_ble_eq_true rfl), (Nat.le_of_ble_eq_true rfl)⟩) (fun H locs hw => ?_)
        refine lv_if_ne (tgt := 50) C.1 C.2.1 dX12_bake_44 (by decide) (fun c13 => ?_) (fun c13 => ?_)
        · replace h := brF h c13
          refine lv_aload_n C.1 C.2.1 dX12_bake_50 rfl (lv_at hl 0 rfl) ?_
          refine r_get (v := .int (zF z 704 x0)) C hw g3 (by decide) (Cn := RX12) (T := TX12) (N := 50) rfl in_X12_bake_X12 0 (by decide) (by decide +kernel) (fun _ h => h) rfl dX12_bake_51 ?_
          refine lv_aload_n C.1 C.2.1 dX12_bake_54 rfl (lv_at hl 0 rfl) ?_
          refine r_get (v := rv n0 (zG z 731 x0)) C hw g3 (by decide) (Cn := RX12) (T := TX12) (N := 50) rfl in_X12_bake_X12 27 (by decide) (by decide +kernel) (fun _ h => h) rfl dX12_bake_55 ?_
          obtain ⟨b15, e14, h⟩ := boE h
          refine r_topr e14 ?_
          refine lv_iload_n C.1 C.2.1 dX12_bake_58 rfl (lv_at hl 1 rfl) ?_
          obtain ⟨g16, h⟩ := gdE h
          obtain ⟨i17, h⟩ := gdE h
          refine r_iald C hw g16 i17 dX12_bake_59 ?_
          refine lv_icmp_ge (tgt := 66) C.1 C.2.1 dX12_bake_60 (by decide) (fun c18 => ?_) (fun c18 => ?_)
          · replace h := brT h c18
            refine lv_aload_n C.1 C.2.1 dX12_bake_66 rfl (lv_at hl 0 rfl) ?_
            refine r_get (v := .int (zF z 711 x0)) C hw g3 (by decide) (Cn := RX12) (T := TX12) (N := 50) rfl in_X12_bake_X12 7 (by decide) (by decide +kernel) (fun _ h => h) rfl dX12_bake_67 ?_
            refine lv_sipush (v := (200 : Int32)) C.1 C.2.1 dX12_bake_70 (by decide) ?_
            refine lv_icmp_ne (tgt := 79) C.1 C.2.1 dX12_bake_73 (by decide) (fun c19 => ?_) (fun c19 => ?_)
            · replace h := brF h c19
              refine lv_iload_n C.1 C.2.1 dX12_bake_79 rfl (lv_at hl 3 rfl) ?_
              refine lv_iload C.1 C.2.1 dX12_bake_80 (lv_at hl 4 rfl) ?_
              refine lv_imul C.1 C.2.1 dX12_bake_82 ?_
              obtain ⟨v20, e21, h⟩ := bdE h
              refine r_topi e21 ?_
              refine lv_istore (i := 5) (lv' := [(5, .int v20), (0, .ref (n0 + x0)), (1, .int x1), (2, .int x2), (3, .int x3), (4, .int x4)]) C.1 C.2.1 dX12_bake_83 hl (by decide) rfl (fun ls hl => ?_)
              refine lv_aload_n C.1 C.2.1 dX12_bake_85 rfl (lv_at hl 1 rfl) ?_
              refine lv_iload_n C.1 C.2.1 dX12_bake_86 rfl (lv_at hl 2 rfl) ?_
              obtain ⟨r23, e22, h⟩ := boE h
              refine r_afti hw (r_runV (As := [.int x1]) (rest := []) C hw (ki := 11) g3 (by decide) rfl (kX12_flourOf l n0 D Y N x0 x1 z e22) (cwV 1 C.2.2.2.2.2.1 gX12_bake_X12_flourOf rfl rfl rfl (by decide +kernel) ⟨(Nat.le_of_ble_eq_true rfl), (Nat.le_of_ble_eq_true rfl)⟩) rfl hl.1 rfl (Nat.le_of_ble_eq_true rfl) dX12_bake_87 ⟨(Nat.le_of_ble_eq_true rfl), (Nat.le_of_ble_eq_true rfl)⟩) (fun H locs hw => ?_)
              refine lv_iload C.1 C.2.1 dX12_bake_90 (lv_at hl 0 rfl) ?_
              refine lv_icmp_ge (tgt := 98) C.1 C.2.1 dX12_bake_92 (by decide) (fun c24 => ?_) (fun c24 => ?_)
              · replace h := brT h c24
                refine lv_aload_n C.1 C.2.1 dX12_bake_98 rfl (lv_at hl 1 rfl) ?_
                refine r_get (v := .int (zF z 711 x0)) C hw g3 (by decide) (Cn := RX12) (T := TX12) (N := 50) rfl in_X12_bake_X12 7 (by decide) (by decide +kernel) (fun _ h => h) rfl dX12_bake_99 ?_
                obtain ⟨v25, e26, h⟩ := bdE h
                refine r_topi e26 ?_
                refine lv_istore (i := 6) (lv' := [(6, .int v25), (5, .int v20), (0, .ref (n0 + x0)), (1, .int x1), (2, .int x2), (3, .int x3), (4, .int x4)]) C.1 C.2.1 dX12_bake_102 hl (by decide) rfl (fun ls hl => ?_)
                refine lv_aload_n C.1 C.2.1 dX12_bake_104 rfl (lv_at hl 2 rfl) ?_
                refine r_get (v := rv n0 (zG z 720 x0)) C hw g3 (by decide) (Cn := RX12) (T := TX12) (N := 50) rfl in_X12_bake_X12 16 (by decide) (by decide +kernel) (fun _ h => h) rfl dX12_bake_105 ?_
                obtain ⟨b28, e27, h⟩ := boE h
                refine r_topr e27 ?_
                refine lv_iload C.1 C.2.1 dX12_bake_108 (lv_at hl 0 rfl) ?_
                refine lv_iload_n C.1 C.2.1 dX12_bake_110 rfl (lv_at hl 4 rfl) ?_
                obtain ⟨g29, h⟩ := gdE h
                obtain ⟨i30, h⟩ := gdE h
                obtain ⟨z31, e32, h⟩ := bdE h
                refine r_iast C hw g29 i30 e32 dX12_bake_111 (fun H locs hw => ?_)
                refine lv_aload_n C.1 C.2.1 dX12_bake_112 rfl (lv_at hl 2 rfl) ?_
                have g33 : x0 < zn z31 ∧ zK z31 x0 = 11 := by rw [e32]; exact g3
                refine r_get (v := rv n0 (zG z31 721 x0)) C hw g33 (by decide) (Cn := RX12) (T := TX12) (N := 50) rfl in_X12_bake_X12 17 (by decide) (by decide +kernel) (fun _ h => h) rfl dX12_bake_113 ?_
                obtain ⟨b35, e34, h⟩ := boE h
                refine r_topr e34 ?_
                refine lv_iload C.1 C.2.1 dX12_bake_116 (lv_at hl 0 rfl) ?_
                refine lv_iload_n C.1 C.2.1 dX12_bake_118 rfl (lv_at hl 5 rfl) ?_
                obtain ⟨g36, h⟩ := gdE h
                obtain ⟨i37, h⟩ := gdE h
                obtain ⟨z38, e39, h⟩ := bdE h
                refine r_iast C hw g36 i37 e39 dX12_bake_119 (fun H locs hw => ?_)
                refine lv_aload_n C.1 C.2.1 dX12_bake_120 rfl (lv_at hl 2 rfl) ?_
                have g40 : x0 < zn z38 ∧ zK z38 x0 = 11 := by rw [e39]; exact g33
                refine r_get (v := rv n0 (zG z38 722 x0)) C hw g40 (by decide) (Cn := RX12) (T := TX12) (N := 50) rfl in_X12_bake_X12 18 (by decide) (by decide +kernel) (fun _ h => h) rfl dX12_bake_121 ?_
                obtain ⟨b42, e41, h⟩ := boE h
                refine r_topr e41 ?_
                refine lv_iload C.1 C.2.1 dX12_bake_124 (lv_at hl 0 rfl) ?_
                refine lv_iload C.1 C.2.1 dX12_bake_126 (lv_at hl 6 rfl) ?_
                obtain ⟨g43, h⟩ := gdE h
                obtain ⟨i44, h⟩ := gdE h
                obtain ⟨z45, e46, h⟩ := bdE h
                refine r_iast C hw g43 i44 e46 dX12_bake_128 (fun H locs hw => ?_)
                refine lv_aload_n C.1 C.2.1 dX12_bake_129 rfl (lv_at hl 2 rfl) ?_
                have g47 : x0 < zn z45 ∧ zK z45 x0 = 11 := by rw [e46]; exact g40
                refine r_get (v := rv n0 (zG z45 723 x0)) C hw g47 (by decide) (Cn := RX12) (T := TX12) (N := 50) rfl in_X12_bake_X12 19 (by decide) (by decide +kernel) (fun _ h => h) rfl dX12_bake_130 ?_
                obtain ⟨b49, e48, h⟩ := boE h
                refine r_topr e48 ?_
                refine lv_iload C.1 C.2.1 dX12_bake_133 (lv_at hl 0 rfl) ?_
                refine lv_aload_n C.1 C.2.1 dX12_bake_135 rfl (lv_at hl 2 rfl) ?_
                refine r_get (v := .int (zF z45 727 x0)) C hw g47 (by decide) (Cn := RX12) (T := TX12) (N := 50) rfl in_X12_bake_X12 23 (by decide) (by decide +kernel) (fun _ h => h) rfl dX12_bake_136 ?_
                obtain ⟨g50, h⟩ := gdE h
                obtain ⟨i51, h⟩ := gdE h
                obtain ⟨z52, e53, h⟩ := bdE h
                refine r_iast C hw g50 i51 e53 dX12_bake_139 (fun H locs hw => ?_)
                refine lv_iconst (v := (0 : Int32)) C.1 C.2.1 dX12_bake_140 (by decide) ?_
                refine lv_istore (i := 7) (lv' := [(7, .int (0 : Int32)), (6, .int v25), (5, .int v20), (0, .ref (n0 + x0)), (1, .int x1), (2, .int x2), (3, .int x3), (4, .int x4)]) C.1 C.2.1 dX12_bake_141 hl (by decide) rfl (fun ls hl => ?_)
                exact lX12_bake_143 C _ _ h hF _ _ _ hw (lv_sub hl [3, 4, 2, 1, 0] rfl)
              · replace h := brF h c24
                refine lv_bipush (v := (-5 : Int32)) C.1 C.2.1 dX12_bake_95 (by decide) ?_
                cases h
                replace hF : _ = fin := hF
                subst hF
                exact r_iret C hw dX12_bake_97
            · replace h := brT h c19
              refine lv_bipush (v := (-4 : Int32)) C.1 C.2.1 dX12_bake_76 (by decide) ?_
              cases h
              replace hF : _ = fin := hF
              subst hF
              exact r_iret C hw dX12_bake_78
          · replace h := brF h c18
            refine lv_bipush (v := (-3 : Int32)) C.1 C.2.1 dX12_bake_63 (by decide) ?_
            cases h
            replace hF : _ = fin := hF
            subst hF
            exact r_iret C hw dX12_bake_65
        · replace h := brT h c13
          exact tX12_bake_47 C h hF hw (lv_sub hl [0] rfl)
  · replace h := brT h c4
    refine lv_iconst (v := (-1 : Int32)) C.1 C.2.1 dX12_bake_8 (by decide) ?_
    cases h
    replace hF : _ = fin := hF
    subst hF
    exact r_iret C hw dX12_bake_9
set_option maxRecDepth 100000 in
theorem kX12_bake (l : Launch) (n0 : Nat) (D : va_G) (Y : Nat → ClassId) (N : Nat) (x0 : Nat) (x1 : Int32) (x2 : Int32) (x3 : Int32) (x4 : Int32) (z : Hp) {r : Int32} {z1 : Hp} (h : fX12_bake N x0 x1 x2 x3 x4 z = some (r, z1)) : Met l yX12_bake wsX12_bake rmX12_bake (PreC n0 D Y z [.ref (n0 + x0), .int x1, .int x2, .int x3, .int x4]) (PosI n0 D Y z1 r) 0 0 (AA n0) := by
  refine Met.ofW (cc := cX12_bake) (maxL := 10) (ret := (some .int)) (by decide) rfl ?_
  intro p e s m args below meth c s₁ B hml hv
  obtain ⟨rfl, hR, hK⟩ := hv
  have C : Cx n0 D Y RX12 cX12_bake (some .int) 10 wsX12_bake "bake" p s m ([.ref (n0 + x0), .int x1, .int x2, .int x3, .int x4] : List Value).toArray meth c := ⟨B.exec, B.bytes, B.returns, hml, findClass_of_methodNamed B.named, atoms_spec (ws := wsX12_bake) B.pre, B.notSynchronized, (name_of_methodNamed B.named B.method).1, hK⟩
  have hl := lv_entry ([.ref (n0 + x0), .int x1, .int x2, .int x3, .int x4]) (n := 10) (Nat.le_of_ble_eq_true rfl)
  rw [lg_entry_eq]
  generalize (lg_sl ([.ref (n0 + x0), .int x1, .int x2, .int x3, .int x4]) ++ List.replicate (10 - (lg_sl ([.ref (n0 + x0), .int x1, .int x2, .int x3, .int x4])).length) Slot.unset).toArray = ls at hl ⊢
  have hl : lv_has ls 10 [(0, .ref (n0 + x0)), (1, .int x1), (2, .int x2), (3, .int x3), (4, .int x4)] := hl
  exact tX12_bake_0 C h rfl ⟨hR, va_S.rf⟩ hl
theorem in_X12_drawTurns_X12 : ∀ w ∈ wsX120, w ∈ wsX12_drawTurns := by decide +kernel
abbrev rmX12_drawTurns : Room := { frames := 0, cells := 0, slots := 0, locals := 0 }
noncomputable def fX12_drawTurns_38 (N : Nat) (x0 : Nat) (x1 : Int32) (z : Hp) : Option ((Int32 × Hp) ⊕ (Hp)) := br (x1 ≤ 0) (lf <| gd (x0 < zn z ∧ zK z x0 = 11) <| bd (zsF z 741 x0 (zF z 706 x0)) fun z4 => bd (zsF z4 742 x0 (zF z4 706 x0)) fun z7 => some z7) (gd (x0 < zn z ∧ zK z x0 = 11) <| bd (zsF z 743 x0 ((((zF z 743 x0) * (1103515245 : Int32)) + (12345 : Int32)) &&& (2147483647 : Int32))) fun z10 => gd (¬ (x1 + (1 : Int32)) = 0) <| bd (irm ((zF z10 743 x0) / (65536 : Int32)) (x1 + (1 : Int32))) fun v14 => bo (zG z10 740 x0) fun b17 => gd (b17 < zn z10 ∧ zK z10 b17 = 12) <| gd (¬ (x1 < 0 ∨ zL z10 b17 ≤ (x1).toNatClampNeg)) <| bd (zA z10 b17 (x1).toNatClampNeg) fun v20 => bo (zG z10 740 x0) fun b23 => bo (zG z10 740 x0) fun b25 => gd (b25 < zn z10 ∧ zK z10 b25 = 12) <| gd (¬ (v14 < 0 ∨ zL z10 b25 ≤ (v14).toNatClampNeg)) <| gd (b23 < zn z10 ∧ zK z10 b23 = 12) <| gd (¬ (x1 < 0 ∨ zL z10 b23 ≤ Int32.toNatClampNeg x1)) <| bd (zsA z10 b23 (Int32.toNatClampNeg x1) (zA z10 b25 (v14).toNatClampNeg)) fun z30 => bo (zG z30 740 x0) fun b34 => gd (b34 < zn z30 ∧ zK z30 b34 = 12) <| gd (¬ (v14 < 0 ∨ zL z30 b34 ≤ Int32.toNatClampNeg v14)) <| bd (zsA z30 b34 (Int32.toNatClampNeg v14) v20) fun z37 => bd (x1 + (-1 : Int32)) fun v39 => some (.inl (v39, z37)))
set_option maxHeartbeats 4000000 in
set_option maxRecDepth 100000 in
theorem tX12_drawTurns_38 {n0 : Nat} {D : va_G} {Y : Nat → ClassId} {p : Program} {l : Launch} {e : Env} {s : State} {m : MethodId} {args : Array Value} {below : List Frame} {meth : Method} {c : Code} {N : Nat} {fin : Hp} {x0 : Nat} {x1 : Int32}  {z : Hp} (C : Cx n0 D Y RX12 cX12_drawTurns none 4 wsX12_drawTurns "drawTurns" p s m args meth c) {P38 : Int32 × Hp → Prop} (hP38 : ∀ u, P38 u → ∀ (H : Heap) (locs : List Loc) (ls : Array Slot), Wd n0 D Y (u.2) s H locs → lv_has ls 4 [(0, .ref (n0 + x0)), (1, .int u.1)] → W p l e rmX12_drawTurns s m args below meth c H locs 0 0 (MQ below (PosV n0 D Y fin) args s 0 0 (AA n0)) (F0 m 38 ls [])) {x : ((Int32 × Hp) ⊕ (Hp))} (h : fX12_drawTurns_38 N x0 x1  z = some x) (hF : (Fn P38 (fun x => x = fin)) x) {H : Heap} {locs : List Loc} {ls : Array Slot} (hw : Wd n0 D Y z s H locs) (hl : lv_has ls 4 [(0, .ref (n0 + x0)), (1, .int x1)]) : W p l e rmX12_drawTurns s m args below meth c H locs 0 0 (MQ below (PosV n0 D Y fin) args s 0 0 (AA n0)) (F0 m 38 ls []) := by
  unfold fX12_drawTurns_38 at h
  refine lv_iload_n C.1 C.2.1 dX12_drawTurns_38 rfl (lv_at hl 1 rfl) ?_
  refine lv_if_le (tgt := 104) C.1 C.2.1 dX12_drawTurns_39 (by decide) (fun c1 => ?_) (fun c1 => ?_)
  · replace h := brT h c1
    obtain ⟨y2, h, hF⟩ := lfX h hF
    refine lv_aload_n C.1 C.2.1 dX12_drawTurns_104 rfl (lv_at hl 0 rfl) ?_
    refine lv_aload_n C.1 C.2.1 dX12_drawTurns_105 rfl (lv_at hl 0 rfl) ?_
    obtain ⟨g3, h⟩ := gdE h
    refine r_get (v := .int (zF z 706 x0)) C hw g3 (by decide) (Cn := RX12) (T := TX12) (N := 50) rfl in_X12_drawTurns_X12 2 (by decide) (by decide +kernel) (fun _ h => h) rfl dX12_drawTurns_106 ?_
    obtain ⟨z4, e5, h⟩ := bdE h
    refine r_putI C hw g3 (by decide) (Cn := RX12) (T := TX12) (N := 50) rfl in_X12_drawTurns_X12 tyX12 tyX12_ok nmX12 37 (by decide) (by decide +kernel) (fun _ h => h) (Or.inl rfl) (ty := .int) (by decide +kernel) rfl rfl (Nat.le_of_ble_eq_true rfl) (st_11_37 n0 z x0 (zF z 706 x0)) e5 dX12_drawTurns_109 (fun H locs hw => ?_)
    refine lv_aload_n C.1 C.2.1 dX12_drawTurns_112 rfl (lv_at hl 0 rfl) ?_
    refine lv_aload_n C.1 C.2.1 dX12_drawTurns_113 rfl (lv_at hl 0 rfl) ?_
    have g6 : x0 < zn z4 ∧ zK z4 x0 = 11 := by rw [e5]; exact g3
    refine r_get (v := .int (zF z4 706 x0)) C hw g6 (by decide) (Cn := RX12) (T := TX12) (N := 50) rfl in_X12_drawTurns_X12 2 (by decide) (by decide +kernel) (fun _ h => h) rfl dX12_drawTurns_114 ?_
    obtain ⟨z7, e8, h⟩ := bdE h
    refine r_putI C hw g6 (by decide) (Cn := RX12) (T := TX12) (N := 50) rfl in_X12_drawTurns_X12 tyX12 tyX12_ok nmX12 38 (by decide) (by decide +kernel) (fun _ h => h) (Or.inl rfl) (ty := .int) (by decide +kernel) rfl rfl (Nat.le_of_ble_eq_true rfl) (st_11_38 n0 z4 x0 (zF z4 706 x0)) e8 dX12_drawTurns_117 (fun H locs hw => ?_)
    cases h
    replace hF : _ = fin := hF
    subst hF
    exact r_vret C hw dX12_drawTurns_120
  · replace h := brF h c1
    refine lv_aload_n C.1 C.2.1 dX12_drawTurns_42 rfl (lv_at hl 0 rfl) ?_
    refine lv_aload_n C.1 C.2.1 dX12_drawTurns_43 rfl (lv_at hl 0 rfl) ?_
    obtain ⟨g9, h⟩ := gdE h
    refine r_get (v := .int (zF z 743 x0)) C hw g9 (by decide) (Cn := RX12) (T := TX12) (N := 50) rfl in_X12_drawTurns_X12 39 (by decide) (by decide +kernel) (fun _ h => h) rfl dX12_drawTurns_44 ?_
    refine lv_ldc (v := (1103515245 : Int32)) C.1 C.2.1 C.2.2.2.2.1 (C.2.2.2.2.2.1 (.constant RX12 216 (1103515245 : Int32)) (by decide +kernel)) dX12_drawTurns_47 ?_
    refine lv_imul C.1 C.2.1 dX12_drawTurns_49 ?_
    refine lv_sipush (v := (12345 : Int32)) C.1 C.2.1 dX12_drawTurns_50 (by decide) ?_
    refine lv_iadd C.1 C.2.1 dX12_drawTurns_53 ?_
    refine lv_ldc (v := (2147483647 : Int32)) C.1 C.2.1 C.2.2.2.2.1 (C.2.2.2.2.2.1 (.constant RX12 217 (2147483647 : Int32)) (by decide +kernel)) dX12_drawTurns_54 ?_
    refine lv_iand C.1 C.2.1 dX12_drawTurns_56 ?_
    obtain ⟨z10, e11, h⟩ := bdE h
    refine r_putI C hw g9 (by decide) (Cn := RX12) (T := TX12) (N := 50) rfl in_X12_drawTurns_X12 tyX12 tyX12_ok nmX12 39 (by decide) (by decide +kernel) (fun _ h => h) (Or.inl rfl) (ty := .int) (by decide +kernel) rfl rfl (Nat.le_of_ble_eq_true rfl) (st_11_39 n0 z x0 ((((zF z 743 x0) * (1103515245 : Int32)) + (12345 : Int32)) &&& (2147483647 : Int32))) e11 dX12_drawTurns_57 (fun H locs hw => ?_)
    refine lv_aload_n C.1 C.2.1 dX12_drawTurns_60 rfl (lv_at hl 0 rfl) ?_
    have g12 : x0 < zn z10 ∧ zK z10 x0 = 11 := by rw [e11]; exact g9
    refine r_get (v := .int (zF z10 743 x0)) C hw g12 (by decide) (Cn := RX12) (T := TX12) (N := 50) rfl in_X12_drawTurns_X12 39 (by decide) (by decide +kernel) (fun _ h => h) rfl dX12_drawTurns_61 ?_
    refine lv_ldc (v := (65536 : Int32)) C.1 C.2.1 C.2.2.2.2.1 (C.2.2.2.2.2.1 (.constant RX12 218 (65536 : Int32)) (by decide +kernel)) dX12_drawTurns_64 ?_
    refine lv_idiv C.1 C.2.1 dX12_drawTurns_66 (by decide) ?_
    refine lv_iload_n C.1 C.2.1 dX12_drawTurns_67 rfl (lv_at hl 1 rfl) ?_
    refine lv_iconst (v := (1 : Int32)) C.1 C.2.1 dX12_drawTurns_68 (by decide) ?_
    refine lv_iadd C.1 C.2.1 dX12_drawTurns_69 ?_
    obtain ⟨g13, h⟩ := gdE h
    refine lv_irem C.1 C.2.1 dX12_drawTurns_70 g13 ?_
    refine r_topi (y := irm ((zF z10 743 x0) / (65536 : Int32)) (x1 + (1 : Int32))) rfl ?_
    obtain ⟨v14, e15, h⟩ := bdE h
    refine r_topi e15 ?_
    refine lv_istore_n (i := 2) (lv' := [(2, .int v14), (0, .ref (n0 + x0)), (1, .int x1)]) C.1 C.2.1 dX12_drawTurns_71 rfl hl (by decide) rfl (fun ls hl => ?_)
    refine lv_aload_n C.1 C.2.1 dX12_drawTurns_72 rfl (lv_at hl 1 rfl) ?_
    refine r_get (v := rv n0 (zG z10 740 x0)) C hw g12 (by decide) (Cn := RX12) (T := TX12) (N := 50) rfl in_X12_drawTurns_X12 36 (by decide) (by decide +kernel) (fun _ h => h) rfl dX12_drawTurns_73 ?_
    obtain ⟨b17, e16, h⟩ := boE h
    refine r_topr e16 ?_
    refine lv_iload_n C.1 C.2.1 dX12_drawTurns_76 rfl (lv_at hl 2 rfl) ?_
    obtain ⟨g18, h⟩ := gdE h
    obtain ⟨i19, h⟩ := gdE h
    refine r_iald C hw g18 i19 dX12_drawTurns_77 ?_
    obtain ⟨v20, e21, h⟩ := bdE h
    refine r_topi e21 ?_
    refine lv_istore_n (i := 3) (lv' := [(3, .int v20), (2, .int v14), (0, .ref (n0 + x0)), (1, .int x1)]) C.1 C.2.1 dX12_drawTurns_78 rfl hl (by decide) rfl (fun ls hl => ?_)
    refine lv_aload_n C.1 C.2.1 dX12_drawTurns_79 rfl (lv_at hl 2 rfl) ?_
    refine r_get (v := rv n0 (zG z10 740 x0)) C hw g12 (by decide) (Cn := RX12) (T := TX12) (N := 50) rfl in_X12_drawTurns_X12 36 (by decide) (by decide +kernel) (fun _ h => h) rfl dX12_drawTurns_80 ?_
    obtain ⟨b23, e22, h⟩ := boE h
    refine r_topr e22 ?_
    refine lv_iload_n C.1 C.2.1 dX12_drawTurns_83 rfl (lv_at hl 3 rfl) ?_
    refine lv_aload_n C.1 C.2.1 dX12_drawTurns_84 rfl (lv_at hl 2 rfl) ?_
    refine r_get (v := rv n0 (zG z10 740 x0)) C hw g12 (by decide) (Cn := RX12) (T := TX12) (N := 50) rfl in_X12_drawTurns_X12 36 (by decide) (by decide +kernel) (fun _ h => h) rfl dX12_drawTurns_85 ?_
    obtain ⟨b25, e24, h⟩ := boE h
    refine r_topr e24 ?_
    refine lv_iload_n C.1 C.2.1 dX12_drawTurns_88 rfl (lv_at hl 1 rfl) ?_
    obtain ⟨g26, h⟩ := gdE h
    obtain ⟨i27, h⟩ := gdE h
    refine r_iald C hw g26 i27 dX12_drawTurns_89 ?_
    obtain ⟨g28, h⟩ := gdE h
    obtain ⟨i29, h⟩ := gdE h
    obtain ⟨z30, e31, h⟩ := bdE h
    refine r_iast C hw g28 i29 e31 dX12_drawTurns_90 (fun H locs hw => ?_)
    refine lv_aload_n C.1 C.2.1 dX12_drawTurns_91 rfl (lv_at hl 2 rfl) ?_
    have g32 : x0 < zn z30 ∧ zK z30 x0 = 11 := by rw [e31]; exact g12
    refine r_get (v := rv n0 (zG z30 740 x0)) C hw g32 (by decide) (Cn := RX12) (T := TX12) (N := 50) rfl in_X12_drawTurns_X12 36 (by decide) (by decide +kernel) (fun _ h => h) rfl dX12_drawTurns_92 ?_
    obtain ⟨b34, e33, h⟩ := boE h
    refine r_topr e33 ?_
    refine lv_iload_n C.1 C.2.1 dX12_drawTurns_95 rfl (lv_at hl 1 rfl) ?_
    refine lv_iload_n C.1 C.2.1 dX12_drawTurns_96 rfl (lv_at hl 0 rfl) ?_
    obtain ⟨g35, h⟩ := gdE h
    obtain ⟨i36, h⟩ := gdE h
    obtain ⟨z37, e38, h⟩ := bdE h
    refine r_iast C hw g35 i36 e38 dX12_drawTurns_97 (fun H locs hw => ?_)
    obtain ⟨v39, e40, h⟩ := bdE h
    refine lv_iinc (v := v39) (lv' := [(1, .int v39), (3, .int v20), (2, .int v14), (0, .ref (n0 + x0))]) C.1 C.2.1 dX12_drawTurns_98 hl (k := 3) rfl (by rw [e40]; rfl) (by decide) rfl (fun ls hl => ?_)
    refine lv_goto (tgt := 38) C.1 C.2.1 dX12_drawTurns_101 (by decide) ?_
    cases h
    exact hP38 _ hF _ _ _ hw (lv_sub hl [3, 0] rfl)
set_option maxHeartbeats 4000000 in
set_option maxRecDepth 100000 in
theorem lX12_drawTurns_38 {n0 : Nat} {D : va_G} {Y : Nat → ClassId} {p : Program} {l : Launch} {e : Env} {s : State} {m : MethodId} {args : Array Value} {below : List Frame} {meth : Method} {c : Code} {N : Nat} {fin : Hp} {x0 : Nat} (C : Cx n0 D Y RX12 cX12_drawTurns none 4 wsX12_drawTurns "drawTurns" p s m args meth c) {x : (Hp)} : ∀ (n : Nat) (u : Int32 × Hp), wh (fun (u : Int32 × Hp) => fX12_drawTurns_38 N x0 u.1 u.2) n u = some x → (fun x => x = fin) x → ∀ (H : Heap) (locs : List Loc) (ls : Array Slot), Wd n0 D Y (u.2) s H locs → lv_has ls 4 [(0, .ref (n0 + x0)), (1, .int u.1)] → W p l e rmX12_drawTurns s m args below meth c H locs 0 0 (MQ below (PosV n0 D Y fin) args s 0 0 (AA n0)) (F0 m 38 ls []) := fun n u h g => wh_ind (P := fun u => ∀ (H : Heap) (locs : List Loc) (ls : Array Slot), Wd n0 D Y (u.2) s H locs → lv_has ls 4 [(0, .ref (n0 + x0)), (1, .int u.1)] → W p l e rmX12_drawTurns s m args below meth c H locs 0 0 (MQ below (PosV n0 D Y fin) args s 0 0 (AA n0)) (F0 m 38 ls [])) (G := (fun x => x = fin)) (fun u x h hF H locs ls hw hl => tX12_drawTurns_38 C (P38 := fun u => ∀ (H : Heap) (locs : List Loc) (ls : Array Slot), Wd n0 D Y (u.2) s H locs → lv_has ls 4 [(0, .ref (n0 + x0)), (1, .int u.1)] → W p l e rmX12_drawTurns s m args below meth c H locs 0 0 (MQ below (PosV n0 D Y fin) args s 0 0 (AA n0)) (F0 m 38 ls [])) (fun _ h => h) h hF hw hl) n u x h g
noncomputable def fX12_drawTurns_10 (N : Nat) (x0 : Nat) (x1 : Int32) (z : Hp) : Option ((Int32 × Hp) ⊕ (Hp)) := gd (x0 < zn z ∧ zK z x0 = 11) <| br ((zF z 706 x0) ≤ x1) (lf <| bd ((zF z 706 x0) - (1 : Int32)) fun v4 => wh (fun (u : Int32 × Hp) => fX12_drawTurns_38 N x0 u.1 u.2) N (v4, z)) (bo (zG z 740 x0) fun b7 => gd (b7 < zn z ∧ zK z b7 = 12) <| gd (¬ (x1 < 0 ∨ zL z b7 ≤ Int32.toNatClampNeg x1)) <| bd (zsA z b7 (Int32.toNatClampNeg x1) x1) fun z10 => bd (x1 + (1 : Int32)) fun v12 => some (.inl (v12, z10)))
set_option maxHeartbeats 4000000 in
set_option maxRecDepth 100000 in
theorem tX12_drawTurns_10 {n0 : Nat} {D : va_G} {Y : Nat → ClassId} {p : Program} {l : Launch} {e : Env} {s : State} {m : MethodId} {args : Array Value} {below : List Frame} {meth : Method} {c : Code} {N : Nat} {fin : Hp} {x0 : Nat} {x1 : Int32}  {z : Hp} (C : Cx n0 D Y RX12 cX12_drawTurns none 4 wsX12_drawTurns "drawTurns" p s m args meth c) {P10 : Int32 × Hp → Prop} (hP10 : ∀ u, P10 u → ∀ (H : Heap) (locs : List Loc) (ls : Array Slot), Wd n0 D Y (u.2) s H locs → lv_has ls 4 [(0, .ref (n0 + x0)), (1, .int u.1)] → W p l e rmX12_drawTurns s m args below meth c H locs 0 0 (MQ below (PosV n0 D Y fin) args s 0 0 (AA n0)) (F0 m 10 ls [])) {x : ((Int32 × Hp) ⊕ (Hp))} (h : fX12_drawTurns_10 N x0 x1  z = some x) (hF : (Fn P10 (fun x => x = fin)) x) {H : Heap} {locs : List Loc} {ls : Array Slot} (hw : Wd n0 D Y z s H locs) (hl : lv_has ls 4 [(0, .ref (n0 + x0)), (1, .int x1)]) : W p l e rmX12_drawTurns s m args below meth c H locs 0 0 (MQ below (PosV n0 D Y fin) args s 0 0 (AA n0)) (F0 m 10 ls []) := by
  unfold fX12_drawTurns_10 at h
  refine lv_iload_n C.1 C.2.1 dX12_drawTurns_10 rfl (lv_at hl 1 rfl) ?_
  refine lv_aload_n C.1 C.2.1 dX12_drawTurns_11 rfl (lv_at hl 0 rfl) ?_
  obtain ⟨g1, h⟩ := gdE h
  refine r_get (v := .int (zF z 706 x0)) C hw g1 (by decide) (Cn := RX12) (T := TX12) (N := 50) rfl in_X12_drawTurns_X12 2 (by decide) (by decide +kernel) (fun _ h => h) rfl dX12_drawTurns_12 ?_
  refine lv_icmp_ge (tgt := 31) C.1 C.2.1 dX12_drawTurns_15 (by decide) (fun c2 => ?_) (fun c2 => ?_)
  · replace h := brT h c2
    obtain ⟨y3, h, hF⟩ := lfX h hF
    refine lv_aload_n C.1 C.2.1 dX12_drawTurns_31 rfl (lv_at hl 0 rfl) ?_
    refine r_get (v := .int (zF z 706 x0)) C hw g1 (by decide) (Cn := RX12) (T := TX12) (N := 50) rfl in_X12_drawTurns_X12 2 (by decide) (by decide +kernel) (fun _ h => h) rfl dX12_drawTurns_32 ?_
    refine lv_iconst (v := (1 : Int32)) C.1 C.2.1 dX12_drawTurns_35 (by decide) ?_
    refine lv_isub C.1 C.2.1 dX12_drawTurns_36 ?_
    obtain ⟨v4, e5, h⟩ := bdE h
    refine r_topi e5 ?_
    refine lv_istore_n (i := 1) (lv' := [(1, .int v4), (0, .ref (n0 + x0))]) C.1 C.2.1 dX12_drawTurns_37 rfl hl (by decide) rfl (fun ls hl => ?_)
    exact lX12_drawTurns_38 C _ _ h hF _ _ _ hw (lv_sub hl [1, 0] rfl)
  · replace h := brF h c2
    refine lv_aload_n C.1 C.2.1 dX12_drawTurns_18 rfl (lv_at hl 0 rfl) ?_
    refine r_get (v := rv n0 (zG z 740 x0)) C hw g1 (by decide) (Cn := RX12) (T := TX12) (N := 50) rfl in_X12_drawTurns_X12 36 (by decide) (by decide +kernel) (fun _ h => h) rfl dX12_drawTurns_19 ?_
    obtain ⟨b7, e6, h⟩ := boE h
    refine r_topr e6 ?_
    refine lv_iload_n C.1 C.2.1 dX12_drawTurns_22 rfl (lv_at hl 1 rfl) ?_
    refine lv_iload_n C.1 C.2.1 dX12_drawTurns_23 rfl (lv_at hl 1 rfl) ?_
    obtain ⟨g8, h⟩ := gdE h
    obtain ⟨i9, h⟩ := gdE h
    obtain ⟨z10, e11, h⟩ := bdE h
    refine r_iast C hw g8 i9 e11 dX12_drawTurns_24 (fun H locs hw => ?_)
    obtain ⟨v12, e13, h⟩ := bdE h
    refine lv_iinc (v := v12) (lv' := [(1, .int v12), (0, .ref (n0 + x0))]) C.1 C.2.1 dX12_drawTurns_25 hl (k := 1) rfl (by rw [e13]; rfl) (by decide) rfl (fun ls hl => ?_)
    refine lv_goto (tgt := 10) C.1 C.2.1 dX12_drawTurns_28 (by decide) ?_
    cases h
    exact hP10 _ hF _ _ _ hw (lv_sub hl [1, 0] rfl)
set_option maxHeartbeats 4000000 in
set_option maxRecDepth 100000 in
theorem lX12_drawTurns_10 {n0 : Nat} {D : va_G} {Y : Nat → ClassId} {p : Program} {l : Launch} {e : Env} {s : State} {m : MethodId} {args : Array Value} {below : List Frame} {meth : Method} {c : Code} {N : Nat} {fin : Hp} {x0 : Nat} (C : Cx n0 D Y RX12 cX12_drawTurns none 4 wsX12_drawTurns "drawTurns" p s m args meth c) {x : (Hp)} : ∀ (n : Nat) (u : Int32 × Hp), wh (fun (u : Int32 × Hp) => fX12_drawTurns_10 N x0 u.1 u.2) n u = some x → (fun x => x = fin) x → ∀ (H : Heap) (locs : List Loc) (ls : Array Slot), Wd n0 D Y (u.2) s H locs → lv_has ls 4 [(0, .ref (n0 + x0)), (1, .int u.1)] → W p l e rmX12_drawTurns s m args below meth c H locs 0 0 (MQ below (PosV n0 D Y fin) args s 0 0 (AA n0)) (F0 m 10 ls []) := fun n u h g => wh_ind (P := fun u => ∀ (H : Heap) (locs : List Loc) (ls : Array Slot), Wd n0 D Y (u.2) s H locs → lv_has ls 4 [(0, .ref (n0 + x0)), (1, .int u.1)] → W p l e rmX12_drawTurns s m args below meth c H locs 0 0 (MQ below (PosV n0 D Y fin) args s 0 0 (AA n0)) (F0 m 10 ls [])) (G := (fun x => x = fin)) (fun u x h hF H locs ls hw hl => tX12_drawTurns_10 C (P10 := fun u => ∀ (H : Heap) (locs : List Loc) (ls : Array Slot), Wd n0 D Y (u.2) s H locs → lv_has ls 4 [(0, .ref (n0 + x0)), (1, .int u.1)] → W p l e rmX12_drawTurns s m args below meth c H locs 0 0 (MQ below (PosV n0 D Y fin) args s 0 0 (AA n0)) (F0 m 10 ls [])) (fun _ h => h) h hF hw hl) n u x h g
noncomputable def fX12_drawTurns (N : Nat) (x0 : Nat) (z : Hp) : Option (Hp) := gd (x0 < zn z ∧ zK z x0 = 11) <| br ((zF z 741 x0) ≤ 0) (wh (fun (u : Int32 × Hp) => fX12_drawTurns_10 N x0 u.1 u.2) N ((0 : Int32), z)) (some z)
set_option maxHeartbeats 4000000 in
set_option maxRecDepth 100000 in
theorem tX12_drawTurns_0 {n0 : Nat} {D : va_G} {Y : Nat → ClassId} {p : Program} {l : Launch} {e : Env} {s : State} {m : MethodId} {args : Array Value} {below : List Frame} {meth : Method} {c : Code} {N : Nat} {fin : Hp} {x0 : Nat}  {z : Hp} (C : Cx n0 D Y RX12 cX12_drawTurns none 4 wsX12_drawTurns "drawTurns" p s m args meth c) {x : (Hp)} (h : fX12_drawTurns N x0  z = some x) (hF : (fun x => x = fin) x) {H : Heap} {locs : List Loc} {ls : Array Slot} (hw : Wd n0 D Y z s H locs) (hl : lv_has ls 4 [(0, .ref (n0 + x0))]) : W p l e rmX12_drawTurns s m args below meth c H locs 0 0 (MQ below (PosV n0 D Y fin) args s 0 0 (AA n0)) (F0 m 0 ls []) := by
  unfold fX12_drawTurns at h
  refine lv_aload_n C.1 C.2.1 dX12_drawTurns_0 rfl (lv_at hl 0 rfl) ?_
  obtain ⟨g1, h⟩ := gdE h
  refine r_get (v := .int (zF z 741 x0)) C hw g1 (by decide) (Cn := RX12) (T := TX12) (N := 50) rfl in_X12_drawTurns_X12 37 (by decide) (by decide +kernel) (fun _ h => h) rfl dX12_drawTurns_1 ?_
  refine lv_if_le (tgt := 8) C.1 C.2.1 dX12_drawTurns_4 (by decide) (fun c2 => ?_) (fun c2 => ?_)
  · replace h := brT h c2
    refine lv_iconst (v := (0 : Int32)) C.1 C.2.1 dX12_drawTurns_8 (by decide) ?_
    refine lv_istore_n (i := 1) (lv' := [(1, .int (0 : Int32)), (0, .ref (n0 + x0))]) C.1 C.2.1 dX12_drawTurns_9 rfl hl (by decide) rfl (fun ls hl => ?_)
    exact lX12_drawTurns_10 C _ _ h hF _ _ _ hw (lv_sub hl [1, 0] rfl)
  · replace h := brF h c2
    cases h
    replace hF : _ = fin := hF
    subst hF
    exact r_vret C hw dX12_drawTurns_7
set_option maxRecDepth 100000 in
theorem kX12_drawTurns (l : Launch) (n0 : Nat) (D : va_G) (Y : Nat → ClassId) (N : Nat) (x0 : Nat) (z : Hp) {z1 : Hp} (h : fX12_drawTurns N x0 z = some z1) : Met l yX12_drawTurns wsX12_drawTurns rmX12_drawTurns (PreC n0 D Y z [.ref (n0 + x0)]) (PosV n0 D Y z1) 0 0 (AA n0) := by
  refine Met.ofW (cc := cX12_drawTurns) (maxL := 4) (ret := none) (by decide) rfl ?_
  intro p e s m args below meth c s₁ B hml hv
  obtain ⟨rfl, hR, hK⟩ := hv
  have C : Cx n0 D Y RX12 cX12_drawTurns none 4 wsX12_drawTurns "drawTurns" p s m ([.ref (n0 + x0)] : List Value).toArray meth c := ⟨B.exec, B.bytes, B.returns, hml, findClass_of_methodNamed B.named, atoms_spec (ws := wsX12_drawTurns) B.pre, B.notSynchronized, (name_of_methodNamed B.named B.method).1, hK⟩
  have hl := lv_entry ([.ref (n0 + x0)]) (n := 4) (Nat.le_of_ble_eq_true rfl)
  rw [lg_entry_eq]
  generalize (lg_sl ([.ref (n0 + x0)]) ++ List.replicate (4 - (lg_sl ([.ref (n0 + x0)])).length) Slot.unset).toArray = ls at hl ⊢
  have hl : lv_has ls 4 [(0, .ref (n0 + x0))] := hl
  exact tX12_drawTurns_0 C h rfl ⟨hR, va_S.rf⟩ hl
abbrev rmX12_lessBy : Room := { frames := 0, cells := 0, slots := 0, locals := 0 }
noncomputable def fX12_lessBy (N : Nat) (x0 : Int32) (x1 : Int32) (x2 : Int32) (z : Hp) : Option (Int32) := bd ((1000 : Int32) - (x1 * x2)) fun v1 => br (0 ≤ v1) (some ((x0 * v1) / (1000 : Int32))) (some (0 : Int32))
set_option maxHeartbeats 4000000 in
set_option maxRecDepth 100000 in
theorem tX12_lessBy_0 {n0 : Nat} {D : va_G} {Y : Nat → ClassId} {p : Program} {l : Launch} {e : Env} {s : State} {m : MethodId} {args : Array Value} {below : List Frame} {meth : Method} {c : Code} {N : Nat} {fin : Int32} {x0 : Int32} {x1 : Int32} {x2 : Int32}  {z : Hp} (C : Cx n0 D Y RX12 cX12_lessBy (some .int) 4 wsX12_lessBy "lessBy" p s m args meth c) {x : (Int32)} (h : fX12_lessBy N x0 x1 x2  z = some x) (hF : (fun x => x = fin) x) {H : Heap} {locs : List Loc} {ls : Array Slot} (hw : Wd n0 D Y z s H locs) (hl : lv_has ls 4 [(0, .int x0), (1, .int x1), (2, .int x2)]) : W p l e rmX12_lessBy s m args below meth c H locs 0 0 (MQ below (PosI n0 D Y z fin) args s 0 0 (AA n0)) (F0 m 0 ls []) := by
  unfold fX12_lessBy at h
  refine lv_sipush (v := (1000 : Int32)) C.1 C.2.1 dX12_lessBy_0 (by decide) ?_
  refine lv_iload_n C.1 C.2.1 dX12_lessBy_3 rfl (lv_at hl 1 rfl) ?_
  refine lv_iload_n C.1 C.2.1 dX12_lessBy_4 rfl (lv_at hl 2 rfl) ?_
  refine lv_imul C.1 C.2.1 dX12_lessBy_5 ?_
  refine lv_isub C.1 C.2.1 dX12_lessBy_6 ?_
  obtain ⟨v1, e2, h⟩ := bdE h
  refine r_topi e2 ?_
  refine lv_istore_n (i := 3) (lv' := [(3, .int v1), (0, .int x0), (1, .int x1), (2, .int x2)]) C.1 C.2.1 dX12_lessBy_7 rfl hl (by decide) rfl (fun ls hl => ?_)
  refine lv_iload_n C.1 C.2.1 dX12_lessBy_8 rfl (lv_at hl 0 rfl) ?_
  refine lv_if_ge (tgt := 16) C.1 C.2.1 dX12_lessBy_9 (by decide) (fun c3 => ?_) (fun c3 => ?_)
  · replace h := brT h c3
    refine lv_iload_n C.1 C.2.1 dX12_lessBy_16 rfl (lv_at hl 1 rfl) ?_
    refine lv_iload_n C.1 C.2.1 dX12_lessBy_17 rfl (lv_at hl 0 rfl) ?_
    refine lv_imul C.1 C.2.1 dX12_lessBy_18 ?_
    refine lv_sipush (v := (1000 : Int32)) C.1 C.2.1 dX12_lessBy_19 (by decide) ?_
    refine lv_idiv C.1 C.2.1 dX12_lessBy_22 (by decide) ?_
    cases h
    replace hF : _ = fin := hF
    subst hF
    exact r_iret C hw dX12_lessBy_23
  · replace h := brF h c3
    refine lv_iconst (v := (0 : Int32)) C.1 C.2.1 dX12_lessBy_12 (by decide) ?_
    refine lv_goto (tgt := 23) C.1 C.2.1 dX12_lessBy_13 (by decide) ?_
    cases h
    replace hF : _ = fin := hF
    subst hF
    exact r_iret C hw dX12_lessBy_23
set_option maxRecDepth 100000 in
theorem kX12_lessBy (l : Launch) (n0 : Nat) (D : va_G) (Y : Nat → ClassId) (N : Nat) (x0 : Int32) (x1 : Int32) (x2 : Int32) (z : Hp) {r : Int32} (h : fX12_lessBy N x0 x1 x2 z = some r) : Met l yX12_lessBy wsX12_lessBy rmX12_lessBy (PreC n0 D Y z [.int x0, .int x1, .int x2]) (PosI n0 D Y z r) 0 0 (AA n0) := by
  refine Met.ofW (cc := cX12_lessBy) (maxL := 4) (ret := (some .int)) (by decide) rfl ?_
  intro p e s m args below meth c s₁ B hml hv
  obtain ⟨rfl, hR, hK⟩ := hv
  have C : Cx n0 D Y RX12 cX12_lessBy (some .int) 4 wsX12_lessBy "lessBy" p s m ([.int x0, .int x1, .int x2] : List Value).toArray meth c := ⟨B.exec, B.bytes, B.returns, hml, findClass_of_methodNamed B.named, atoms_spec (ws := wsX12_lessBy) B.pre, B.notSynchronized, (name_of_methodNamed B.named B.method).1, hK⟩
  have hl := lv_entry ([.int x0, .int x1, .int x2]) (n := 4) (Nat.le_of_ble_eq_true rfl)
  rw [lg_entry_eq]
  generalize (lg_sl ([.int x0, .int x1, .int x2]) ++ List.replicate (4 - (lg_sl ([.int x0, .int x1, .int x2])).length) Slot.unset).toArray = ls at hl ⊢
  have hl : lv_has ls 4 [(0, .int x0), (1, .int x1), (2, .int x2)] := hl
  exact tX12_lessBy_0 C h rfl ⟨hR, va_S.rf⟩ hl
theorem in_X12_search_X12 : ∀ w ∈ wsX120, w ∈ wsX12_search := by decide +kernel
abbrev rmX12_search : Room := { frames := 2, cells := 0, slots := 0, locals := 53 }
noncomputable def fX12_search_341 (N : Nat) (x0 : Nat) (x1 : Int32) (z : Hp) : Option (Int32 × Hp) := gd (x0 < zn z ∧ zK z x0 = 11) <| bp (fX12_enter N x0 (3 : Int32) x1 z) fun r2 z3 => some (r2, z3)
set_option maxHeartbeats 4000000 in
set_option maxRecDepth 100000 in
theorem tX12_search_341 {n0 : Nat} {D : va_G} {Y : Nat → ClassId} {p : Program} {l : Launch} {e : Env} {s : State} {m : MethodId} {args : Array Value} {below : List Frame} {meth : Method} {c : Code} {N : Nat} {fin : Int32 × Hp} {x0 : Nat} {x1 : Int32}  {z : Hp} (C : Cx n0 D Y RX12 cX12_search (some .int) 9 wsX12_search "search" p s m args meth c) {x : (Int32 × Hp)} (h : fX12_search_341 N x0 x1  z = some x) (hF : (fun x => x = fin) x) {H : Heap} {locs : List Loc} {ls : Array Slot} (hw : Wd n0 D Y z s H locs) (hl : lv_has ls 9 [(0, .ref (n0 + x0)), (1, .int x1)]) : W p l e rmX12_search s m args below meth c H locs 0 0 (MQ below (PosI n0 D Y fin.2 fin.1) args s 0 0 (AA n0)) (F0 m 341 ls []) := by
  unfold fX12_search_341 at h
  refine lv_aload_n C.1 C.2.1 dX12_search_341 rfl (lv_at hl 0 rfl) ?_
  refine lv_iconst (v := (3 : Int32)) C.1 C.2.1 dX12_search_342 (by decide) ?_
  refine lv_iload_n C.1 C.2.1 dX12_search_343 rfl (lv_at hl 1 rfl) ?_
  obtain ⟨g4, h⟩ := gdE h
  obtain ⟨r2, z3, e1, h⟩ := bpE h
  refine r_afti hw (r_runV (As := [.int (3 : Int32), .int x1]) (rest := []) C hw (ki := 11) g4 (by decide) rfl (kX12_enter l n0 D Y N x0 (3 : Int32) x1 z e1) (cwV 2 C.2.2.2.2.2.1 gX12_search_X12_enter rfl rfl rfl (by decide +kernel) ⟨(Nat.le_of_ble_eq_true rfl), (Nat.le_of_ble_eq_true rfl)⟩) rfl hl.1 rfl (Nat.le_of_ble_eq_true rfl) dX12_search_344 ⟨(Nat.le_of_ble_eq_true rfl), (Nat.le_of_ble_eq_true rfl)⟩) (fun H locs hw => ?_)
  cases h
  replace hF : _ = fin := hF
  subst hF
  exact r_iret C hw dX12_search_347
noncomputable def fX12_search_340 (N : Nat) (x0 : Nat) (x1 : Int32) (s0 : Int32) (s1 : Int32) (s2 : Nat) (z : Hp) : Option (Int32 × Hp) := gd (s2 < zn z ∧ zK z s2 = 12) <| gd (¬ (s1 < 0 ∨ zL z s2 ≤ Int32.toNatClampNeg s1)) <| bd (zsA z s2 (Int32.toNatClampNeg s1) s0) fun z3 => fX12_search_341 N x0 x1 z3
set_option maxHeartbeats 4000000 in
set_option maxRecDepth 100000 in
theorem tX12_search_340 {n0 : Nat} {D : va_G} {Y : Nat → ClassId} {p : Program} {l : Launch} {e : Env} {s : State} {m : MethodId} {args : Array Value} {below : List Frame} {meth : Method} {c : Code} {N : Nat} {fin : Int32 × Hp} {x0 : Nat} {x1 : Int32} {s0 : Int32} {s1 : Int32} {s2 : Nat} {z : Hp} (C : Cx n0 D Y RX12 cX12_search (some .int) 9 wsX12_search "search" p s m args meth c) {x : (Int32 × Hp)} (h : fX12_search_340 N x0 x1 s0 s1 s2 z = some x) (hF : (fun x => x = fin) x) {H : Heap} {locs : List Loc} {ls : Array Slot} (hw : Wd n0 D Y z s H locs) (hl : lv_has ls 9 [(0, .ref (n0 + x0)), (1, .int x1)]) : W p l e rmX12_search s m args below meth c H locs 0 0 (MQ below (PosI n0 D Y fin.2 fin.1) args s 0 0 (AA n0)) (F0 m 340 ls [.int s0, .int s1, .ref (n0 + s2)]) := by
  unfold fX12_search_340 at h
  obtain ⟨g1, h⟩ := gdE h
  obtain ⟨i2, h⟩ := gdE h
  obtain ⟨z3, e4, h⟩ := bdE h
  refine r_iast C hw g1 i2 e4 dX12_search_340 (fun H locs hw => ?_)
  exact tX12_search_341 C h hF hw (lv_sub hl [0, 1] rfl)
noncomputable def fX12_search_268 (N : Nat) (x0 : Nat) (x1 : Int32) (x2 : Int32) (s0 : Int32) (z : Hp) : Option (Int32 × Hp) := gd (x0 < zn z ∧ zK z x0 = 11) <| bo (zG z 728 x0) fun b3 => gd (b3 < zn z ∧ zK z b3 = 12) <| gd (¬ ((x2 + (4 : Int32)) < 0 ∨ zL z b3 ≤ Int32.toNatClampNeg (x2 + (4 : Int32)))) <| bd (zsA z b3 (Int32.toNatClampNeg (x2 + (4 : Int32))) (1 : Int32)) fun z6 => bo (zG z6 728 x0) fun b10 => gd (b10 < zn z6 ∧ zK z6 b10 = 12) <| gd (¬ ((x2 + (5 : Int32)) < 0 ∨ zL z6 b10 ≤ Int32.toNatClampNeg (x2 + (5 : Int32)))) <| bd (zsA z6 b10 (Int32.toNatClampNeg (x2 + (5 : Int32))) ((zF z6 745 x0) * s0)) fun z13 => bo (zG z13 730 x0) fun b17 => gd (b17 < zn z13 ∧ zK z13 b17 = 12) <| gd (¬ (x1 < 0 ∨ zL z13 b17 ≤ (x1).toNatClampNeg)) <| gd (¬ (x1 < 0 ∨ zL z13 b17 ≤ Int32.toNatClampNeg x1)) <| bd (zsA z13 b17 (Int32.toNatClampNeg x1) ((zA z13 b17 (x1).toNatClampNeg) + ((zF z13 745 x0) * s0))) fun z21 => bo (zG z21 731 x0) fun b25 => bo (zG z21 729 x0) fun b27 => gd (b27 < zn z21 ∧ zK z21 b27 = 12) <| gd (¬ (x1 < 0 ∨ zL z21 b27 ≤ (x1).toNatClampNeg)) <| br ((zA z21 b27 (x1).toNatClampNeg) < (4 : Int32)) (bo (zG z21 731 x0) fun b32 => gd (b32 < zn z21 ∧ zK z21 b32 = 12) <| gd (¬ (x1 < 0 ∨ zL z21 b32 ≤ (x1).toNatClampNeg)) <| fX12_search_340 N x0 x1 (zA z21 b32 (x1).toNatClampNeg) x1 b25 z21) (fX12_search_340 N x0 x1 ((zF z21 704 x0) + (2 : Int32)) x1 b25 z21)
set_option maxHeartbeats 4000000 in
set_option maxRecDepth 100000 in
theorem tX12_search_268 {n0 : Nat} {D : va_G} {Y : Nat → ClassId} {p : Program} {l : Launch} {e : Env} {s : State} {m : MethodId} {args : Array Value} {below : List Frame} {meth : Method} {c : Code} {N : Nat} {fin : Int32 × Hp} {x0 : Nat} {x1 : Int32} {x2 : Int32} {s0 : Int32} {z : Hp} (C : Cx n0 D Y RX12 cX12_search (some .int) 9 wsX12_search "search" p s m args meth c) {x : (Int32 × Hp)} (h : fX12_search_268 N x0 x1 x2 s0 z = some x) (hF : (fun x => x = fin) x) {H : Heap} {locs : List Loc} {ls : Array Slot} (hw : Wd n0 D Y z s H locs) (hl : lv_has ls 9 [(0, .ref (n0 + x0)), (1, .int x1), (2, .int x2)]) : W p l e rmX12_search s m args below meth c H locs 0 0 (MQ below (PosI n0 D Y fin.2 fin.1) args s 0 0 (AA n0)) (F0 m 268 ls [.int s0]) := by
  unfold fX12_search_268 at h
  refine lv_istore (i := 8) (lv' := [(8, .int s0), (0, .ref (n0 + x0)), (1, .int x1), (2, .int x2)]) C.1 C.2.1 dX12_search_268 hl (by decide) rfl (fun ls hl => ?_)
  refine lv_aload_n C.1 C.2.1 dX12_search_270 rfl (lv_at hl 1 rfl) ?_
  obtain ⟨g1, h⟩ := gdE h
  refine r_get (v := rv n0 (zG z 728 x0)) C hw g1 (by decide) (Cn := RX12) (T := TX12) (N := 50) rfl in_X12_search_X12 24 (by decide) (by decide +kernel) (fun _ h => h) rfl dX12_search_271 ?_
  obtain ⟨b3, e2, h⟩ := boE h
  refine r_topr e2 ?_
  refine lv_iload_n C.1 C.2.1 dX12_search_274 rfl (lv_at hl 3 rfl) ?_
  refine lv_iconst (v := (4 : Int32)) C.1 C.2.1 dX12_search_275 (by decide) ?_
  refine lv_iadd C.1 C.2.1 dX12_search_276 ?_
  refine lv_iconst (v := (1 : Int32)) C.1 C.2.1 dX12_search_277 (by decide) ?_
  obtain ⟨g4, h⟩ := gdE h
  obtain ⟨i5, h⟩ := gdE h
  obtain ⟨z6, e7, h⟩ := bdE h
  refine r_iast C hw g4 i5 e7 dX12_search_278 (fun H locs hw => ?_)
  refine lv_aload_n C.1 C.2.1 dX12_search_279 rfl (lv_at hl 1 rfl) ?_
  have g8 : x0 < zn z6 ∧ zK z6 x0 = 11 := by rw [e7]; exact g1
  refine r_get (v := rv n0 (zG z6 728 x0)) C hw g8 (by decide) (Cn := RX12) (T := TX12) (N := 50) rfl in_X12_search_X12 24 (by decide) (by decide +kernel) (fun _ h => h) rfl dX12_search_280 ?_
  obtain ⟨b10, e9, h⟩ := boE h
  refine r_topr e9 ?_
  refine lv_iload_n C.1 C.2.1 dX12_search_283 rfl (lv_at hl 3 rfl) ?_
  refine lv_iconst (v := (5 : Int32)) C.1 C.2.1 dX12_search_284 (by decide) ?_
  refine lv_iadd C.1 C.2.1 dX12_search_285 ?_
  refine lv_aload_n C.1 C.2.1 dX12_search_286 rfl (lv_at hl 1 rfl) ?_
  refine r_get (v := .int (zF z6 745 x0)) C hw g8 (by decide) (Cn := RX12) (T := TX12) (N := 50) rfl in_X12_search_X12 41 (by decide) (by decide +kernel) (fun _ h => h) rfl dX12_search_287 ?_
  refine lv_iload C.1 C.2.1 dX12_search_290 (lv_at hl 0 rfl) ?_
  refine lv_imul C.1 C.2.1 dX12_search_292 ?_
  obtain ⟨g11, h⟩ := gdE h
  obtain ⟨i12, h⟩ := gdE h
  obtain ⟨z13, e14, h⟩ := bdE h
  refine r_iast C hw g11 i12 e14 dX12_search_293 (fun H locs hw => ?_)
  refine lv_aload_n C.1 C.2.1 dX12_search_294 rfl (lv_at hl 1 rfl) ?_
  have g15 : x0 < zn z13 ∧ zK z13 x0 = 11 := by rw [e14]; exact g8
  refine r_get (v := rv n0 (zG z13 730 x0)) C hw g15 (by decide) (Cn := RX12) (T := TX12) (N := 50) rfl in_X12_search_X12 26 (by decide) (by decide +kernel) (fun _ h => h) rfl dX12_search_295 ?_
  obtain ⟨b17, e16, h⟩ := boE h
  refine r_topr e16 ?_
  refine lv_iload_n C.1 C.2.1 dX12_search_298 rfl (lv_at hl 2 rfl) ?_
  refine lv_dup2_11 C.1 C.2.1 dX12_search_299 rfl rfl ?_
  obtain ⟨g18, h⟩ := gdE h
  obtain ⟨i19, h⟩ := gdE h
  refine r_iald C hw g18 i19 dX12_search_300 ?_
  refine lv_aload_n C.1 C.2.1 dX12_search_301 rfl (lv_at hl 1 rfl) ?_
  refine r_get (v := .int (zF z13 745 x0)) C hw g15 (by decide) (Cn := RX12) (T := TX12) (N := 50) rfl in_X12_search_X12 41 (by decide) (by decide +kernel) (fun _ h => h) rfl dX12_search_302 ?_
  refine lv_iload C.1 C.2.1 dX12_search_305 (lv_at hl 0 rfl) ?_
  refine lv_imul C.1 C.2.1 dX12_search_307 ?_
  refine lv_iadd C.1 C.2.1 dX12_search_308 ?_
  obtain ⟨i20, h⟩ := gdE h
  obtain ⟨z21, e22, h⟩ := bdE h
  refine r_iast C hw g18 i20 e22 dX12_search_309 (fun H locs hw => ?_)
  refine lv_aload_n C.1 C.2.1 dX12_search_310 rfl (lv_at hl 1 rfl) ?_
  have g23 : x0 < zn z21 ∧ zK z21 x0 = 11 := by rw [e22]; exact g15
  refine r_get (v := rv n0 (zG z21 731 x0)) C hw g23 (by decide) (Cn := RX12) (T := TX12) (N := 50) rfl in_X12_search_X12 27 (by decide) (by decide +kernel) (fun _ h => h) rfl dX12_search_311 ?_
  obtain ⟨b25, e24, h⟩ := boE h
  refine r_topr e24 ?_
  refine lv_iload_n C.1 C.2.1 dX12_search_314 rfl (lv_at hl 2 rfl) ?_
  refine lv_aload_n C.1 C.2.1 dX12_search_315 rfl (lv_at hl 1 rfl) ?_
  refine r_get (v := rv n0 (zG z21 729 x0)) C hw g23 (by decide) (Cn := RX12) (T := TX12) (N := 50) rfl in_X12_search_X12 25 (by decide) (by decide +kernel) (fun _ h => h) rfl dX12_search_316 ?_
  obtain ⟨b27, e26, h⟩ := boE h
  refine r_topr e26 ?_
  refine lv_iload_n C.1 C.2.1 dX12_search_319 rfl (lv_at hl 2 rfl) ?_
  obtain ⟨g28, h⟩ := gdE h
  obtain ⟨i29, h⟩ := gdE h
  refine r_iald C hw g28 i29 dX12_search_320 ?_
  refine lv_iconst (v := (4 : Int32)) C.1 C.2.1 dX12_search_321 (by decide) ?_
  refine lv_icmp_lt (tgt := 334) C.1 C.2.1 dX12_search_322 (by decide) (fun c30 => ?_) (fun c30 => ?_)
  · replace h := brT h c30
    refine lv_aload_n C.1 C.2.1 dX12_search_334 rfl (lv_at hl 1 rfl) ?_
    refine r_get (v := rv n0 (zG z21 731 x0)) C hw g23 (by decide) (Cn := RX12) (T := TX12) (N := 50) rfl in_X12_search_X12 27 (by decide) (by decide +kernel) (fun _ h => h) rfl dX12_search_335 ?_
    obtain ⟨b32, e31, h⟩ := boE h
    refine r_topr e31 ?_
    refine lv_iload_n C.1 C.2.1 dX12_search_338 rfl (lv_at hl 2 rfl) ?_
    obtain ⟨g33, h⟩ := gdE h
    obtain ⟨i34, h⟩ := gdE h
    refine r_iald C hw g33 i34 dX12_search_339 ?_
    exact tX12_search_340 C h hF hw (lv_sub hl [1, 2] rfl)
  · replace h := brF h c30
    refine lv_aload_n C.1 C.2.1 dX12_search_325 rfl (lv_at hl 1 rfl) ?_
    refine r_get (v := .int (zF z21 704 x0)) C hw g23 (by decide) (Cn := RX12) (T := TX12) (N := 50) rfl in_X12_search_X12 0 (by decide) (by decide +kernel) (fun _ h => h) rfl dX12_search_326 ?_
    refine lv_iconst (v := (2 : Int32)) C.1 C.2.1 dX12_search_329 (by decide) ?_
    refine lv_iadd C.1 C.2.1 dX12_search_330 ?_
    refine lv_goto (tgt := 340) C.1 C.2.1 dX12_search_331 (by decide) ?_
    exact tX12_search_340 C h hF hw (lv_sub hl [1, 2] rfl)
noncomputable def fX12_search_194 (N : Nat) (x0 : Nat) (x1 : Int32) (x2 : Int32) (x4 : Int32) (x6 : Int32) (s0 : Int32) (s1 : Int32) (z : Hp) : Option (Int32 × Hp) := bo (fX12_lessBy N s1 s0 x4 z) fun r2 => gd (x0 < zn z ∧ zK z x0 = 11) <| bo (zG z 728 x0) fun b5 => gd (b5 < zn z ∧ zK z b5 = 12) <| gd (¬ ((x2 + (1 : Int32)) < 0 ∨ zL z b5 ≤ Int32.toNatClampNeg (x2 + (1 : Int32)))) <| bd (zsA z b5 (Int32.toNatClampNeg (x2 + (1 : Int32))) x4) fun z8 => bo (zG z8 728 x0) fun b12 => gd (b12 < zn z8 ∧ zK z8 b12 = 12) <| gd (¬ ((x2 + (2 : Int32)) < 0 ∨ zL z8 b12 ≤ Int32.toNatClampNeg (x2 + (2 : Int32)))) <| bd (zsA z8 b12 (Int32.toNatClampNeg (x2 + (2 : Int32))) x6) fun z15 => bo (zG z15 728 x0) fun b19 => gd (b19 < zn z15 ∧ zK z15 b19 = 12) <| gd (¬ ((x2 + (3 : Int32)) < 0 ∨ zL z15 b19 ≤ Int32.toNatClampNeg (x2 + (3 : Int32)))) <| bd (zsA z15 b19 (Int32.toNatClampNeg (x2 + (3 : Int32))) r2) fun z22 => br (r2 ≤ x6) (fX12_search_341 N x0 x1 z22) (bo (zG z22 729 x0) fun b27 => gd (b27 < zn z22 ∧ zK z22 b27 = 12) <| gd (¬ (x1 < 0 ∨ zL z22 b27 ≤ (x1).toNatClampNeg)) <| gd (¬ (x1 < 0 ∨ zL z22 b27 ≤ Int32.toNatClampNeg x1)) <| bd (zsA z22 b27 (Int32.toNatClampNeg x1) ((zA z22 b27 (x1).toNatClampNeg) + (1 : Int32))) fun z31 => bo (zG z31 729 x0) fun b35 => gd (b35 < zn z31 ∧ zK z31 b35 = 12) <| gd (¬ (x1 < 0 ∨ zL z31 b35 ≤ (x1).toNatClampNeg)) <| br ((zA z31 b35 (x1).toNatClampNeg) ≤ (4 : Int32)) (bo (zG z31 729 x0) fun b40 => gd (b40 < zn z31 ∧ zK z31 b40 = 12) <| gd (¬ (x1 < 0 ∨ zL z31 b40 ≤ (x1).toNatClampNeg)) <| fX12_search_268 N x0 x1 x2 (zA z31 b40 (x1).toNatClampNeg) z31) (fX12_search_268 N x0 x1 x2 (4 : Int32) z31))
set_option maxHeartbeats 4000000 in
set_option maxRecDepth 100000 in
theorem tX12_search_194 {n0 : Nat} {D : va_G} {Y : Nat → ClassId} {p : Program} {l : Launch} {e : Env} {s : State} {m : MethodId} {args : Array Value} {below : List Frame} {meth : Method} {c : Code} {N : Nat} {fin : Int32 × Hp} {x0 : Nat} {x1 : Int32} {x2 : Int32} {x4 : Int32} {x6 : Int32} {s0 : Int32} {s1 : Int32} {z : Hp} (C : Cx n0 D Y RX12 cX12_search (some .int) 9 wsX12_search "search" p s m args meth c) {x : (Int32 × Hp)} (h : fX12_search_194 N x0 x1 x2 x4 x6 s0 s1 z = some x) (hF : (fun x => x = fin) x) {H : Heap} {locs : List Loc} {ls : Array Slot} (hw : Wd n0 D Y z s H locs) (hl : lv_has ls 9 [(0, .ref (n0 + x0)), (1, .int x1), (2, .int x2), (4, .int x4), (6, .int x6)]) : W p l e rmX12_search s m args below meth c H locs 0 0 (MQ below (PosI n0 D Y fin.2 fin.1) args s 0 0 (AA n0)) (F0 m 194 ls [.int s0, .int s1]) := by
  unfold fX12_search_194 at h
  refine lv_iload C.1 C.2.1 dX12_search_194 (lv_at hl 3 rfl) ?_
  obtain ⟨r2, e1, h⟩ := boE h
  refine r_afti hw (r_runS (As := [.int s1, .int s0, .int x4]) (rest := []) C hw (kX12_lessBy l n0 D Y N s1 s0 x4 z e1) (va_cwS 3 C.2.2.2.2.2.1 gX12_search_X12_lessBy rfl rfl rfl (by decide +kernel) ⟨(Nat.le_of_ble_eq_true rfl), (Nat.le_of_ble_eq_true rfl)⟩) rfl hl.1 rfl (Nat.le_of_ble_eq_true rfl) dX12_search_196 ⟨(Nat.le_of_ble_eq_true rfl), (Nat.le_of_ble_eq_true rfl)⟩) (fun H locs hw => ?_)
  refine lv_istore (i := 7) (lv' := [(7, .int r2), (0, .ref (n0 + x0)), (1, .int x1), (2, .int x2), (4, .int x4), (6, .int x6)]) C.1 C.2.1 dX12_search_199 hl (by decide) rfl (fun ls hl => ?_)
  refine lv_aload_n C.1 C.2.1 dX12_search_201 rfl (lv_at hl 1 rfl) ?_
  obtain ⟨g3, h⟩ := gdE h
  refine r_get (v := rv n0 (zG z 728 x0)) C hw g3 (by decide) (Cn := RX12) (T := TX12) (N := 50) rfl in_X12_search_X12 24 (by decide) (by decide +kernel) (fun _ h => h) rfl dX12_search_202 ?_
  obtain ⟨b5, e4, h⟩ := boE h
  refine r_topr e4 ?_
  refine lv_iload_n C.1 C.2.1 dX12_search_205 rfl (lv_at hl 3 rfl) ?_
  refine lv_iconst (v := (1 : Int32)) C.1 C.2.1 dX12_search_206 (by decide) ?_
  refine lv_iadd C.1 C.2.1 dX12_search_207 ?_
  refine lv_iload C.1 C.2.1 dX12_search_208 (lv_at hl 4 rfl) ?_
  obtain ⟨g6, h⟩ := gdE h
  obtain ⟨i7, h⟩ := gdE h
  obtain ⟨z8, e9, h⟩ := bdE h
  refine r_iast C hw g6 i7 e9 dX12_search_210 (fun H locs hw => ?_)
  refine lv_aload_n C.1 C.2.1 dX12_search_211 rfl (lv_at hl 1 rfl) ?_
  have g10 : x0 < zn z8 ∧ zK z8 x0 = 11 := by rw [e9]; exact g3
  refine r_get (v := rv n0 (zG z8 728 x0)) C hw g10 (by decide) (Cn := RX12) (T := TX12) (N := 50) rfl in_X12_search_X12 24 (by decide) (by decide +kernel) (fun _ h => h) rfl dX12_search_212 ?_
  obtain ⟨b12, e11, h⟩ := boE h
  refine r_topr e11 ?_
  refine lv_iload_n C.1 C.2.1 dX12_search_215 rfl (lv_at hl 3 rfl) ?_
  refine lv_iconst (v := (2 : Int32)) C.1 C.2.1 dX12_search_216 (by decide) ?_
  refine lv_iadd C.1 C.2.1 dX12_search_217 ?_
  refine lv_iload C.1 C.2.1 dX12_search_218 (lv_at hl 5 rfl) ?_
  obtain ⟨g13, h⟩ := gdE h
  obtain ⟨i14, h⟩ := gdE h
  obtain ⟨z15, e16, h⟩ := bdE h
  refine r_iast C hw g13 i14 e16 dX12_search_220 (fun H locs hw => ?_)
  refine lv_aload_n C.1 C.2.1 dX12_search_221 rfl (lv_at hl 1 rfl) ?_
  have g17 : x0 < zn z15 ∧ zK z15 x0 = 11 := by rw [e16]; exact g10
  refine r_get (v := rv n0 (zG z15 728 x0)) C hw g17 (by decide) (Cn := RX12) (T := TX12) (N := 50) rfl in_X12_search_X12 24 (by decide) (by decide +kernel) (fun _ h => h) rfl dX12_search_222 ?_
  obtain ⟨b19, e18, h⟩ := boE h
  refine r_topr e18 ?_
  refine lv_iload_n C.1 C.2.1 dX12_search_225 rfl (lv_at hl 3 rfl) ?_
  refine lv_iconst (v := (3 : Int32)) C.1 C.2.1 dX12_search_226 (by decide) ?_
  refine lv_iadd C.1 C.2.1 dX12_search_227 ?_
  refine lv_iload C.1 C.2.1 dX12_search_228 (lv_at hl 0 rfl) ?_
  obtain ⟨g20, h⟩ := gdE h
  obtain ⟨i21, h⟩ := gdE h
  obtain ⟨z22, e23, h⟩ := bdE h
  refine r_iast C hw g20 i21 e23 dX12_search_230 (fun H locs hw => ?_)
  refine lv_iload C.1 C.2.1 dX12_search_231 (lv_at hl 5 rfl) ?_
  refine lv_iload C.1 C.2.1 dX12_search_233 (lv_at hl 0 rfl) ?_
  refine lv_icmp_ge (tgt := 341) C.1 C.2.1 dX12_search_235 (by decide) (fun c24 => ?_) (fun c24 => ?_)
  · replace h := brT h c24
    exact tX12_search_341 C h hF hw (lv_sub hl [1, 2] rfl)
  · replace h := brF h c24
    refine lv_aload_n C.1 C.2.1 dX12_search_238 rfl (lv_at hl 1 rfl) ?_
    have g25 : x0 < zn z22 ∧ zK z22 x0 = 11 := by rw [e23]; exact g17
    refine r_get (v := rv n0 (zG z22 729 x0)) C hw g25 (by decide) (Cn := RX12) (T := TX12) (N := 50) rfl in_X12_search_X12 25 (by decide) (by decide +kernel) (fun _ h => h) rfl dX12_search_239 ?_
    obtain ⟨b27, e26, h⟩ := boE h
    refine r_topr e26 ?_
    refine lv_iload_n C.1 C.2.1 dX12_search_242 rfl (lv_at hl 2 rfl) ?_
    refine lv_dup2_11 C.1 C.2.1 dX12_search_243 rfl rfl ?_
    obtain ⟨g28, h⟩ := gdE h
    obtain ⟨i29, h⟩ := gdE h
    refine r_iald C hw g28 i29 dX12_search_244 ?_
    refine lv_iconst (v := (1 : Int32)) C.1 C.2.1 dX12_search_245 (by decide) ?_
    refine lv_iadd C.1 C.2.1 dX12_search_246 ?_
    obtain ⟨i30, h⟩ := gdE h
    obtain ⟨z31, e32, h⟩ := bdE h
    refine r_iast C hw g28 i30 e32 dX12_search_247 (fun H locs hw => ?_)
    refine lv_aload_n C.1 C.2.1 dX12_search_248 rfl (lv_at hl 1 rfl) ?_
    have g33 : x0 < zn z31 ∧ zK z31 x0 = 11 := by rw [e32]; exact g25
    refine r_get (v := rv n0 (zG z31 729 x0)) C hw g33 (by decide) (Cn := RX12) (T := TX12) (N := 50) rfl in_X12_search_X12 25 (by decide) (by decide +kernel) (fun _ h => h) rfl dX12_search_249 ?_
    obtain ⟨b35, e34, h⟩ := boE h
    refine r_topr e34 ?_
    refine lv_iload_n C.1 C.2.1 dX12_search_252 rfl (lv_at hl 2 rfl) ?_
    obtain ⟨g36, h⟩ := gdE h
    obtain ⟨i37, h⟩ := gdE h
    refine r_iald C hw g36 i37 dX12_search_253 ?_
    refine lv_iconst (v := (4 : Int32)) C.1 C.2.1 dX12_search_254 (by decide) ?_
    refine lv_icmp_le (tgt := 262) C.1 C.2.1 dX12_search_255 (by decide) (fun c38 => ?_) (fun c38 => ?_)
    · replace h := brT h c38
      refine lv_aload_n C.1 C.2.1 dX12_search_262 rfl (lv_at hl 1 rfl) ?_
      refine r_get (v := rv n0 (zG z31 729 x0)) C hw g33 (by decide) (Cn := RX12) (T := TX12) (N := 50) rfl in_X12_search_X12 25 (by decide) (by decide +kernel) (fun _ h => h) rfl dX12_search_263 ?_
      obtain ⟨b40, e39, h⟩ := boE h
      refine r_topr e39 ?_
      refine lv_iload_n C.1 C.2.1 dX12_search_266 rfl (lv_at hl 2 rfl) ?_
      obtain ⟨g41, h⟩ := gdE h
      obtain ⟨i42, h⟩ := gdE h
      refine r_iald C hw g41 i42 dX12_search_267 ?_
      exact tX12_search_268 C h hF hw (lv_sub hl [1, 2, 3] rfl)
    · replace h := brF h c38
      refine lv_iconst (v := (4 : Int32)) C.1 C.2.1 dX12_search_258 (by decide) ?_
      refine lv_goto (tgt := 268) C.1 C.2.1 dX12_search_259 (by decide) ?_
      exact tX12_search_268 C h hF hw (lv_sub hl [1, 2, 3] rfl)
noncomputable def fX12_search_77 (N : Nat) (x0 : Nat) (x1 : Int32) (x2 : Int32) (x3 : Int32) (x4 : Int32) (z : Hp) : Option ((Int32 × Hp) ⊕ (Int32 × Hp)) := br ((6 : Int32) ≤ x4) (lf <| br (x3 < 0) (fX12_search_341 N x0 x1 z) (gd (x0 < zn z ∧ zK z x0 = 11) <| bo (zG z 708 x0) fun b6 => gd (b6 < zn z ∧ zK z b6 = 12) <| gd (¬ (x3 < 0 ∨ zL z b6 ≤ (x3).toNatClampNeg)) <| bo (zG z 709 x0) fun b10 => gd (b10 < zn z ∧ zK z b10 = 12) <| gd (¬ (x3 < 0 ∨ zL z b10 ≤ (x3).toNatClampNeg)) <| bd ((((168 : Int32) * ((zF z 704 x0) - (zA z b6 (x3).toNatClampNeg))) + (zF z 705 x0)) - (zA z b10 (x3).toNatClampNeg)) fun v13 => bo (zG z 708 x0) fun b16 => gd (b16 < zn z ∧ zK z b16 = 12) <| gd (¬ (x3 < 0 ∨ zL z b16 ≤ (x3).toNatClampNeg)) <| bo (fX12_textIn N x0 (zA z b16 (x3).toNatClampNeg) z) fun r20 => bo (zG z 722 x0) fun b22 => gd (b22 < zn z ∧ zK z b22 = 12) <| gd (¬ (x3 < 0 ∨ zL z b22 ≤ (x3).toNatClampNeg)) <| bo (fX12_lessBy N (zA z b22 (x3).toNatClampNeg) (zF z 744 x0) v13 z) fun r26 => bo (zG z 720 x0) fun b28 => gd (b28 < zn z ∧ zK z b28 = 12) <| gd (¬ (x3 < 0 ∨ zL z b28 ≤ (x3).toNatClampNeg)) <| bo (zG z 708 x0) fun b32 => gd (b32 < zn z ∧ zK z b32 = 12) <| gd (¬ (x3 < 0 ∨ zL z b32 ≤ (x3).toNatClampNeg)) <| bo (fX12_dueIn N x0 (zA z b28 (x3).toNatClampNeg) (zA z b32 (x3).toNatClampNeg) z) fun r36 => br (0 ≤ r20) (bo (zG z 735 x0) fun b39 => gd (b39 < zn z ∧ zK z b39 = 12) <| gd (¬ (r20 < 0 ∨ zL z b39 ≤ (r20).toNatClampNeg)) <| fX12_search_194 N x0 x1 x2 v13 r26 (zA z b39 (r20).toNatClampNeg) r36 z) (fX12_search_194 N x0 x1 x2 v13 r26 (0 : Int32) r36 z))) (gd (x0 < zn z ∧ zK z x0 = 11) <| bo (zG z 728 x0) fun b44 => gd (b44 < zn z ∧ zK z b44 = 12) <| gd (¬ ((x2 + x4) < 0 ∨ zL z b44 ≤ Int32.toNatClampNeg (x2 + x4))) <| bd (zsA z b44 (Int32.toNatClampNeg (x2 + x4)) (0 : Int32)) fun z47 => bd (x4 + (1 : Int32)) fun v49 => some (.inl (v49, z47)))
set_option maxHeartbeats 4000000 in
set_option maxRecDepth 100000 in
theorem tX12_search_77 {n0 : Nat} {D : va_G} {Y : Nat → ClassId} {p : Program} {l : Launch} {e : Env} {s : State} {m : MethodId} {args : Array Value} {below : List Frame} {meth : Method} {c : Code} {N : Nat} {fin : Int32 × Hp} {x0 : Nat} {x1 : Int32} {x2 : Int32} {x3 : Int32} {x4 : Int32}  {z : Hp} (C : Cx n0 D Y RX12 cX12_search (some .int) 9 wsX12_search "search" p s m args meth c) {P77 : Int32 × Hp → Prop} (hP77 : ∀ u, P77 u → ∀ (H : Heap) (locs : List Loc) (ls : Array Slot), Wd n0 D Y (u.2) s H locs → lv_has ls 9 [(0, .ref (n0 + x0)), (1, .int x1), (2, .int x2), (3, .int x3), (4, .int u.1)] → W p l e rmX12_search s m args below meth c H locs 0 0 (MQ below (PosI n0 D Y fin.2 fin.1) args s 0 0 (AA n0)) (F0 m 77 ls [])) {x : ((Int32 × Hp) ⊕ (Int32 × Hp))} (h : fX12_search_77 N x0 x1 x2 x3 x4  z = some x) (hF : (Fn P77 (fun x => x = fin)) x) {H : Heap} {locs : List Loc} {ls : Array Slot} (hw : Wd n0 D Y z s H locs) (hl : lv_has ls 9 [(0, .ref (n0 + x0)), (1, .int x1), (2, .int x2), (3, .int x3), (4, .int x4)]) : W p l e rmX12_search s m args below meth c H locs 0 0 (MQ below (PosI n0 D Y fin.2 fin.1) args s 0 0 (AA n0)) (F0 m 77 ls []) := by
  unfold fX12_search_77 at h
  refine lv_iload C.1 C.2.1 dX12_search_77 (lv_at hl 4 rfl) ?_
  refine lv_bipush (v := (6 : Int32)) C.1 C.2.1 dX12_search_79 (by decide) ?_
  refine lv_icmp_ge (tgt := 100) C.1 C.2.1 dX12_search_81 (by decide) (fun c1 => ?_) (fun c1 => ?_)
  · replace h := brT h c1
    obtain ⟨y2, h, hF⟩ := lfX h hF
    refine lv_iload_n C.1 C.2.1 dX12_search_100 rfl (lv_at hl 3 rfl) ?_
    refine lv_if_lt (tgt := 341) C.1 C.2.1 dX12_search_101 (by decide) (fun c3 => ?_) (fun c3 => ?_)
    · replace h := brT h c3
      exact tX12_search_341 C h hF hw (lv_sub hl [0, 1] rfl)
    · replace h := brF h c3
      refine lv_sipush (v := (168 : Int32)) C.1 C.2.1 dX12_search_104 (by decide) ?_
      refine lv_aload_n C.1 C.2.1 dX12_search_107 rfl (lv_at hl 0 rfl) ?_
      obtain ⟨g4, h⟩ := gdE h
      refine r_get (v := .int (zF z 704 x0)) C hw g4 (by decide) (Cn := RX12) (T := TX12) (N := 50) rfl in_X12_search_X12 0 (by decide) (by decide +kernel) (fun _ h => h) rfl dX12_search_108 ?_
      refine lv_aload_n C.1 C.2.1 dX12_search_111 rfl (lv_at hl 0 rfl) ?_
      refine r_get (v := rv n0 (zG z 708 x0)) C hw g4 (by decide) (Cn := RX12) (T := TX12) (N := 50) rfl in_X12_search_X12 4 (by decide) (by decide +kernel) (fun _ h => h) rfl dX12_search_112 ?_
      obtain ⟨b6, e5, h⟩ := boE h
      refine r_topr e5 ?_
      refine lv_iload_n C.1 C.2.1 dX12_search_115 rfl (lv_at hl 3 rfl) ?_
      obtain ⟨g7, h⟩ := gdE h
      obtain ⟨i8, h⟩ := gdE h
      refine r_iald C hw g7 i8 dX12_search_116 ?_
      refine lv_isub C.1 C.2.1 dX12_search_117 ?_
      refine lv_imul C.1 C.2.1 dX12_search_118 ?_
      refine lv_aload_n C.1 C.2.1 dX12_search_119 rfl (lv_at hl 0 rfl) ?_
      refine r_get (v := .int (zF z 705 x0)) C hw g4 (by decide) (Cn := RX12) (T := TX12) (N := 50) rfl in_X12_search_X12 1 (by decide) (by decide +kernel) (fun _ h => h) rfl dX12_search_120 ?_
      refine lv_iadd C.1 C.2.1 dX12_search_123 ?_
      refine lv_aload_n C.1 C.2.1 dX12_search_124 rfl (lv_at hl 0 rfl) ?_
      refine r_get (v := rv n0 (zG z 709 x0)) C hw g4 (by decide) (Cn := RX12) (T := TX12) (N := 50) rfl in_X12_search_X12 5 (by decide) (by decide +kernel) (fun _ h => h) rfl dX12_search_125 ?_
      obtain ⟨b10, e9, h⟩ := boE h
      refine r_topr e9 ?_
      refine lv_iload_n C.1 C.2.1 dX12_search_128 rfl (lv_at hl 3 rfl) ?_
      obtain ⟨g11, h⟩ := gdE h
      obtain ⟨i12, h⟩ := gdE h
      refine r_iald C hw g11 i12 dX12_search_129 ?_
      refine lv_isub C.1 C.2.1 dX12_search_130 ?_
      obtain ⟨v13, e14, h⟩ := bdE h
      refine r_topi e14 ?_
      refine lv_istore (i := 4) (lv' := [(4, .int v13), (0, .ref (n0 + x0)), (1, .int x1), (2, .int x2), (3, .int x3)]) C.1 C.2.1 dX12_search_131 hl (by decide) rfl (fun ls hl => ?_)
      refine lv_aload_n C.1 C.2.1 dX12_search_133 rfl (lv_at hl 1 rfl) ?_
      refine lv_aload_n C.1 C.2.1 dX12_search_134 rfl (lv_at hl 1 rfl) ?_
      refine r_get (v := rv n0 (zG z 708 x0)) C hw g4 (by decide) (Cn := RX12) (T := TX12) (N := 50) rfl in_X12_search_X12 4 (by decide) (by decide +kernel) (fun _ h => h) rfl dX12_search_135 ?_
      obtain ⟨b16, e15, h⟩ := boE h
      refine r_topr e15 ?_
      refine lv_iload_n C.1 C.2.1 dX12_search_138 rfl (lv_at hl 4 rfl) ?_
      obtain ⟨g17, h⟩ := gdE h
      obtain ⟨i18, h⟩ := gdE h
      refine r_iald C hw g17 i18 dX12_search_139 ?_
      obtain ⟨r20, e19, h⟩ := boE h
      refine r_afti hw (r_runV (As := [.int (zA z b16 (x3).toNatClampNeg)]) (rest := []) C hw (ki := 11) g4 (by decide) rfl (kX12_textIn l n0 D Y N x0 (zA z b16 (x3).toNatClampNeg) z e19) (cwV 1 C.2.2.2.2.2.1 gX12_search_X12_textIn rfl rfl rfl (by decide +kernel) ⟨(Nat.le_of_ble_eq_true rfl), (Nat.le_of_ble_eq_true rfl)⟩) rfl hl.1 rfl (Nat.le_of_ble_eq_true rfl) dX12_search_140 ⟨(Nat.le_of_ble_eq_true rfl), (Nat.le_of_ble_eq_true rfl)⟩) (fun H locs hw => ?_)
      refine lv_istore (i := 5) (lv' := [(5, .int r20), (4, .int v13), (0, .ref (n0 + x0)), (1, .int x1), (2, .int x2), (3, .int x3)]) C.1 C.2.1 dX12_search_143 hl (by decide) rfl (fun ls hl => ?_)
      refine lv_aload_n C.1 C.2.1 dX12_search_145 rfl (lv_at hl 2 rfl) ?_
      refine r_get (v := rv n0 (zG z 722 x0)) C hw g4 (by decide) (Cn := RX12) (T := TX12) (N := 50) rfl in_X12_search_X12 18 (by decide) (by decide +kernel) (fun _ h => h) rfl dX12_search_146 ?_
      obtain ⟨b22, e21, h⟩ := boE h
      refine r_topr e21 ?_
      refine lv_iload_n C.1 C.2.1 dX12_search_149 rfl (lv_at hl 5 rfl) ?_
      obtain ⟨g23, h⟩ := gdE h
      obtain ⟨i24, h⟩ := gdE h
      refine r_iald C hw g23 i24 dX12_search_150 ?_
      refine lv_aload_n C.1 C.2.1 dX12_search_151 rfl (lv_at hl 2 rfl) ?_
      refine r_get (v := .int (zF z 744 x0)) C hw g4 (by decide) (Cn := RX12) (T := TX12) (N := 50) rfl in_X12_search_X12 40 (by decide) (by decide +kernel) (fun _ h => h) rfl dX12_search_152 ?_
      refine lv_iload C.1 C.2.1 dX12_search_155 (lv_at hl 1 rfl) ?_
      obtain ⟨r26, e25, h⟩ := boE h
      refine r_afti hw (r_runS (As := [.int (zA z b22 (x3).toNatClampNeg), .int (zF z 744 x0), .int v13]) (rest := []) C hw (kX12_lessBy l n0 D Y N (zA z b22 (x3).toNatClampNeg) (zF z 744 x0) v13 z e25) (va_cwS 3 C.2.2.2.2.2.1 gX12_search_X12_lessBy rfl rfl rfl (by decide +kernel) ⟨(Nat.le_of_ble_eq_true rfl), (Nat.le_of_ble_eq_true rfl)⟩) rfl hl.1 rfl (Nat.le_of_ble_eq_true rfl) dX12_search_157 ⟨(Nat.le_of_ble_eq_true rfl), (Nat.le_of_ble_eq_true rfl)⟩) (fun H locs hw => ?_)
      refine lv_istore (i := 6) (lv' := [(6, .int r26), (5, .int r20), (4, .int v13), (0, .ref (n0 + x0)), (1, .int x1), (2, .int x2), (3, .int x3)]) C.1 C.2.1 dX12_search_160 hl (by decide) rfl (fun ls hl => ?_)
      refine lv_aload_n C.1 C.2.1 dX12_search_162 rfl (lv_at hl 3 rfl) ?_
      refine lv_aload_n C.1 C.2.1 dX12_search_163 rfl (lv_at hl 3 rfl) ?_
      refine r_get (v := rv n0 (zG z 720 x0)) C hw g4 (by decide) (Cn := RX12) (T := TX12) (N := 50) rfl in_X12_search_X12 16 (by decide) (by decide +kernel) (fun _ h => h) rfl dX12_search_164 ?_
      obtain ⟨b28, e27, h⟩ := boE h
      refine r_topr e27 ?_
      refine lv_iload_n C.1 C.2.1 dX12_search_167 rfl (lv_at hl 6 rfl) ?_
      obtain ⟨g29, h⟩ := gdE h
      obtain ⟨i30, h⟩ := gdE h
      refine r_iald C hw g29 i30 dX12_search_168 ?_
      refine lv_aload_n C.1 C.2.1 dX12_search_169 rfl (lv_at hl 3 rfl) ?_
      refine r_get (v := rv n0 (zG z 708 x0)) C hw g4 (by decide) (Cn := RX12) (T := TX12) (N := 50) rfl in_X12_search_X12 4 (by decide) (by decide +kernel) (fun _ h => h) rfl dX12_search_170 ?_
      obtain ⟨b32, e31, h⟩ := boE h
      refine r_topr e31 ?_
      refine lv_iload_n C.1 C.2.1 dX12_search_173 rfl (lv_at hl 6 rfl) ?_
      obtain ⟨g33, h⟩ := gdE h
      obtain ⟨i34, h⟩ := gdE h
      refine r_iald C hw g33 i34 dX12_search_174 ?_
      obtain ⟨r36, e35, h⟩ := boE h
      refine r_afti hw (r_runV (As := [.int (zA z b28 (x3).toNatClampNeg), .int (zA z b32 (x3).toNatClampNeg)]) (rest := []) C hw (ki := 11) g4 (by decide) rfl (kX12_dueIn l n0 D Y N x0 (zA z b28 (x3).toNatClampNeg) (zA z b32 (x3).toNatClampNeg) z e35) (cwV 2 C.2.2.2.2.2.1 gX12_search_X12_dueIn rfl rfl rfl (by decide +kernel) ⟨(Nat.le_of_ble_eq_true rfl), (Nat.le_of_ble_eq_true rfl)⟩) rfl hl.1 rfl (Nat.le_of_ble_eq_true rfl) dX12_search_175 ⟨(Nat.le_of_ble_eq_true rfl), (Nat.le_of_ble_eq_true rfl)⟩) (fun H locs hw => ?_)
      refine lv_iload C.1 C.2.1 dX12_search_178 (lv_at hl 1 rfl) ?_
      refine lv_if_ge (tgt := 187) C.1 C.2.1 dX12_search_180 (by decide) (fun c37 => ?_) (fun c37 => ?_)
      · replace h := brT h c37
        refine lv_aload_n C.1 C.2.1 dX12_search_187 rfl (lv_at hl 3 rfl) ?_
        refine r_get (v := rv n0 (zG z 735 x0)) C hw g4 (by decide) (Cn := RX12) (T := TX12) (N := 50) rfl in_X12_search_X12 31 (by decide) (by decide +kernel) (fun _ h => h) rfl dX12_search_188 ?_
        obtain ⟨b39, e38, h⟩ := boE h
        refine r_topr e38 ?_
        refine lv_iload C.1 C.2.1 dX12_search_191 (lv_at hl 1 rfl) ?_
        obtain ⟨g40, h⟩ := gdE h
        obtain ⟨i41, h⟩ := gdE h
        refine r_iald C hw g40 i41 dX12_search_193 ?_
        exact tX12_search_194 C h hF hw (lv_sub hl [3, 4, 5, 2, 0] rfl)
      · replace h := brF h c37
        refine lv_iconst (v := (0 : Int32)) C.1 C.2.1 dX12_search_183 (by decide) ?_
        refine lv_goto (tgt := 194) C.1 C.2.1 dX12_search_184 (by decide) ?_
        exact tX12_search_194 C h hF hw (lv_sub hl [3, 4, 5, 2, 0] rfl)
  · replace h := brF h c1
    refine lv_aload_n C.1 C.2.1 dX12_search_84 rfl (lv_at hl 0 rfl) ?_
    obtain ⟨g42, h⟩ := gdE h
    refine r_get (v := rv n0 (zG z 728 x0)) C hw g42 (by decide) (Cn := RX12) (T := TX12) (N := 50) rfl in_X12_search_X12 24 (by decide) (by decide +kernel) (fun _ h => h) rfl dX12_search_85 ?_
    obtain ⟨b44, e43, h⟩ := boE h
    refine r_topr e43 ?_
    refine lv_iload_n C.1 C.2.1 dX12_search_88 rfl (lv_at hl 2 rfl) ?_
    refine lv_iload C.1 C.2.1 dX12_search_89 (lv_at hl 4 rfl) ?_
    refine lv_iadd C.1 C.2.1 dX12_search_91 ?_
    refine lv_iconst (v := (0 : Int32)) C.1 C.2.1 dX12_search_92 (by decide) ?_
    obtain ⟨g45, h⟩ := gdE h
    obtain ⟨i46, h⟩ := gdE h
    obtain ⟨z47, e48, h⟩ := bdE h
    refine r_iast C hw g45 i46 e48 dX12_search_93 (fun H locs hw => ?_)
    obtain ⟨v49, e50, h⟩ := bdE h
    refine lv_iinc (v := v49) (lv' := [(4, .int v49), (0, .ref (n0 + x0)), (1, .int x1), (2, .int x2), (3, .int x3)]) C.1 C.2.1 dX12_search_94 hl (k := 4) rfl (by rw [e50]; rfl) (by decide) rfl (fun ls hl => ?_)
    refine lv_goto (tgt := 77) C.1 C.2.1 dX12_search_97 (by decide) ?_
    cases h
    exact hP77 _ hF _ _ _ hw (lv_sub hl [1, 2, 3, 4, 0] rfl)
set_option maxHeartbeats 4000000 in
set_option maxRecDepth 100000 in
theorem lX12_search_77 {n0 : Nat} {D : va_G} {Y : Nat → ClassId} {p : Program} {l : Launch} {e : Env} {s : State} {m : MethodId} {args : Array Value} {below : List Frame} {meth : Method} {c : Code} {N : Nat} {fin : Int32 × Hp} {x0 : Nat} {x1 : Int32} {x2 : Int32} {x3 : Int32} (C : Cx n0 D Y RX12 cX12_search (some .int) 9 wsX12_search "search" p s m args meth c) {x : (Int32 × Hp)} : ∀ (n : Nat) (u : Int32 × Hp), wh (fun (u : Int32 × Hp) => fX12_search_77 N x0 x1 x2 x3 u.1 u.2) n u = some x → (fun x => x = fin) x → ∀ (H : Heap) (locs : List Loc) (ls : Array Slot), Wd n0 D Y (u.2) s H locs → lv_has ls 9 [(0, .ref (n0 + x0)), (1, .int x1), (2, .int x2), (3, .int x3), (4, .int u.1)] → W p l e rmX12_search s m args below meth c H locs 0 0 (MQ below (PosI n0 D Y fin.2 fin.1) args s 0 0 (AA n0)) (F0 m 77 ls []) := fun n u h g => wh_ind (P := fun u => ∀ (H : Heap) (locs : List Loc) (ls : Array Slot), Wd n0 D Y (u.2) s H locs → lv_has ls 9 [(0, .ref (n0 + x0)), (1, .int x1), (2, .int x2), (3, .int x3), (4, .int u.1)] → W p l e rmX12_search s m args below meth c H locs 0 0 (MQ below (PosI n0 D Y fin.2 fin.1) args s 0 0 (AA n0)) (F0 m 77 ls [])) (G := (fun x => x = fin)) (fun u x h hF H locs ls hw hl => tX12_search_77 C (P77 := fun u => ∀ (H : Heap) (locs : List Loc) (ls : Array Slot), Wd n0 D Y (u.2) s H locs → lv_has ls 9 [(0, .ref (n0 + x0)), (1, .int x1), (2, .int x2), (3, .int x3), (4, .int u.1)] → W p l e rmX12_search s m args below meth c H locs 0 0 (MQ below (PosI n0 D Y fin.2 fin.1) args s 0 0 (AA n0)) (F0 m 77 ls [])) (fun _ h => h) h hF hw hl) n u x h g
noncomputable def fX12_search (N : Nat) (x0 : Nat) (z : Hp) : Option (Int32 × Hp) := gd (x0 < zn z ∧ zK z x0 = 11) <| br ((zF z 706 x0) = 0) (some ((-3 : Int32), z)) (br ((zF z 711 x0) = (200 : Int32)) (some ((-4 : Int32), z)) (bo (fX12_drawTurns N x0 z) fun z5 => gd (x0 < zn z5 ∧ zK z5 x0 = 11) <| bo (zG z5 740 x0) fun b8 => bd ((zF z5 742 x0) - (zF z5 741 x0)) fun v9 => gd (b8 < zn z5 ∧ zK z5 b8 = 12) <| gd (¬ (v9 < 0 ∨ zL z5 b8 ≤ (v9).toNatClampNeg)) <| bd (zA z5 b8 (v9).toNatClampNeg) fun v13 => bd (zsF z5 741 x0 ((zF z5 741 x0) - (1 : Int32))) fun z15 => bd ((6 : Int32) * (zF z15 711 x0)) fun v18 => bo (zG z15 732 x0) fun b21 => gd (b21 < zn z15 ∧ zK z15 b21 = 12) <| gd (¬ (v13 < 0 ∨ zL z15 b21 ≤ (v13).toNatClampNeg)) <| bd (zA z15 b21 (v13).toNatClampNeg) fun v24 => bo (zG z15 728 x0) fun b27 => gd (b27 < zn z15 ∧ zK z15 b27 = 12) <| gd (¬ (v18 < 0 ∨ zL z15 b27 ≤ Int32.toNatClampNeg v18)) <| bd (zsA z15 b27 (Int32.toNatClampNeg v18) v24) fun z30 => wh (fun (u : Int32 × Hp) => fX12_search_77 N x0 v13 v18 v24 u.1 u.2) N ((1 : Int32), z30)))
set_option maxHeartbeats 4000000 in
set_option maxRecDepth 100000 in
theorem tX12_search_0 {n0 : Nat} {D : va_G} {Y : Nat → ClassId} {p : Program} {l : Launch} {e : Env} {s : State} {m : MethodId} {args : Array Value} {below : List Frame} {meth : Method} {c : Code} {N : Nat} {fin : Int32 × Hp} {x0 : Nat}  {z : Hp} (C : Cx n0 D Y RX12 cX12_search (some .int) 9 wsX12_search "search" p s m args meth c) {x : (Int32 × Hp)} (h : fX12_search N x0  z = some x) (hF : (fun x => x = fin) x) {H : Heap} {locs : List Loc} {ls : Array Slot} (hw : Wd n0 D Y z s H locs) (hl : lv_has ls 9 [(0, .ref (n0 + x0))]) : W p l e rmX12_search s m args below meth c H locs 0 0 (MQ below (PosI n0 D Y fin.2 fin.1) args s 0 0 (AA n0)) (F0 m 0 ls []) := by
  unfold fX12_search at h
  refine lv_aload_n C.1 C.2.1 dX12_search_0 rfl (lv_at hl 0 rfl) ?_
  obtain ⟨g1, h⟩ := gdE h
  refine r_get (v := .int (zF z 706 x0)) C hw g1 (by decide) (Cn := RX12) (T := TX12) (N := 50) rfl in_X12_search_X12 2 (by decide) (by decide +kernel) (fun _ h => h) rfl dX12_search_1 ?_
  refine lv_if_ne (tgt := 10) C.1 C.2.1 dX12_search_4 (by decide) (fun c2 => ?_) (fun c2 => ?_)
  · replace h := brF h c2
    refine lv_aload_n C.1 C.2.1 dX12_search_10 rfl (lv_at hl 0 rfl) ?_
    refine r_get (v := .int (zF z 711 x0)) C hw g1 (by decide) (Cn := RX12) (T := TX12) (N := 50) rfl in_X12_search_X12 7 (by decide) (by decide +kernel) (fun _ h => h) rfl dX12_search_11 ?_
    refine lv_sipush (v := (200 : Int32)) C.1 C.2.1 dX12_search_14 (by decide) ?_
    refine lv_icmp_ne (tgt := 23) C.1 C.2.1 dX12_search_17 (by decide) (fun c3 => ?_) (fun c3 => ?_)
    · replace h := brF h c3
      refine lv_aload_n C.1 C.2.1 dX12_search_23 rfl (lv_at hl 0 rfl) ?_
      obtain ⟨z5, e4, h⟩ := boE h
      refine r_aftv hw (r_runV (As := []) (rest := []) C hw (ki := 11) g1 (by decide) rfl (kX12_drawTurns l n0 D Y N x0  z e4) (cwV 0 C.2.2.2.2.2.1 gX12_search_X12_drawTurns rfl rfl rfl (by decide +kernel) ⟨(Nat.le_of_ble_eq_true rfl), (Nat.le_of_ble_eq_true rfl)⟩) rfl hl.1 rfl (Nat.le_of_ble_eq_true rfl) dX12_search_24 ⟨(Nat.le_of_ble_eq_true rfl), (Nat.le_of_ble_eq_true rfl)⟩) (fun H locs hw => ?_)
      refine lv_aload_n C.1 C.2.1 dX12_search_27 rfl (lv_at hl 0 rfl) ?_
      obtain ⟨g6, h⟩ := gdE h
      refine r_get (v := rv n0 (zG z5 740 x0)) C hw g6 (by decide) (Cn := RX12) (T := TX12) (N := 50) rfl in_X12_search_X12 36 (by decide) (by decide +kernel) (fun _ h => h) rfl dX12_search_28 ?_
      obtain ⟨b8, e7, h⟩ := boE h
      refine r_topr e7 ?_
      refine lv_aload_n C.1 C.2.1 dX12_search_31 rfl (lv_at hl 0 rfl) ?_
      refine r_get (v := .int (zF z5 742 x0)) C hw g6 (by decide) (Cn := RX12) (T := TX12) (N := 50) rfl in_X12_search_X12 38 (by decide) (by decide +kernel) (fun _ h => h) rfl dX12_search_32 ?_
      refine lv_aload_n C.1 C.2.1 dX12_search_35 rfl (lv_at hl 0 rfl) ?_
      refine r_get (v := .int (zF z5 741 x0)) C hw g6 (by decide) (Cn := RX12) (T := TX12) (N := 50) rfl in_X12_search_X12 37 (by decide) (by decide +kernel) (fun _ h => h) rfl dX12_search_36 ?_
      refine lv_isub C.1 C.2.1 dX12_search_39 ?_
      obtain ⟨v9, e10, h⟩ := bdE h
      refine r_topi e10 ?_
      obtain ⟨g11, h⟩ := gdE h
      obtain ⟨i12, h⟩ := gdE h
      refine r_iald C hw g11 i12 dX12_search_40 ?_
      obtain ⟨v13, e14, h⟩ := bdE h
      refine r_topi e14 ?_
      refine lv_istore_n (i := 1) (lv' := [(1, .int v13), (0, .ref (n0 + x0))]) C.1 C.2.1 dX12_search_41 rfl hl (by decide) rfl (fun ls hl => ?_)
      refine lv_aload_n C.1 C.2.1 dX12_search_42 rfl (lv_at hl 1 rfl) ?_
      refine lv_dup C.1 C.2.1 dX12_search_43 rfl ?_
      refine r_get (v := .int (zF z5 741 x0)) C hw g6 (by decide) (Cn := RX12) (T := TX12) (N := 50) rfl in_X12_search_X12 37 (by decide) (by decide +kernel) (fun _ h => h) rfl dX12_search_44 ?_
      refine lv_iconst (v := (1 : Int32)) C.1 C.2.1 dX12_search_47 (by decide) ?_
      refine lv_isub C.1 C.2.1 dX12_search_48 ?_
      obtain ⟨z15, e16, h⟩ := bdE h
      refine r_putI C hw g6 (by decide) (Cn := RX12) (T := TX12) (N := 50) rfl in_X12_search_X12 tyX12 tyX12_ok nmX12 37 (by decide) (by decide +kernel) (fun _ h => h) (Or.inl rfl) (ty := .int) (by decide +kernel) rfl rfl (Nat.le_of_ble_eq_true rfl) (st_11_37 n0 z5 x0 ((zF z5 741 x0) - (1 : Int32))) e16 dX12_search_49 (fun H locs hw => ?_)
      refine lv_bipush (v := (6 : Int32)) C.1 C.2.1 dX12_search_52 (by decide) ?_
      refine lv_aload_n C.1 C.2.1 dX12_search_54 rfl (lv_at hl 1 rfl) ?_
      have g17 : x0 < zn z15 ∧ zK z15 x0 = 11 := by rw [e16]; exact g6
      refine r_get (v := .int (zF z15 711 x0)) C hw g17 (by decide) (Cn := RX12) (T := TX12) (N := 50) rfl in_X12_search_X12 7 (by decide) (by decide +kernel) (fun _ h => h) rfl dX12_search_55 ?_
      refine lv_imul C.1 C.2.1 dX12_search_58 ?_
      obtain ⟨v18, e19, h⟩ := bdE h
      refine r_topi e19 ?_
      refine lv_istore_n (i := 2) (lv' := [(2, .int v18), (1, .int v13), (0, .ref (n0 + x0))]) C.1 C.2.1 dX12_search_59 rfl hl (by decide) rfl (fun ls hl => ?_)
      refine lv_aload_n C.1 C.2.1 dX12_search_60 rfl (lv_at hl 2 rfl) ?_
      refine r_get (v := rv n0 (zG z15 732 x0)) C hw g17 (by decide) (Cn := RX12) (T := TX12) (N := 50) rfl in_X12_search_X12 28 (by decide) (by decide +kernel) (fun _ h => h) rfl dX12_search_61 ?_
      obtain ⟨b21, e20, h⟩ := boE h
      refine r_topr e20 ?_
      refine lv_iload_n C.1 C.2.1 dX12_search_64 rfl (lv_at hl 1 rfl) ?_
      obtain ⟨g22, h⟩ := gdE h
      obtain ⟨i23, h⟩ := gdE h
      refine r_iald C hw g22 i23 dX12_search_65 ?_
      obtain ⟨v24, e25, h⟩ := bdE h
      refine r_topi e25 ?_
      refine lv_istore_n (i := 3) (lv' := [(3, .int v24), (2, .int v18), (1, .int v13), (0, .ref (n0 + x0))]) C.1 C.2.1 dX12_search_66 rfl hl (by decide) rfl (fun ls hl => ?_)
      refine lv_aload_n C.1 C.2.1 dX12_search_67 rfl (lv_at hl 3 rfl) ?_
      refine r_get (v := rv n0 (zG z15 728 x0)) C hw g17 (by decide) (Cn := RX12) (T := TX12) (N := 50) rfl in_X12_search_X12 24 (by decide) (by decide +kernel) (fun _ h => h) rfl dX12_search_68 ?_
      obtain ⟨b27, e26, h⟩ := boE h
      refine r_topr e26 ?_
      refine lv_iload_n C.1 C.2.1 dX12_search_71 rfl (lv_at hl 1 rfl) ?_
      refine lv_iload_n C.1 C.2.1 dX12_search_72 rfl (lv_at hl 0 rfl) ?_
      obtain ⟨g28, h⟩ := gdE h
      obtain ⟨i29, h⟩ := gdE h
      obtain ⟨z30, e31, h⟩ := bdE h
      refine r_iast C hw g28 i29 e31 dX12_search_73 (fun H locs hw => ?_)
      refine lv_iconst (v := (1 : Int32)) C.1 C.2.1 dX12_search_74 (by decide) ?_
      refine lv_istore (i := 4) (lv' := [(4, .int (1 : Int32)), (3, .int v24), (2, .int v18), (1, .int v13), (0, .ref (n0 + x0))]) C.1 C.2.1 dX12_search_75 hl (by decide) rfl (fun ls hl => ?_)
      exact lX12_search_77 C _ _ h hF _ _ _ hw (lv_sub hl [4, 3, 2, 1, 0] rfl)
    · replace h := brT h c3
      refine lv_bipush (v := (-4 : Int32)) C.1 C.2.1 dX12_search_20 (by decide) ?_
      cases h
      replace hF : _ = fin := hF
      subst hF
      exact r_iret C hw dX12_search_22
  · replace h := brT h c2
    refine lv_bipush (v := (-3 : Int32)) C.1 C.2.1 dX12_search_7 (by decide) ?_
    cases h
    replace hF : _ = fin := hF
    subst hF
    exact r_iret C hw dX12_search_9
set_option maxRecDepth 100000 in
theorem kX12_search (l : Launch) (n0 : Nat) (D : va_G) (Y : Nat → ClassId) (N : Nat) (x0 : Nat) (z : Hp) {r : Int32} {z1 : Hp} (h : fX12_search N x0 z = some (r, z1)) : Met l yX12_search wsX12_search rmX12_search (PreC n0 D Y z [.ref (n0 + x0)]) (PosI n0 D Y z1 r) 0 0 (AA n0) := by
  refine Met.ofW (cc := cX12_search) (maxL := 9) (ret := (some .int)) (by decide) rfl ?_
  intro p e s m args below meth c s₁ B hml hv
  obtain ⟨rfl, hR, hK⟩ := hv
  have C : Cx n0 D Y RX12 cX12_search (some .int) 9 wsX12_search "search" p s m ([.ref (n0 + x0)] : List Value).toArray meth c := ⟨B.exec, B.bytes, B.returns, hml, findClass_of_methodNamed B.named, atoms_spec (ws := wsX12_search) B.pre, B.notSynchronized, (name_of_methodNamed B.named B.method).1, hK⟩
  have hl := lv_entry ([.ref (n0 + x0)]) (n := 9) (Nat.le_of_ble_eq_true rfl)
  rw [lg_entry_eq]
  generalize (lg_sl ([.ref (n0 + x0)]) ++ List.replicate (9 - (lg_sl ([.ref (n0 + x0)])).length) Slot.unset).toArray = ls at hl ⊢
  have hl : lv_has ls 9 [(0, .ref (n0 + x0))] := hl
  exact tX12_search_0 C h rfl ⟨hR, va_S.rf⟩ hl
theorem in_X12_turn_X12 : ∀ w ∈ wsX120, w ∈ wsX12_turn := by decide +kernel
abbrev rmX12_turn : Room := { frames := 1, cells := 0, slots := 0, locals := 23 }
noncomputable def fX12_turn (N : Nat) (x0 : Nat) (z : Hp) : Option (Int32 × Hp) := gd (x0 < zn z ∧ zK z x0 = 11) <| br ((zF z 706 x0) = 0) (some ((-3 : Int32), z)) (bo (fX12_drawTurns N x0 z) fun z4 => gd (x0 < zn z4 ∧ zK z4 x0 = 11) <| bo (zG z4 740 x0) fun b7 => bd ((zF z4 742 x0) - (zF z4 741 x0)) fun v8 => gd (b7 < zn z4 ∧ zK z4 b7 = 12) <| gd (¬ (v8 < 0 ∨ zL z4 b7 ≤ (v8).toNatClampNeg)) <| some ((zA z4 b7 (v8).toNatClampNeg), z4))
set_option maxHeartbeats 4000000 in
set_option maxRecDepth 100000 in
theorem tX12_turn_0 {n0 : Nat} {D : va_G} {Y : Nat → ClassId} {p : Program} {l : Launch} {e : Env} {s : State} {m : MethodId} {args : Array Value} {below : List Frame} {meth : Method} {c : Code} {N : Nat} {fin : Int32 × Hp} {x0 : Nat}  {z : Hp} (C : Cx n0 D Y RX12 cX12_turn (some .int) 1 wsX12_turn "turn" p s m args meth c) {x : (Int32 × Hp)} (h : fX12_turn N x0  z = some x) (hF : (fun x => x = fin) x) {H : Heap} {locs : List Loc} {ls : Array Slot} (hw : Wd n0 D Y z s H locs) (hl : lv_has ls 1 [(0, .ref (n0 + x0))]) : W p l e rmX12_turn s m args below meth c H locs 0 0 (MQ below (PosI n0 D Y fin.2 fin.1) args s 0 0 (AA n0)) (F0 m 0 ls []) := by
  unfold fX12_turn at h
  refine lv_aload_n C.1 C.2.1 dX12_turn_0 rfl (lv_at hl 0 rfl) ?_
  obtain ⟨g1, h⟩ := gdE h
  refine r_get (v := .int (zF z 706 x0)) C hw g1 (by decide) (Cn := RX12) (T := TX12) (N := 50) rfl in_X12_turn_X12 2 (by decide) (by decide +kernel) (fun _ h => h) rfl dX12_turn_1 ?_
  refine lv_if_ne (tgt := 10) C.1 C.2.1 dX12_turn_4 (by decide) (fun c2 => ?_) (fun c2 => ?_)
  · replace h := brF h c2
    refine lv_aload_n C.1 C.2.1 dX12_turn_10 rfl (lv_at hl 0 rfl) ?_
    obtain ⟨z4, e3, h⟩ := boE h
    refine r_aftv hw (r_runV (As := []) (rest := []) C hw (ki := 11) g1 (by decide) rfl (kX12_drawTurns l n0 D Y N x0  z e3) (cwV 0 C.2.2.2.2.2.1 gX12_turn_X12_drawTurns rfl rfl rfl (by decide +kernel) ⟨(Nat.le_of_ble_eq_true rfl), (Nat.le_of_ble_eq_true rfl)⟩) rfl hl.1 rfl (Nat.le_of_ble_eq_true rfl) dX12_turn_11 ⟨(Nat.le_of_ble_eq_true rfl), (Nat.le_of_ble_eq_true rfl)⟩) (fun H locs hw => ?_)
    refine lv_aload_n C.1 C.2.1 dX12_turn_14 rfl (lv_at hl 0 rfl) ?_
    obtain ⟨g5, h⟩ := gdE h
    refine r_get (v := rv n0 (zG z4 740 x0)) C hw g5 (by decide) (Cn := RX12) (T := TX12) (N := 50) rfl in_X12_turn_X12 36 (by decide) (by decide +kernel) (fun _ h => h) rfl dX12_turn_15 ?_
    obtain ⟨b7, e6, h⟩ := boE h
    refine r_topr e6 ?_
    refine lv_aload_n C.1 C.2.1 dX12_turn_18 rfl (lv_at hl 0 rfl) ?_
    refine r_get (v := .int (zF z4 742 x0)) C hw g5 (by decide) (Cn := RX12) (T := TX12) (N := 50) rfl in_X12_turn_X12 38 (by decide) (by decide +kernel) (fun _ h => h) rfl dX12_turn_19 ?_
    refine lv_aload_n C.1 C.2.1 dX12_turn_22 rfl (lv_at hl 0 rfl) ?_
    refine r_get (v := .int (zF z4 741 x0)) C hw g5 (by decide) (Cn := RX12) (T := TX12) (N := 50) rfl in_X12_turn_X12 37 (by decide) (by decide +kernel) (fun _ h => h) rfl dX12_turn_23 ?_
    refine lv_isub C.1 C.2.1 dX12_turn_26 ?_
    obtain ⟨v8, e9, h⟩ := bdE h
    refine r_topi e9 ?_
    obtain ⟨g10, h⟩ := gdE h
    obtain ⟨i11, h⟩ := gdE h
    refine r_iald C hw g10 i11 dX12_turn_27 ?_
    cases h
    replace hF : _ = fin := hF
    subst hF
    exact r_iret C hw dX12_turn_28
  · replace h := brT h c2
    refine lv_bipush (v := (-3 : Int32)) C.1 C.2.1 dX12_turn_7 (by decide) ?_
    cases h
    replace hF : _ = fin := hF
    subst hF
    exact r_iret C hw dX12_turn_9
set_option maxRecDepth 100000 in
theorem kX12_turn (l : Launch) (n0 : Nat) (D : va_G) (Y : Nat → ClassId) (N : Nat) (x0 : Nat) (z : Hp) {r : Int32} {z1 : Hp} (h : fX12_turn N x0 z = some (r, z1)) : Met l yX12_turn wsX12_turn rmX12_turn (PreC n0 D Y z [.ref (n0 + x0)]) (PosI n0 D Y z1 r) 0 0 (AA n0) := by
  refine Met.ofW (cc := cX12_turn) (maxL := 1) (ret := (some .int)) (by decide) rfl ?_
  intro p e s m args below meth c s₁ B hml hv
  obtain ⟨rfl, hR, hK⟩ := hv
  have C : Cx n0 D Y RX12 cX12_turn (some .int) 1 wsX12_turn "turn" p s m ([.ref (n0 + x0)] : List Value).toArray meth c := ⟨B.exec, B.bytes, B.returns, hml, findClass_of_methodNamed B.named, atoms_spec (ws := wsX12_turn) B.pre, B.notSynchronized, (name_of_methodNamed B.named B.method).1, hK⟩
  have hl := lv_entry ([.ref (n0 + x0)]) (n := 1) (Nat.le_of_ble_eq_true rfl)
  rw [lg_entry_eq]
  generalize (lg_sl ([.ref (n0 + x0)]) ++ List.replicate (1 - (lg_sl ([.ref (n0 + x0)])).length) Slot.unset).toArray = ls at hl ⊢
  have hl : lv_has ls 1 [(0, .ref (n0 + x0))] := hl
  exact tX12_turn_0 C h rfl ⟨hR, va_S.rf⟩ hl
theorem in_X12_rules_X12 : ∀ w ∈ wsX120, w ∈ wsX12_rules := by decide +kernel
abbrev rmX12_rules : Room := { frames := 1, cells := 0, slots := 0, locals := 25 }
noncomputable def fX12_rules_24 (N : Nat) (x0 : Nat) (z : Hp) : Option (Int32 × Hp) := some ((-2 : Int32), z)
set_option maxHeartbeats 4000000 in
set_option maxRecDepth 100000 in
theorem tX12_rules_24 {n0 : Nat} {D : va_G} {Y : Nat → ClassId} {p : Program} {l : Launch} {e : Env} {s : State} {m : MethodId} {args : Array Value} {below : List Frame} {meth : Method} {c : Code} {N : Nat} {fin : Int32 × Hp} {x0 : Nat}  {z : Hp} (C : Cx n0 D Y RX12 cX12_rules (some .int) 3 wsX12_rules "rules" p s m args meth c) {x : (Int32 × Hp)} (h : fX12_rules_24 N x0  z = some x) (hF : (fun x => x = fin) x) {H : Heap} {locs : List Loc} {ls : Array Slot} (hw : Wd n0 D Y z s H locs) (hl : lv_has ls 3 [(0, .ref (n0 + x0))]) : W p l e rmX12_rules s m args below meth c H locs 0 0 (MQ below (PosI n0 D Y fin.2 fin.1) args s 0 0 (AA n0)) (F0 m 24 ls []) := by
  unfold fX12_rules_24 at h
  refine lv_bipush (v := (-2 : Int32)) C.1 C.2.1 dX12_rules_24 (by decide) ?_
  cases h
  replace hF : _ = fin := hF
  subst hF
  exact r_iret C hw dX12_rules_26
noncomputable def fX12_rules (N : Nat) (x0 : Nat) (x1 : Int32) (x2 : Int32) (z : Hp) : Option (Int32 × Hp) := bo (fX12_in N (Int32.toInt64 x1) (0 : Int64) (5 : Int64) z) fun r2 => br (r2 = 0) (fX12_rules_24 N x0 z) (bo (fX12_in N (Int32.toInt64 x2) (0 : Int64) (1000 : Int64) z) fun r5 => br (r5 = 0) (fX12_rules_24 N x0 z) (gd (x0 < zn z ∧ zK z x0 = 11) <| bd (zsF z 744 x0 x1) fun z7 => bd (zsF z7 745 x0 x2) fun z10 => some ((1 : Int32), z10)))
set_option maxHeartbeats 4000000 in
set_option maxRecDepth 100000 in
theorem tX12_rules_0 {n0 : Nat} {D : va_G} {Y : Nat → ClassId} {p : Program} {l : Launch} {e : Env} {s : State} {m : MethodId} {args : Array Value} {below : List Frame} {meth : Method} {c : Code} {N : Nat} {fin : Int32 × Hp} {x0 : Nat} {x1 : Int32} {x2 : Int32}  {z : Hp} (C : Cx n0 D Y RX12 cX12_rules (some .int) 3 wsX12_rules "rules" p s m args meth c) {x : (Int32 × Hp)} (h : fX12_rules N x0 x1 x2  z = some x) (hF : (fun x => x = fin) x) {H : Heap} {locs : List Loc} {ls : Array Slot} (hw : Wd n0 D Y z s H locs) (hl : lv_has ls 3 [(0, .ref (n0 + x0)), (1, .int x1), (2, .int x2)]) : W p l e rmX12_rules s m args below meth c H locs 0 0 (MQ below (PosI n0 D Y fin.2 fin.1) args s 0 0 (AA n0)) (F0 m 0 ls []) := by
  unfold fX12_rules at h
  refine lv_iload_n C.1 C.2.1 dX12_rules_0 rfl (lv_at hl 1 rfl) ?_
  refine lv_i2l C.1 C.2.1 dX12_rules_1 rfl ?_
  refine lv_lconst (v := (0 : Int64)) C.1 C.2.1 dX12_rules_2 (by decide) ?_
  refine lv_ldc2 (v := (5 : Int64)) C.1 C.2.1 C.2.2.2.2.1 (C.2.2.2.2.2.1 (.constantLong RX12 195 (5 : Int64)) (by decide +kernel)) dX12_rules_3 ?_
  obtain ⟨r2, e1, h⟩ := boE h
  refine r_afti hw (r_runS (As := [.long (Int32.toInt64 x1), .long (0 : Int64), .long (5 : Int64)]) (rest := []) C hw (kX12_in l n0 D Y N (Int32.toInt64 x1) (0 : Int64) (5 : Int64) z e1) (va_cwS 3 C.2.2.2.2.2.1 gX12_rules_X12_in rfl rfl rfl (by decide +kernel) ⟨(Nat.le_of_ble_eq_true rfl), (Nat.le_of_ble_eq_true rfl)⟩) rfl hl.1 rfl (Nat.le_of_ble_eq_true rfl) dX12_rules_6 ⟨(Nat.le_of_ble_eq_true rfl), (Nat.le_of_ble_eq_true rfl)⟩) (fun H locs hw => ?_)
  refine lv_if_eq (tgt := 24) C.1 C.2.1 dX12_rules_9 (by decide) (fun c3 => ?_) (fun c3 => ?_)
  · replace h := brT h c3
    exact tX12_rules_24 C h hF hw (lv_sub hl [0] rfl)
  · replace h := brF h c3
    refine lv_iload_n C.1 C.2.1 dX12_rules_12 rfl (lv_at hl 2 rfl) ?_
    refine lv_i2l C.1 C.2.1 dX12_rules_13 rfl ?_
    refine lv_lconst (v := (0 : Int64)) C.1 C.2.1 dX12_rules_14 (by decide) ?_
    refine lv_ldc2 (v := (1000 : Int64)) C.1 C.2.1 C.2.2.2.2.1 (C.2.2.2.2.2.1 (.constantLong RX12 165 (1000 : Int64)) (by decide +kernel)) dX12_rules_15 ?_
    obtain ⟨r5, e4, h⟩ := boE h
    refine r_afti hw (r_runS (As := [.long (Int32.toInt64 x2), .long (0 : Int64), .long (1000 : Int64)]) (rest := []) C hw (kX12_in l n0 D Y N (Int32.toInt64 x2) (0 : Int64) (1000 : Int64) z e4) (va_cwS 3 C.2.2.2.2.2.1 gX12_rules_X12_in rfl rfl rfl (by decide +kernel) ⟨(Nat.le_of_ble_eq_true rfl), (Nat.le_of_ble_eq_true rfl)⟩) rfl hl.1 rfl (Nat.le_of_ble_eq_true rfl) dX12_rules_18 ⟨(Nat.le_of_ble_eq_true rfl), (Nat.le_of_ble_eq_true rfl)⟩) (fun H locs hw => ?_)
    refine lv_if_ne (tgt := 27) C.1 C.2.1 dX12_rules_21 (by decide) (fun c6 => ?_) (fun c6 => ?_)
    · replace h := brF h c6
      refine lv_aload_n C.1 C.2.1 dX12_rules_27 rfl (lv_at hl 0 rfl) ?_
      refine lv_iload_n C.1 C.2.1 dX12_rules_28 rfl (lv_at hl 1 rfl) ?_
      obtain ⟨g9, h⟩ := gdE h
      obtain ⟨z7, e8, h⟩ := bdE h
      refine r_putI C hw g9 (by decide) (Cn := RX12) (T := TX12) (N := 50) rfl in_X12_rules_X12 tyX12 tyX12_ok nmX12 40 (by decide) (by decide +kernel) (fun _ h => h) (Or.inl rfl) (ty := .int) (by decide +kernel) rfl rfl (Nat.le_of_ble_eq_true rfl) (st_11_40 n0 z x0 x1) e8 dX12_rules_29 (fun H locs hw => ?_)
      refine lv_aload_n C.1 C.2.1 dX12_rules_32 rfl (lv_at hl 0 rfl) ?_
      refine lv_iload_n C.1 C.2.1 dX12_rules_33 rfl (lv_at hl 2 rfl) ?_
      have g12 : x0 < zn z7 ∧ zK z7 x0 = 11 := by rw [e8]; exact g9
      obtain ⟨z10, e11, h⟩ := bdE h
      refine r_putI C hw g12 (by decide) (Cn := RX12) (T := TX12) (N := 50) rfl in_X12_rules_X12 tyX12 tyX12_ok nmX12 41 (by decide) (by decide +kernel) (fun _ h => h) (Or.inl rfl) (ty := .int) (by decide +kernel) rfl rfl (Nat.le_of_ble_eq_true rfl) (st_11_41 n0 z7 x0 x2) e11 dX12_rules_34 (fun H locs hw => ?_)
      refine lv_iconst (v := (1 : Int32)) C.1 C.2.1 dX12_rules_37 (by decide) ?_
      cases h
      replace hF : _ = fin := hF
      subst hF
      exact r_iret C hw dX12_rules_38
    · replace h := brT h c6
      exact tX12_rules_24 C h hF hw (lv_sub hl [0] rfl)
set_option maxRecDepth 100000 in
theorem kX12_rules (l : Launch) (n0 : Nat) (D : va_G) (Y : Nat → ClassId) (N : Nat) (x0 : Nat) (x1 : Int32) (x2 : Int32) (z : Hp) {r : Int32} {z1 : Hp} (h : fX12_rules N x0 x1 x2 z = some (r, z1)) : Met l yX12_rules wsX12_rules rmX12_rules (PreC n0 D Y z [.ref (n0 + x0), .int x1, .int x2]) (PosI n0 D Y z1 r) 0 0 (AA n0) := by
  refine Met.ofW (cc := cX12_rules) (maxL := 3) (ret := (some .int)) (by decide) rfl ?_
  intro p e s m args below meth c s₁ B hml hv
  obtain ⟨rfl, hR, hK⟩ := hv
  have C : Cx n0 D Y RX12 cX12_rules (some .int) 3 wsX12_rules "rules" p s m ([.ref (n0 + x0), .int x1, .int x2] : List Value).toArray meth c := ⟨B.exec, B.bytes, B.returns, hml, findClass_of_methodNamed B.named, atoms_spec (ws := wsX12_rules) B.pre, B.notSynchronized, (name_of_methodNamed B.named B.method).1, hK⟩
  have hl := lv_entry ([.ref (n0 + x0), .int x1, .int x2]) (n := 3) (Nat.le_of_ble_eq_true rfl)
  rw [lg_entry_eq]
  generalize (lg_sl ([.ref (n0 + x0), .int x1, .int x2]) ++ List.replicate (3 - (lg_sl ([.ref (n0 + x0), .int x1, .int x2])).length) Slot.unset).toArray = ls at hl ⊢
  have hl : lv_has ls 3 [(0, .ref (n0 + x0)), (1, .int x1), (2, .int x2)] := hl
  exact tX12_rules_0 C h rfl ⟨hR, va_S.rf⟩ hl
theorem in_X12_record_X12 : ∀ w ∈ wsX120, w ∈ wsX12_record := by decide +kernel
abbrev rmX12_record : Room := { frames := 2, cells := 0, slots := 0, locals := 46 }
noncomputable def fX12_record (N : Nat) (x0 : Nat) (x1 : Int32) (x2 : Int32) (z : Hp) : Option (Int32) := gd (x0 < zn z ∧ zK z x0 = 11) <| bo (fX12_isRecord N x0 x1 z) fun r2 => br (r2 = 0) (some (-1 : Int32)) (br (x2 = 0) (bo (zG z 707 x0) fun b22 => gd (b22 < zn z ∧ zK z b22 = 12) <| gd (¬ (x1 < 0 ∨ zL z b22 ≤ (x1).toNatClampNeg)) <| some (zA z b22 (x1).toNatClampNeg)) (br (x2 = (1 : Int32)) (bo (zG z 708 x0) fun b18 => gd (b18 < zn z ∧ zK z b18 = 12) <| gd (¬ (x1 < 0 ∨ zL z b18 ≤ (x1).toNatClampNeg)) <| some (zA z b18 (x1).toNatClampNeg)) (br (x2 = (2 : Int32)) (bo (zG z 709 x0) fun b14 => gd (b14 < zn z ∧ zK z b14 = 12) <| gd (¬ (x1 < 0 ∨ zL z b14 ≤ (x1).toNatClampNeg)) <| some (zA z b14 (x1).toNatClampNeg)) (br (x2 = (3 : Int32)) (bo (zG z 710 x0) fun b10 => gd (b10 < zn z ∧ zK z b10 = 12) <| gd (¬ (x1 < 0 ∨ zL z b10 ≤ (x1).toNatClampNeg)) <| some (zA z b10 (x1).toNatClampNeg)) (some (-2 : Int32))))))
set_option maxHeartbeats 4000000 in
set_option maxRecDepth 100000 in
theorem tX12_record_0 {n0 : Nat} {D : va_G} {Y : Nat → ClassId} {p : Program} {l : Launch} {e : Env} {s : State} {m : MethodId} {args : Array Value} {below : List Frame} {meth : Method} {c : Code} {N : Nat} {fin : Int32} {x0 : Nat} {x1 : Int32} {x2 : Int32}  {z : Hp} (C : Cx n0 D Y RX12 cX12_record (some .int) 3 wsX12_record "record" p s m args meth c) {x : (Int32)} (h : fX12_record N x0 x1 x2  z = some x) (hF : (fun x => x = fin) x) {H : Heap} {locs : List Loc} {ls : Array Slot} (hw : Wd n0 D Y z s H locs) (hl : lv_has ls 3 [(0, .ref (n0 + x0)), (1, .int x1), (2, .int x2)]) : W p l e rmX12_record s m args below meth c H locs 0 0 (MQ below (PosI n0 D Y z fin) args s 0 0 (AA n0)) (F0 m 0 ls []) := by
  unfold fX12_record at h
  refine lv_aload_n C.1 C.2.1 dX12_record_0 rfl (lv_at hl 0 rfl) ?_
  refine lv_iload_n C.1 C.2.1 dX12_record_1 rfl (lv_at hl 1 rfl) ?_
  obtain ⟨g3, h⟩ := gdE h
  obtain ⟨r2, e1, h⟩ := boE h
  refine r_afti hw (r_runV (As := [.int x1]) (rest := []) C hw (ki := 11) g3 (by decide) rfl (kX12_isRecord l n0 D Y N x0 x1 z e1) (cwV 1 C.2.2.2.2.2.1 gX12_record_X12_isRecord rfl rfl rfl (by decide +kernel) ⟨(Nat.le_of_ble_eq_true rfl), (Nat.le_of_ble_eq_true rfl)⟩) rfl hl.1 rfl (Nat.le_of_ble_eq_true rfl) dX12_record_2 ⟨(Nat.le_of_ble_eq_true rfl), (Nat.le_of_ble_eq_true rfl)⟩) (fun H locs hw => ?_)
  refine lv_if_ne (tgt := 10) C.1 C.2.1 dX12_record_5 (by decide) (fun c4 => ?_) (fun c4 => ?_)
  · replace h := brF h c4
    refine lv_iload_n C.1 C.2.1 dX12_record_10 rfl (lv_at hl 2 rfl) ?_
    refine lv_if_ne (tgt := 23) C.1 C.2.1 dX12_record_11 (by decide) (fun c5 => ?_) (fun c5 => ?_)
    · replace h := brF h c5
      refine lv_iload_n C.1 C.2.1 dX12_record_23 rfl (lv_at hl 2 rfl) ?_
      refine lv_iconst (v := (1 : Int32)) C.1 C.2.1 dX12_record_24 (by decide) ?_
      refine lv_icmp_ne (tgt := 37) C.1 C.2.1 dX12_record_25 (by decide) (fun c6 => ?_) (fun c6 => ?_)
      · replace h := brF h c6
        refine lv_iload_n C.1 C.2.1 dX12_record_37 rfl (lv_at hl 2 rfl) ?_
        refine lv_iconst (v := (2 : Int32)) C.1 C.2.1 dX12_record_38 (by decide) ?_
        refine lv_icmp_ne (tgt := 51) C.1 C.2.1 dX12_record_39 (by decide) (fun c7 => ?_) (fun c7 => ?_)
        · replace h := brF h c7
          refine lv_iload_n C.1 C.2.1 dX12_record_51 rfl (lv_at hl 2 rfl) ?_
          refine lv_iconst (v := (3 : Int32)) C.1 C.2.1 dX12_record_52 (by decide) ?_
          refine lv_icmp_ne (tgt := 65) C.1 C.2.1 dX12_record_53 (by decide) (fun c8 => ?_) (fun c8 => ?_)
          · replace h := brF h c8
            refine lv_bipush (v := (-2 : Int32)) C.1 C.2.1 dX12_record_65 (by decide) ?_
            cases h
            replace hF : _ = fin := hF
            subst hF
            exact r_iret C hw dX12_record_67
          · replace h := brT h c8
            refine lv_aload_n C.1 C.2.1 dX12_record_56 rfl (lv_at hl 0 rfl) ?_
            refine r_get (v := rv n0 (zG z 710 x0)) C hw g3 (by decide) (Cn := RX12) (T := TX12) (N := 50) rfl in_X12_record_X12 6 (by decide) (by decide +kernel) (fun _ h => h) rfl dX12_record_57 ?_
            obtain ⟨b10, e9, h⟩ := boE h
            refine r_topr e9 ?_
            refine lv_iload_n C.1 C.2.1 dX12_record_60 rfl (lv_at hl 1 rfl) ?_
            obtain ⟨g11, h⟩ := gdE h
            obtain ⟨i12, h⟩ := gdE h
            refine r_iald C hw g11 i12 dX12_record_61 ?_
            refine lv_goto (tgt := 67) C.1 C.2.1 dX12_record_62 (by decide) ?_
            cases h
            replace hF : _ = fin := hF
            subst hF
            exact r_iret C hw dX12_record_67
        · replace h := brT h c7
          refine lv_aload_n C.1 C.2.1 dX12_record_42 rfl (lv_at hl 0 rfl) ?_
          refine r_get (v := rv n0 (zG z 709 x0)) C hw g3 (by decide) (Cn := RX12) (T := TX12) (N := 50) rfl in_X12_record_X12 5 (by decide) (by decide +kernel) (fun _ h => h) rfl dX12_record_43 ?_
          obtain ⟨b14, e13, h⟩ := boE h
          refine r_topr e13 ?_
          refine lv_iload_n C.1 C.2.1 dX12_record_46 rfl (lv_at hl 1 rfl) ?_
          obtain ⟨g15, h⟩ := gdE h
          obtain ⟨i16, h⟩ := gdE h
          refine r_iald C hw g15 i16 dX12_record_47 ?_
          refine lv_goto (tgt := 67) C.1 C.2.1 dX12_record_48 (by decide) ?_
          cases h
          replace hF : _ = fin := hF
          subst hF
          exact r_iret C hw dX12_record_67
      · replace h := brT h c6
        refine lv_aload_n C.1 C.2.1 dX12_record_28 rfl (lv_at hl 0 rfl) ?_
        refine r_get (v := rv n0 (zG z 708 x0)) C hw g3 (by decide) (Cn := RX12) (T := TX12) (N := 50) rfl in_X12_record_X12 4 (by decide) (by decide +kernel) (fun _ h => h) rfl dX12_record_29 ?_
        obtain ⟨b18, e17, h⟩ := boE h
        refine r_topr e17 ?_
        refine lv_iload_n C.1 C.2.1 dX12_record_32 rfl (lv_at hl 1 rfl) ?_
        obtain ⟨g19, h⟩ := gdE h
        obtain ⟨i20, h⟩ := gdE h
        refine r_iald C hw g19 i20 dX12_record_33 ?_
        refine lv_goto (tgt := 67) C.1 C.2.1 dX12_record_34 (by decide) ?_
        cases h
        replace hF : _ = fin := hF
        subst hF
        exact r_iret C hw dX12_record_67
    · replace h := brT h c5
      refine lv_aload_n C.1 C.2.1 dX12_record_14 rfl (lv_at hl 0 rfl) ?_
      refine r_get (v := rv n0 (zG z 707 x0)) C hw g3 (by decide) (Cn := RX12) (T := TX12) (N := 50) rfl in_X12_record_X12 3 (by decide) (by decide +kernel) (fun _ h => h) rfl dX12_record_15 ?_
      obtain ⟨b22, e21, h⟩ := boE h
      refine r_topr e21 ?_
      refine lv_iload_n C.1 C.2.1 dX12_record_18 rfl (lv_at hl 1 rfl) ?_
      obtain ⟨g23, h⟩ := gdE h
      obtain ⟨i24, h⟩ := gdE h
      refine r_iald C hw g23 i24 dX12_record_19 ?_
      refine lv_goto (tgt := 67) C.1 C.2.1 dX12_record_20 (by decide) ?_
      cases h
      replace hF : _ = fin := hF
      subst hF
      exact r_iret C hw dX12_record_67
  · replace h := brT h c4
    refine lv_iconst (v := (-1 : Int32)) C.1 C.2.1 dX12_record_8 (by decide) ?_
    cases h
    replace hF : _ = fin := hF
    subst hF
    exact r_iret C hw dX12_record_9
set_option maxRecDepth 100000 in
theorem kX12_record (l : Launch) (n0 : Nat) (D : va_G) (Y : Nat → ClassId) (N : Nat) (x0 : Nat) (x1 : Int32) (x2 : Int32) (z : Hp) {r : Int32} (h : fX12_record N x0 x1 x2 z = some r) : Met l yX12_record wsX12_record rmX12_record (PreC n0 D Y z [.ref (n0 + x0), .int x1, .int x2]) (PosI n0 D Y z r) 0 0 (AA n0) := by
  refine Met.ofW (cc := cX12_record) (maxL := 3) (ret := (some .int)) (by decide) rfl ?_
  intro p e s m args below meth c s₁ B hml hv
  obtain ⟨rfl, hR, hK⟩ := hv
  have C : Cx n0 D Y RX12 cX12_record (some .int) 3 wsX12_record "record" p s m ([.ref (n0 + x0), .int x1, .int x2] : List Value).toArray meth c := ⟨B.exec, B.bytes, B.returns, hml, findClass_of_methodNamed B.named, atoms_spec (ws := wsX12_record) B.pre, B.notSynchronized, (name_of_methodNamed B.named B.method).1, hK⟩
  have hl := lv_entry ([.ref (n0 + x0), .int x1, .int x2]) (n := 3) (Nat.le_of_ble_eq_true rfl)
  rw [lg_entry_eq]
  generalize (lg_sl ([.ref (n0 + x0), .int x1, .int x2]) ++ List.replicate (3 - (lg_sl ([.ref (n0 + x0), .int x1, .int x2])).length) Slot.unset).toArray = ls at hl ⊢
  have hl : lv_has ls 3 [(0, .ref (n0 + x0)), (1, .int x1), (2, .int x2)] := hl
  exact tX12_record_0 C h rfl ⟨hR, va_S.rf⟩ hl
theorem in_X12_lot_X12 : ∀ w ∈ wsX120, w ∈ wsX12_lot := by decide +kernel
abbrev rmX12_lot : Room := { frames := 2, cells := 0, slots := 0, locals := 46 }
noncomputable def fX12_lot (N : Nat) (x0 : Nat) (x1 : Int32) (x2 : Int32) (z : Hp) : Option (Int32) := gd (x0 < zn z ∧ zK z x0 = 11) <| bo (fX12_isRecord N x0 x1 z) fun r2 => br (r2 = 0) (some (-1 : Int32)) (bo (fX12_in N (Int32.toInt64 x2) (0 : Int64) (3 : Int64) z) fun r6 => br (r6 = 0) (some (-2 : Int32)) (bo (zG z 707 x0) fun b9 => gd (b9 < zn z ∧ zK z b9 = 12) <| gd (¬ (x1 < 0 ∨ zL z b9 ≤ (x1).toNatClampNeg)) <| br ((zA z b9 (x1).toNatClampNeg) = (1 : Int32)) (br (x2 = 0) (bo (zG z 712 x0) fun b30 => gd (b30 < zn z ∧ zK z b30 = 12) <| gd (¬ (x1 < 0 ∨ zL z b30 ≤ (x1).toNatClampNeg)) <| some (zA z b30 (x1).toNatClampNeg)) (br (x2 = (1 : Int32)) (bo (zG z 713 x0) fun b26 => gd (b26 < zn z ∧ zK z b26 = 12) <| gd (¬ (x1 < 0 ∨ zL z b26 ≤ (x1).toNatClampNeg)) <| some (zA z b26 (x1).toNatClampNeg)) (br (x2 = (2 : Int32)) (bo (zG z 714 x0) fun b21 => gd (b21 < zn z ∧ zK z b21 = 14) <| gd (¬ (x1 < 0 ∨ zL z b21 ≤ (x1).toNatClampNeg)) <| br ((zA z b21 (x1).toNatClampNeg) = 0) (some (0 : Int32)) (some (1 : Int32))) (bo (zG z 715 x0) fun b17 => gd (b17 < zn z ∧ zK z b17 = 12) <| gd (¬ (x1 < 0 ∨ zL z b17 ≤ (x1).toNatClampNeg)) <| some (zA z b17 (x1).toNatClampNeg))))) (some (-5 : Int32))))
set_option maxHeartbeats 4000000 in
set_option maxRecDepth 100000 in
theorem tX12_lot_0 {n0 : Nat} {D : va_G} {Y : Nat → ClassId} {p : Program} {l : Launch} {e : Env} {s : State} {m : MethodId} {args : Array Value} {below : List Frame} {meth : Method} {c : Code} {N : Nat} {fin : Int32} {x0 : Nat} {x1 : Int32} {x2 : Int32}  {z : Hp} (C : Cx n0 D Y RX12 cX12_lot (some .int) 3 wsX12_lot "lot" p s m args meth c) {x : (Int32)} (h : fX12_lot N x0 x1 x2  z = some x) (hF : (fun x => x = fin) x) {H : Heap} {locs : List Loc} {ls : Array Slot} (hw : Wd n0 D Y z s H locs) (hl : lv_has ls 3 [(0, .ref (n0 + x0)), (1, .int x1), (2, .int x2)]) : W p l e rmX12_lot s m args below meth c H locs 0 0 (MQ below (PosI n0 D Y z fin) args s 0 0 (AA n0)) (F0 m 0 ls []) := by
  unfold fX12_lot at h
  refine lv_aload_n C.1 C.2.1 dX12_lot_0 rfl (lv_at hl 0 rfl) ?_
  refine lv_iload_n C.1 C.2.1 dX12_lot_1 rfl (lv_at hl 1 rfl) ?_
  obtain ⟨g3, h⟩ := gdE h
  obtain ⟨r2, e1, h⟩ := boE h
  refine r_afti hw (r_runV (As := [.int x1]) (rest := []) C hw (ki := 11) g3 (by decide) rfl (kX12_isRecord l n0 D Y N x0 x1 z e1) (cwV 1 C.2.2.2.2.2.1 gX12_lot_X12_isRecord rfl rfl rfl (by decide +kernel) ⟨(Nat.le_of_ble_eq_true rfl), (Nat.le_of_ble_eq_true rfl)⟩) rfl hl.1 rfl (Nat.le_of_ble_eq_true rfl) dX12_lot_2 ⟨(Nat.le_of_ble_eq_true rfl), (Nat.le_of_ble_eq_true rfl)⟩) (fun H locs hw => ?_)
  refine lv_if_ne (tgt := 10) C.1 C.2.1 dX12_lot_5 (by decide) (fun c4 => ?_) (fun c4 => ?_)
  · replace h := brF h c4
    refine lv_iload_n C.1 C.2.1 dX12_lot_10 rfl (lv_at hl 2 rfl) ?_
    refine lv_i2l C.1 C.2.1 dX12_lot_11 rfl ?_
    refine lv_lconst (v := (0 : Int64)) C.1 C.2.1 dX12_lot_12 (by decide) ?_
    refine lv_ldc2 (v := (3 : Int64)) C.1 C.2.1 C.2.2.2.2.1 (C.2.2.2.2.2.1 (.constantLong RX12 229 (3 : Int64)) (by decide +kernel)) dX12_lot_13 ?_
    obtain ⟨r6, e5, h⟩ := boE h
    refine r_afti hw (r_runS (As := [.long (Int32.toInt64 x2), .long (0 : Int64), .long (3 : Int64)]) (rest := []) C hw (kX12_in l n0 D Y N (Int32.toInt64 x2) (0 : Int64) (3 : Int64) z e5) (va_cwS 3 C.2.2.2.2.2.1 gX12_lot_X12_in rfl rfl rfl (by decide +kernel) ⟨(Nat.le_of_ble_eq_true rfl), (Nat.le_of_ble_eq_true rfl)⟩) rfl hl.1 rfl (Nat.le_of_ble_eq_true rfl) dX12_lot_16 ⟨(Nat.le_of_ble_eq_true rfl), (Nat.le_of_ble_eq_true rfl)⟩) (fun H locs hw => ?_)
    refine lv_if_ne (tgt := 25) C.1 C.2.1 dX12_lot_19 (by decide) (fun c7 => ?_) (fun c7 => ?_)
    · replace h := brF h c7
      refine lv_aload_n C.1 C.2.1 dX12_lot_25 rfl (lv_at hl 0 rfl) ?_
      refine r_get (v := rv n0 (zG z 707 x0)) C hw g3 (by decide) (Cn := RX12) (T := TX12) (N := 50) rfl in_X12_lot_X12 3 (by decide) (by decide +kernel) (fun _ h => h) rfl dX12_lot_26 ?_
      obtain ⟨b9, e8, h⟩ := boE h
      refine r_topr e8 ?_
      refine lv_iload_n C.1 C.2.1 dX12_lot_29 rfl (lv_at hl 1 rfl) ?_
      obtain ⟨g10, h⟩ := gdE h
      obtain ⟨i11, h⟩ := gdE h
      refine r_iald C hw g10 i11 dX12_lot_30 ?_
      refine lv_iconst (v := (1 : Int32)) C.1 C.2.1 dX12_lot_31 (by decide) ?_
      refine lv_icmp_eq (tgt := 38) C.1 C.2.1 dX12_lot_32 (by decide) (fun c12 => ?_) (fun c12 => ?_)
      · replace h := brT h c12
        refine lv_iload_n C.1 C.2.1 dX12_lot_38 rfl (lv_at hl 2 rfl) ?_
        refine lv_if_ne (tgt := 51) C.1 C.2.1 dX12_lot_39 (by decide) (fun c13 => ?_) (fun c13 => ?_)
        · replace h := brF h c13
          refine lv_iload_n C.1 C.2.1 dX12_lot_51 rfl (lv_at hl 2 rfl) ?_
          refine lv_iconst (v := (1 : Int32)) C.1 C.2.1 dX12_lot_52 (by decide) ?_
          refine lv_icmp_ne (tgt := 65) C.1 C.2.1 dX12_lot_53 (by decide) (fun c14 => ?_) (fun c14 => ?_)
          · replace h := brF h c14
            refine lv_iload_n C.1 C.2.1 dX12_lot_65 rfl (lv_at hl 2 rfl) ?_
            refine lv_iconst (v := (2 : Int32)) C.1 C.2.1 dX12_lot_66 (by decide) ?_
            refine lv_icmp_ne (tgt := 87) C.1 C.2.1 dX12_lot_67 (by decide) (fun c15 => ?_) (fun c15 => ?_)
            · replace h := brF h c15
              refine lv_aload_n C.1 C.2.1 dX12_lot_87 rfl (lv_at hl 0 rfl) ?_
              refine r_get (v := rv n0 (zG z 715 x0)) C hw g3 (by decide) (Cn := RX12) (T := TX12) (N := 50) rfl in_X12_lot_X12 11 (by decide) (by decide +kernel) (fun _ h => h) rfl dX12_lot_88 ?_
              obtain ⟨b17, e16, h⟩ := boE h
              refine r_topr e16 ?_
              refine lv_iload_n C.1 C.2.1 dX12_lot_91 rfl (lv_at hl 1 rfl) ?_
              obtain ⟨g18, h⟩ := gdE h
              obtain ⟨i19, h⟩ := gdE h
              refine r_iald C hw g18 i19 dX12_lot_92 ?_
              cases h
              replace hF : _ = fin := hF
              subst hF
              exact r_iret C hw dX12_lot_93
            · replace h := brT h c15
              refine lv_aload_n C.1 C.2.1 dX12_lot_70 rfl (lv_at hl 0 rfl) ?_
              refine r_get (v := rv n0 (zG z 714 x0)) C hw g3 (by decide) (Cn := RX12) (T := TX12) (N := 50) rfl in_X12_lot_X12 10 (by decide) (by decide +kernel) (fun _ h => h) rfl dX12_lot_71 ?_
              obtain ⟨b21, e20, h⟩ := boE h
              refine r_topr e20 ?_
              refine lv_iload_n C.1 C.2.1 dX12_lot_74 rfl (lv_at hl 1 rfl) ?_
              obtain ⟨g22, h⟩ := gdE h
              obtain ⟨i23, h⟩ := gdE h
              refine r_zald C hw g22 i23 dX12_lot_75 ?_
              refine lv_if_eq (tgt := 83) C.1 C.2.1 dX12_lot_76 (by decide) (fun c24 => ?_) (fun c24 => ?_)
              · replace h := brT h c24
                refine lv_iconst (v := (0 : Int32)) C.1 C.2.1 dX12_lot_83 (by decide) ?_
                refine lv_goto (tgt := 93) C.1 C.2.1 dX12_lot_84 (by decide) ?_
                cases h
                replace hF : _ = fin := hF
                subst hF
                exact r_iret C hw dX12_lot_93
              · replace h := brF h c24
                refine lv_iconst (v := (1 : Int32)) C.1 C.2.1 dX12_lot_79 (by decide) ?_
                refine lv_goto (tgt := 93) C.1 C.2.1 dX12_lot_80 (by decide) ?_
                cases h
                replace hF : _ = fin := hF
                subst hF
                exact r_iret C hw dX12_lot_93
          · replace h := brT h c14
            refine lv_aload_n C.1 C.2.1 dX12_lot_56 rfl (lv_at hl 0 rfl) ?_
            refine r_get (v := rv n0 (zG z 713 x0)) C hw g3 (by decide) (Cn := RX12) (T := TX12) (N := 50) rfl in_X12_lot_X12 9 (by decide) (by decide +kernel) (fun _ h => h) rfl dX12_lot_57 ?_
            obtain ⟨b26, e25, h⟩ := boE h
            refine r_topr e25 ?_
            refine lv_iload_n C.1 C.2.1 dX12_lot_60 rfl (lv_at hl 1 rfl) ?_
            obtain ⟨g27, h⟩ := gdE h
            obtain ⟨i28, h⟩ := gdE h
            refine r_iald C hw g27 i28 dX12_lot_61 ?_
            refine lv_goto (tgt := 93) C.1 C.2.1 dX12_lot_62 (by decide) ?_
            cases h
            replace hF : _ = fin := hF
            subst hF
            exact r_iret C hw dX12_lot_93
        · replace h := brT h c13
          refine lv_aload_n C.1 C.2.1 dX12_lot_42 rfl (lv_at hl 0 rfl) ?_
          refine r_get (v := rv n0 (zG z 712 x0)) C hw g3 (by decide) (Cn := RX12) (T := TX12) (N := 50) rfl in_X12_lot_X12 8 (by decide) (by decide +kernel) (fun _ h => h) rfl dX12_lot_43 ?_
          obtain ⟨b30, e29, h⟩ := boE h
          refine r_topr e29 ?_
          refine lv_iload_n C.1 C.2.1 dX12_lot_46 rfl (lv_at hl 1 rfl) ?_
          obtain ⟨g31, h⟩ := gdE h
          obtain ⟨i32, h⟩ := gdE h
          refine r_iald C hw g31 i32 dX12_lot_47 ?_
          refine lv_goto (tgt := 93) C.1 C.2.1 dX12_lot_48 (by decide) ?_
          cases h
          replace hF : _ = fin := hF
          subst hF
          exact r_iret C hw dX12_lot_93
      · replace h := brF h c12
        refine lv_bipush (v := (-5 : Int32)) C.1 C.2.1 dX12_lot_35 (by decide) ?_
        cases h
        replace hF : _ = fin := hF
        subst hF
        exact r_iret C hw dX12_lot_37
    · replace h := brT h c7
      refine lv_bipush (v := (-2 : Int32)) C.1 C.2.1 dX12_lot_22 (by decide) ?_
      cases h
      replace hF : _ = fin := hF
      subst hF
      exact r_iret C hw dX12_lot_24
  · replace h := brT h c4
    refine lv_iconst (v := (-1 : Int32)) C.1 C.2.1 dX12_lot_8 (by decide) ?_
    cases h
    replace hF : _ = fin := hF
    subst hF
    exact r_iret C hw dX12_lot_9
set_option maxRecDepth 100000 in
theorem kX12_lot (l : Launch) (n0 : Nat) (D : va_G) (Y : Nat → ClassId) (N : Nat) (x0 : Nat) (x1 : Int32) (x2 : Int32) (z : Hp) {r : Int32} (h : fX12_lot N x0 x1 x2 z = some r) : Met l yX12_lot wsX12_lot rmX12_lot (PreC n0 D Y z [.ref (n0 + x0), .int x1, .int x2]) (PosI n0 D Y z r) 0 0 (AA n0) := by
  refine Met.ofW (cc := cX12_lot) (maxL := 3) (ret := (some .int)) (by decide) rfl ?_
  intro p e s m args below meth c s₁ B hml hv
  obtain ⟨rfl, hR, hK⟩ := hv
  have C : Cx n0 D Y RX12 cX12_lot (some .int) 3 wsX12_lot "lot" p s m ([.ref (n0 + x0), .int x1, .int x2] : List Value).toArray meth c := ⟨B.exec, B.bytes, B.returns, hml, findClass_of_methodNamed B.named, atoms_spec (ws := wsX12_lot) B.pre, B.notSynchronized, (name_of_methodNamed B.named B.method).1, hK⟩
  have hl := lv_entry ([.ref (n0 + x0), .int x1, .int x2]) (n := 3) (Nat.le_of_ble_eq_true rfl)
  rw [lg_entry_eq]
  generalize (lg_sl ([.ref (n0 + x0), .int x1, .int x2]) ++ List.replicate (3 - (lg_sl ([.ref (n0 + x0), .int x1, .int x2])).length) Slot.unset).toArray = ls at hl ⊢
  have hl : lv_has ls 3 [(0, .ref (n0 + x0)), (1, .int x1), (2, .int x2)] := hl
  exact tX12_lot_0 C h rfl ⟨hR, va_S.rf⟩ hl
theorem in_X12_batch_X12 : ∀ w ∈ wsX120, w ∈ wsX12_batch := by decide +kernel
abbrev rmX12_batch : Room := { frames := 2, cells := 0, slots := 0, locals := 46 }
noncomputable def fX12_batch_28 (N : Nat) (x0 : Nat) (z : Hp) : Option (Int32) := some (-2 : Int32)
set_option maxHeartbeats 4000000 in
set_option maxRecDepth 100000 in
theorem tX12_batch_28 {n0 : Nat} {D : va_G} {Y : Nat → ClassId} {p : Program} {l : Launch} {e : Env} {s : State} {m : MethodId} {args : Array Value} {below : List Frame} {meth : Method} {c : Code} {N : Nat} {fin : Int32} {x0 : Nat}  {z : Hp} (C : Cx n0 D Y RX12 cX12_batch (some .int) 4 wsX12_batch "batch" p s m args meth c) {x : (Int32)} (h : fX12_batch_28 N x0  z = some x) (hF : (fun x => x = fin) x) {H : Heap} {locs : List Loc} {ls : Array Slot} (hw : Wd n0 D Y z s H locs) (hl : lv_has ls 4 [(0, .ref (n0 + x0))]) : W p l e rmX12_batch s m args below meth c H locs 0 0 (MQ below (PosI n0 D Y z fin) args s 0 0 (AA n0)) (F0 m 28 ls []) := by
  unfold fX12_batch_28 at h
  refine lv_bipush (v := (-2 : Int32)) C.1 C.2.1 dX12_batch_28 (by decide) ?_
  cases h
  replace hF : _ = fin := hF
  subst hF
  exact r_iret C hw dX12_batch_30
noncomputable def fX12_batch (N : Nat) (x0 : Nat) (x1 : Int32) (x2 : Int32) (z : Hp) : Option (Int32) := gd (x0 < zn z ∧ zK z x0 = 11) <| bo (fX12_isRecord N x0 x1 z) fun r2 => br (r2 = 0) (some (-1 : Int32)) (br (x2 < 0) (fX12_batch_28 N x0 z) (bo (fX12_in N (Int32.toInt64 x2) (4 : Int64) (9 : Int64) z) fun r7 => br (r7 = 0) (bo (zG z 707 x0) fun b10 => gd (b10 < zn z ∧ zK z b10 = 12) <| gd (¬ (x1 < 0 ∨ zL z b10 ≤ (x1).toNatClampNeg)) <| br ((zA z b10 (x1).toNatClampNeg) = (2 : Int32)) (br ((4 : Int32) ≤ x2) (bd ((x2 - (10 : Int32)) / (2 : Int32)) fun v15 => bo (zG z 724 x0) fun b18 => gd (b18 < zn z ∧ zK z b18 = 12) <| gd (¬ (x1 < 0 ∨ zL z b18 ≤ (x1).toNatClampNeg)) <| br (v15 < (zA z b18 (x1).toNatClampNeg)) (br ((irm x2 (2 : Int32)) = 0) (bo (zG z 725 x0) fun b34 => bo (zG z 723 x0) fun b36 => gd (b36 < zn z ∧ zK z b36 = 12) <| gd (¬ (x1 < 0 ∨ zL z b36 ≤ (x1).toNatClampNeg)) <| bd ((zA z b36 (x1).toNatClampNeg) + v15) fun v39 => gd (b34 < zn z ∧ zK z b34 = 12) <| gd (¬ (v39 < 0 ∨ zL z b34 ≤ (v39).toNatClampNeg)) <| some (zA z b34 (v39).toNatClampNeg)) (bo (zG z 726 x0) fun b24 => bo (zG z 723 x0) fun b26 => gd (b26 < zn z ∧ zK z b26 = 12) <| gd (¬ (x1 < 0 ∨ zL z b26 ≤ (x1).toNatClampNeg)) <| bd ((zA z b26 (x1).toNatClampNeg) + v15) fun v29 => gd (b24 < zn z ∧ zK z b24 = 12) <| gd (¬ (v29 < 0 ∨ zL z b24 ≤ (v29).toNatClampNeg)) <| some (zA z b24 (v29).toNatClampNeg))) (some (-6 : Int32))) (br (x2 = 0) (bo (zG z 720 x0) fun b59 => gd (b59 < zn z ∧ zK z b59 = 12) <| gd (¬ (x1 < 0 ∨ zL z b59 ≤ (x1).toNatClampNeg)) <| some (zA z b59 (x1).toNatClampNeg)) (br (x2 = (1 : Int32)) (bo (zG z 721 x0) fun b55 => gd (b55 < zn z ∧ zK z b55 = 12) <| gd (¬ (x1 < 0 ∨ zL z b55 ≤ (x1).toNatClampNeg)) <| some (zA z b55 (x1).toNatClampNeg)) (br (x2 = (2 : Int32)) (bo (zG z 722 x0) fun b51 => gd (b51 < zn z ∧ zK z b51 = 12) <| gd (¬ (x1 < 0 ∨ zL z b51 ≤ (x1).toNatClampNeg)) <| some (zA z b51 (x1).toNatClampNeg)) (bo (zG z 724 x0) fun b47 => gd (b47 < zn z ∧ zK z b47 = 12) <| gd (¬ (x1 < 0 ∨ zL z b47 ≤ (x1).toNatClampNeg)) <| some (zA z b47 (x1).toNatClampNeg)))))) (some (-5 : Int32))) (fX12_batch_28 N x0 z)))
set_option maxHeartbeats 4000000 in
set_option maxRecDepth 100000 in
theorem tX12_batch_0 {n0 : Nat} {D : va_G} {Y : Nat → ClassId} {p : Program} {l : Launch} {e : Env} {s : State} {m : MethodId} {args : Array Value} {below : List Frame} {meth : Method} {c : Code} {N : Nat} {fin : Int32} {x0 : Nat} {x1 : Int32} {x2 : Int32}  {z : Hp} (C : Cx n0 D Y RX12 cX12_batch (some .int) 4 wsX12_batch "batch" p s m args meth c) {x : (Int32)} (h : fX12_batch N x0 x1 x2  z = some x) (hF : (fun x => x = fin) x) {H : Heap} {locs : List Loc} {ls : Array Slot} (hw : Wd n0 D Y z s H locs) (hl : lv_has ls 4 [(0, .ref (n0 + x0)), (1, .int x1), (2, .int x2)]) : W p l e rmX12_batch s m args below meth c H locs 0 0 (MQ below (PosI n0 D Y z fin) args s 0 0 (AA n0)) (F0 m 0 ls []) := by
  unfold fX12_batch at h
  refine lv_aload_n C.1 C.2.1 dX12_batch_0 rfl (lv_at hl 0 rfl) ?_
  refine lv_iload_n C.1 C.2.1 dX12_batch_1 rfl (lv_at hl 1 rfl) ?_
  obtain ⟨g3, h⟩ := gdE h
  obtain ⟨r2, e1, h⟩ := boE h
  refine r_afti hw (r_runV (As := [.int x1]) (rest := []) C hw (ki := 11) g3 (by decide) rfl (kX12_isRecord l n0 D Y N x0 x1 z e1) (cwV 1 C.2.2.2.2.2.1 gX12_batch_X12_isRecord rfl rfl rfl (by decide +kernel) ⟨(Nat.le_of_ble_eq_true rfl), (Nat.le_of_ble_eq_true rfl)⟩) rfl hl.1 rfl (Nat.le_of_ble_eq_true rfl) dX12_batch_2 ⟨(Nat.le_of_ble_eq_true rfl), (Nat.le_of_ble_eq_true rfl)⟩) (fun H locs hw => ?_)
  refine lv_if_ne (tgt := 10) C.1 C.2.1 dX12_batch_5 (by decide) (fun c4 => ?_) (fun c4 => ?_)
  · replace h := brF h c4
    refine lv_iload_n C.1 C.2.1 dX12_batch_10 rfl (lv_at hl 2 rfl) ?_
    refine lv_if_lt (tgt := 28) C.1 C.2.1 dX12_batch_11 (by decide) (fun c5 => ?_) (fun c5 => ?_)
    · replace h := brT h c5
      exact tX12_batch_28 C h hF hw (lv_sub hl [0] rfl)
    · replace h := brF h c5
      refine lv_iload_n C.1 C.2.1 dX12_batch_14 rfl (lv_at hl 2 rfl) ?_
      refine lv_i2l C.1 C.2.1 dX12_batch_15 rfl ?_
      refine lv_ldc2 (v := (4 : Int64)) C.1 C.2.1 C.2.2.2.2.1 (C.2.2.2.2.2.1 (.constantLong RX12 231 (4 : Int64)) (by decide +kernel)) dX12_batch_16 ?_
      refine lv_ldc2 (v := (9 : Int64)) C.1 C.2.1 C.2.2.2.2.1 (C.2.2.2.2.2.1 (.constantLong RX12 233 (9 : Int64)) (by decide +kernel)) dX12_batch_19 ?_
      obtain ⟨r7, e6, h⟩ := boE h
      refine r_afti hw (r_runS (As := [.long (Int32.toInt64 x2), .long (4 : Int64), .long (9 : Int64)]) (rest := []) C hw (kX12_in l n0 D Y N (Int32.toInt64 x2) (4 : Int64) (9 : Int64) z e6) (va_cwS 3 C.2.2.2.2.2.1 gX12_batch_X12_in rfl rfl rfl (by decide +kernel) ⟨(Nat.le_of_ble_eq_true rfl), (Nat.le_of_ble_eq_true rfl)⟩) rfl hl.1 rfl (Nat.le_of_ble_eq_true rfl) dX12_batch_22 ⟨(Nat.le_of_ble_eq_true rfl), (Nat.le_of_ble_eq_true rfl)⟩) (fun H locs hw => ?_)
      refine lv_if_eq (tgt := 31) C.1 C.2.1 dX12_batch_25 (by decide) (fun c8 => ?_) (fun c8 => ?_)
      · replace h := brT h c8
        refine lv_aload_n C.1 C.2.1 dX12_batch_31 rfl (lv_at hl 0 rfl) ?_
        refine r_get (v := rv n0 (zG z 707 x0)) C hw g3 (by decide) (Cn := RX12) (T := TX12) (N := 50) rfl in_X12_batch_X12 3 (by decide) (by decide +kernel) (fun _ h => h) rfl dX12_batch_32 ?_
        obtain ⟨b10, e9, h⟩ := boE h
        refine r_topr e9 ?_
        refine lv_iload_n C.1 C.2.1 dX12_batch_35 rfl (lv_at hl 1 rfl) ?_
        obtain ⟨g11, h⟩ := gdE h
        obtain ⟨i12, h⟩ := gdE h
        refine r_iald C hw g11 i12 dX12_batch_36 ?_
        refine lv_iconst (v := (2 : Int32)) C.1 C.2.1 dX12_batch_37 (by decide) ?_
        refine lv_icmp_eq (tgt := 44) C.1 C.2.1 dX12_batch_38 (by decide) (fun c13 => ?_) (fun c13 => ?_)
        · replace h := brT h c13
          refine lv_iload_n C.1 C.2.1 dX12_batch_44 rfl (lv_at hl 2 rfl) ?_
          refine lv_iconst (v := (4 : Int32)) C.1 C.2.1 dX12_batch_45 (by decide) ?_
          refine lv_icmp_ge (tgt := 97) C.1 C.2.1 dX12_batch_46 (by decide) (fun c14 => ?_) (fun c14 => ?_)
          · replace h := brT h c14
            refine lv_iload_n C.1 C.2.1 dX12_batch_97 rfl (lv_at hl 2 rfl) ?_
            refine lv_bipush (v := (10 : Int32)) C.1 C.2.1 dX12_batch_98 (by decide) ?_
            refine lv_isub C.1 C.2.1 dX12_batch_100 ?_
            refine lv_iconst (v := (2 : Int32)) C.1 C.2.1 dX12_batch_101 (by decide) ?_
            refine lv_idiv C.1 C.2.1 dX12_batch_102 (by decide) ?_
            obtain ⟨v15, e16, h⟩ := bdE h
            refine r_topi e16 ?_
            refine lv_istore_n (i := 3) (lv' := [(3, .int v15), (0, .ref (n0 + x0)), (1, .int x1), (2, .int x2)]) C.1 C.2.1 dX12_batch_103 rfl hl (by decide) rfl (fun ls hl => ?_)
            refine lv_iload_n C.1 C.2.1 dX12_batch_104 rfl (lv_at hl 0 rfl) ?_
            refine lv_aload_n C.1 C.2.1 dX12_batch_105 rfl (lv_at hl 1 rfl) ?_
            refine r_get (v := rv n0 (zG z 724 x0)) C hw g3 (by decide) (Cn := RX12) (T := TX12) (N := 50) rfl in_X12_batch_X12 20 (by decide) (by decide +kernel) (fun _ h => h) rfl dX12_batch_106 ?_
            obtain ⟨b18, e17, h⟩ := boE h
            refine r_topr e17 ?_
            refine lv_iload_n C.1 C.2.1 dX12_batch_109 rfl (lv_at hl 2 rfl) ?_
            obtain ⟨g19, h⟩ := gdE h
            obtain ⟨i20, h⟩ := gdE h
            refine r_iald C hw g19 i20 dX12_batch_110 ?_
            refine lv_icmp_lt (tgt := 117) C.1 C.2.1 dX12_batch_111 (by decide) (fun c21 => ?_) (fun c21 => ?_)
            · replace h := brT h c21
              refine lv_iload_n C.1 C.2.1 dX12_batch_117 rfl (lv_at hl 3 rfl) ?_
              refine lv_iconst (v := (2 : Int32)) C.1 C.2.1 dX12_batch_118 (by decide) ?_
              refine lv_irem C.1 C.2.1 dX12_batch_119 (by decide) ?_
              refine r_topi (y := irm x2 (2 : Int32)) rfl ?_
              refine lv_if_ne (tgt := 139) C.1 C.2.1 dX12_batch_120 (by decide) (fun c22 => ?_) (fun c22 => ?_)
              · replace h := brF h c22
                refine lv_aload_n C.1 C.2.1 dX12_batch_139 rfl (lv_at hl 1 rfl) ?_
                refine r_get (v := rv n0 (zG z 726 x0)) C hw g3 (by decide) (Cn := RX12) (T := TX12) (N := 50) rfl in_X12_batch_X12 22 (by decide) (by decide +kernel) (fun _ h => h) rfl dX12_batch_140 ?_
                obtain ⟨b24, e23, h⟩ := boE h
                refine r_topr e23 ?_
                refine lv_aload_n C.1 C.2.1 dX12_batch_143 rfl (lv_at hl 1 rfl) ?_
                refine r_get (v := rv n0 (zG z 723 x0)) C hw g3 (by decide) (Cn := RX12) (T := TX12) (N := 50) rfl in_X12_batch_X12 19 (by decide) (by decide +kernel) (fun _ h => h) rfl dX12_batch_144 ?_
                obtain ⟨b26, e25, h⟩ := boE h
                refine r_topr e25 ?_
                refine lv_iload_n C.1 C.2.1 dX12_batch_147 rfl (lv_at hl 2 rfl) ?_
                obtain ⟨g27, h⟩ := gdE h
                obtain ⟨i28, h⟩ := gdE h
                refine r_iald C hw g27 i28 dX12_batch_148 ?_
                refine lv_iload_n C.1 C.2.1 dX12_batch_149 rfl (lv_at hl 0 rfl) ?_
                refine lv_iadd C.1 C.2.1 dX12_batch_150 ?_
                obtain ⟨v29, e30, h⟩ := bdE h
                refine r_topi e30 ?_
                obtain ⟨g31, h⟩ := gdE h
                obtain ⟨i32, h⟩ := gdE h
                refine r_iald C hw g31 i32 dX12_batch_151 ?_
                cases h
                replace hF : _ = fin := hF
                subst hF
                exact r_iret C hw dX12_batch_152
              · replace h := brT h c22
                refine lv_aload_n C.1 C.2.1 dX12_batch_123 rfl (lv_at hl 1 rfl) ?_
                refine r_get (v := rv n0 (zG z 725 x0)) C hw g3 (by decide) (Cn := RX12) (T := TX12) (N := 50) rfl in_X12_batch_X12 21 (by decide) (by decide +kernel) (fun _ h => h) rfl dX12_batch_124 ?_
                obtain ⟨b34, e33, h⟩ := boE h
                refine r_topr e33 ?_
                refine lv_aload_n C.1 C.2.1 dX12_batch_127 rfl (lv_at hl 1 rfl) ?_
                refine r_get (v := rv n0 (zG z 723 x0)) C hw g3 (by decide) (Cn := RX12) (T := TX12) (N := 50) rfl in_X12_batch_X12 19 (by decide) (by decide +kernel) (fun _ h => h) rfl dX12_batch_128 ?_
                obtain ⟨b36, e35, h⟩ := boE h
                refine r_topr e35 ?_
                refine lv_iload_n C.1 C.2.1 dX12_batch_131 rfl (lv_at hl 2 rfl) ?_
                obtain ⟨g37, h⟩ := gdE h
                obtain ⟨i38, h⟩ := gdE h
                refine r_iald C hw g37 i38 dX12_batch_132 ?_
                refine lv_iload_n C.1 C.2.1 dX12_batch_133 rfl (lv_at hl 0 rfl) ?_
                refine lv_iadd C.1 C.2.1 dX12_batch_134 ?_
                obtain ⟨v39, e40, h⟩ := bdE h
                refine r_topi e40 ?_
                obtain ⟨g41, h⟩ := gdE h
                obtain ⟨i42, h⟩ := gdE h
                refine r_iald C hw g41 i42 dX12_batch_135 ?_
                refine lv_goto (tgt := 152) C.1 C.2.1 dX12_batch_136 (by decide) ?_
                cases h
                replace hF : _ = fin := hF
                subst hF
                exact r_iret C hw dX12_batch_152
            · replace h := brF h c21
              refine lv_bipush (v := (-6 : Int32)) C.1 C.2.1 dX12_batch_114 (by decide) ?_
              cases h
              replace hF : _ = fin := hF
              subst hF
              exact r_iret C hw dX12_batch_116
          · replace h := brF h c14
            refine lv_iload_n C.1 C.2.1 dX12_batch_49 rfl (lv_at hl 2 rfl) ?_
            refine lv_if_ne (tgt := 62) C.1 C.2.1 dX12_batch_50 (by decide) (fun c43 => ?_) (fun c43 => ?_)
            · replace h := brF h c43
              refine lv_iload_n C.1 C.2.1 dX12_batch_62 rfl (lv_at hl 2 rfl) ?_
              refine lv_iconst (v := (1 : Int32)) C.1 C.2.1 dX12_batch_63 (by decide) ?_
              refine lv_icmp_ne (tgt := 76) C.1 C.2.1 dX12_batch_64 (by decide) (fun c44 => ?_) (fun c44 => ?_)
              · replace h := brF h c44
                refine lv_iload_n C.1 C.2.1 dX12_batch_76 rfl (lv_at hl 2 rfl) ?_
                refine lv_iconst (v := (2 : Int32)) C.1 C.2.1 dX12_batch_77 (by decide) ?_
                refine lv_icmp_ne (tgt := 90) C.1 C.2.1 dX12_batch_78 (by decide) (fun c45 => ?_) (fun c45 => ?_)
                · replace h := brF h c45
                  refine lv_aload_n C.1 C.2.1 dX12_batch_90 rfl (lv_at hl 0 rfl) ?_
                  refine r_get (v := rv n0 (zG z 724 x0)) C hw g3 (by decide) (Cn := RX12) (T := TX12) (N := 50) rfl in_X12_batch_X12 20 (by decide) (by decide +kernel) (fun _ h => h) rfl dX12_batch_91 ?_
                  obtain ⟨b47, e46, h⟩ := boE h
                  refine r_topr e46 ?_
                  refine lv_iload_n C.1 C.2.1 dX12_batch_94 rfl (lv_at hl 1 rfl) ?_
                  obtain ⟨g48, h⟩ := gdE h
                  obtain ⟨i49, h⟩ := gdE h
                  refine r_iald C hw g48 i49 dX12_batch_95 ?_
                  cases h
                  replace hF : _ = fin := hF
                  subst hF
                  exact r_iret C hw dX12_batch_96
                · replace h := brT h c45
                  refine lv_aload_n C.1 C.2.1 dX12_batch_81 rfl (lv_at hl 0 rfl) ?_
                  refine r_get (v := rv n0 (zG z 722 x0)) C hw g3 (by decide) (Cn := RX12) (T := TX12) (N := 50) rfl in_X12_batch_X12 18 (by decide) (by decide +kernel) (fun _ h => h) rfl dX12_batch_82 ?_
                  obtain ⟨b51, e50, h⟩ := boE h
                  refine r_topr e50 ?_
                  refine lv_iload_n C.1 C.2.1 dX12_batch_85 rfl (lv_at hl 1 rfl) ?_
                  obtain ⟨g52, h⟩ := gdE h
                  obtain ⟨i53, h⟩ := gdE h
                  refine r_iald C hw g52 i53 dX12_batch_86 ?_
                  refine lv_goto (tgt := 96) C.1 C.2.1 dX12_batch_87 (by decide) ?_
                  cases h
                  replace hF : _ = fin := hF
                  subst hF
                  exact r_iret C hw dX12_batch_96
              · replace h := brT h c44
                refine lv_aload_n C.1 C.2.1 dX12_batch_67 rfl (lv_at hl 0 rfl) ?_
                refine r_get (v := rv n0 (zG z 721 x0)) C hw g3 (by decide) (Cn := RX12) (T := TX12) (N := 50) rfl in_X12_batch_X12 17 (by decide) (by decide +kernel) (fun _ h => h) rfl dX12_batch_68 ?_
                obtain ⟨b55, e54, h⟩ := boE h
                refine r_topr e54 ?_
                refine lv_iload_n C.1 C.2.1 dX12_batch_71 rfl (lv_at hl 1 rfl) ?_
                obtain ⟨g56, h⟩ := gdE h
                obtain ⟨i57, h⟩ := gdE h
                refine r_iald C hw g56 i57 dX12_batch_72 ?_
                refine lv_goto (tgt := 96) C.1 C.2.1 dX12_batch_73 (by decide) ?_
                cases h
                replace hF : _ = fin := hF
                subst hF
                exact r_iret C hw dX12_batch_96
            · replace h := brT h c43
              refine lv_aload_n C.1 C.2.1 dX12_batch_53 rfl (lv_at hl 0 rfl) ?_
              refine r_get (v := rv n0 (zG z 720 x0)) C hw g3 (by decide) (Cn := RX12) (T := TX12) (N := 50) rfl in_X12_batch_X12 16 (by decide) (by decide +kernel) (fun _ h => h) rfl dX12_batch_54 ?_
              obtain ⟨b59, e58, h⟩ := boE h
              refine r_topr e58 ?_
              refine lv_iload_n C.1 C.2.1 dX12_batch_57 rfl (lv_at hl 1 rfl) ?_
              obtain ⟨g60, h⟩ := gdE h
              obtain ⟨i61, h⟩ := gdE h
              refine r_iald C hw g60 i61 dX12_batch_58 ?_
              refine lv_goto (tgt := 96) C.1 C.2.1 dX12_batch_59 (by decide) ?_
              cases h
              replace hF : _ = fin := hF
              subst hF
              exact r_iret C hw dX12_batch_96
        · replace h := brF h c13
          refine lv_bipush (v := (-5 : Int32)) C.1 C.2.1 dX12_batch_41 (by decide) ?_
          cases h
          replace hF : _ = fin := hF
          subst hF
          exact r_iret C hw dX12_batch_43
      · replace h := brF h c8
        exact tX12_batch_28 C h hF hw (lv_sub hl [0] rfl)
  · replace h := brT h c4
    refine lv_iconst (v := (-1 : Int32)) C.1 C.2.1 dX12_batch_8 (by decide) ?_
    cases h
    replace hF : _ = fin := hF
    subst hF
    exact r_iret C hw dX12_batch_9
set_option maxRecDepth 100000 in
theorem kX12_batch (l : Launch) (n0 : Nat) (D : va_G) (Y : Nat → ClassId) (N : Nat) (x0 : Nat) (x1 : Int32) (x2 : Int32) (z : Hp) {r : Int32} (h : fX12_batch N x0 x1 x2 z = some r) : Met l yX12_batch wsX12_batch rmX12_batch (PreC n0 D Y z [.ref (n0 + x0), .int x1, .int x2]) (PosI n0 D Y z r) 0 0 (AA n0) := by
  refine Met.ofW (cc := cX12_batch) (maxL := 4) (ret := (some .int)) (by decide) rfl ?_
  intro p e s m args below meth c s₁ B hml hv
  obtain ⟨rfl, hR, hK⟩ := hv
  have C : Cx n0 D Y RX12 cX12_batch (some .int) 4 wsX12_batch "batch" p s m ([.ref (n0 + x0), .int x1, .int x2] : List Value).toArray meth c := ⟨B.exec, B.bytes, B.returns, hml, findClass_of_methodNamed B.named, atoms_spec (ws := wsX12_batch) B.pre, B.notSynchronized, (name_of_methodNamed B.named B.method).1, hK⟩
  have hl := lv_entry ([.ref (n0 + x0), .int x1, .int x2]) (n := 4) (Nat.le_of_ble_eq_true rfl)
  rw [lg_entry_eq]
  generalize (lg_sl ([.ref (n0 + x0), .int x1, .int x2]) ++ List.replicate (4 - (lg_sl ([.ref (n0 + x0), .int x1, .int x2])).length) Slot.unset).toArray = ls at hl ⊢
  have hl : lv_has ls 4 [(0, .ref (n0 + x0)), (1, .int x1), (2, .int x2)] := hl
  exact tX12_batch_0 C h rfl ⟨hR, va_S.rf⟩ hl
theorem in_X12_found_X12 : ∀ w ∈ wsX120, w ∈ wsX12_found := by decide +kernel
abbrev rmX12_found : Room := { frames := 2, cells := 0, slots := 0, locals := 46 }
noncomputable def fX12_found (N : Nat) (x0 : Nat) (x1 : Int32) (x2 : Int32) (z : Hp) : Option (Int32) := gd (x0 < zn z ∧ zK z x0 = 11) <| bo (fX12_isRecord N x0 x1 z) fun r2 => br (r2 = 0) (some (-1 : Int32)) (bo (fX12_in N (Int32.toInt64 x2) (0 : Int64) (5 : Int64) z) fun r6 => br (r6 = 0) (some (-2 : Int32)) (bo (zG z 707 x0) fun b9 => gd (b9 < zn z ∧ zK z b9 = 12) <| gd (¬ (x1 < 0 ∨ zL z b9 ≤ (x1).toNatClampNeg)) <| br ((zA z b9 (x1).toNatClampNeg) = (3 : Int32)) (bo (zG z 728 x0) fun b14 => bd (((6 : Int32) * x1) + x2) fun v15 => gd (b14 < zn z ∧ zK z b14 = 12) <| gd (¬ (v15 < 0 ∨ zL z b14 ≤ (v15).toNatClampNeg)) <| some (zA z b14 (v15).toNatClampNeg)) (some (-5 : Int32))))
set_option maxHeartbeats 4000000 in
set_option maxRecDepth 100000 in
theorem tX12_found_0 {n0 : Nat} {D : va_G} {Y : Nat → ClassId} {p : Program} {l : Launch} {e : Env} {s : State} {m : MethodId} {args : Array Value} {below : List Frame} {meth : Method} {c : Code} {N : Nat} {fin : Int32} {x0 : Nat} {x1 : Int32} {x2 : Int32}  {z : Hp} (C : Cx n0 D Y RX12 cX12_found (some .int) 3 wsX12_found "found" p s m args meth c) {x : (Int32)} (h : fX12_found N x0 x1 x2  z = some x) (hF : (fun x => x = fin) x) {H : Heap} {locs : List Loc} {ls : Array Slot} (hw : Wd n0 D Y z s H locs) (hl : lv_has ls 3 [(0, .ref (n0 + x0)), (1, .int x1), (2, .int x2)]) : W p l e rmX12_found s m args below meth c H locs 0 0 (MQ below (PosI n0 D Y z fin) args s 0 0 (AA n0)) (F0 m 0 ls []) := by
  unfold fX12_found at h
  refine lv_aload_n C.1 C.2.1 dX12_found_0 rfl (lv_at hl 0 rfl) ?_
  refine lv_iload_n C.1 C.2.1 dX12_found_1 rfl (lv_at hl 1 rfl) ?_
  obtain ⟨g3, h⟩ := gdE h
  obtain ⟨r2, e1, h⟩ := boE h
  refine r_afti hw (r_runV (As := [.int x1]) (rest := []) C hw (ki := 11) g3 (by decide) rfl (kX12_isRecord l n0 D Y N x0 x1 z e1) (cwV 1 C.2.2.2.2.2.1 gX12_found_X12_isRecord rfl rfl rfl (by decide +kernel) ⟨(Nat.le_of_ble_eq_true rfl), (Nat.le_of_ble_eq_true rfl)⟩) rfl hl.1 rfl (Nat.le_of_ble_eq_true rfl) dX12_found_2 ⟨(Nat.le_of_ble_eq_true rfl), (Nat.le_of_ble_eq_true rfl)⟩) (fun H locs hw => ?_)
  refine lv_if_ne (tgt := 10) C.1 C.2.1 dX12_found_5 (by decide) (fun c4 => ?_) (fun c4 => ?_)
  · replace h := brF h c4
    refine lv_iload_n C.1 C.2.1 dX12_found_10 rfl (lv_at hl 2 rfl) ?_
    refine lv_i2l C.1 C.2.1 dX12_found_11 rfl ?_
    refine lv_lconst (v := (0 : Int64)) C.1 C.2.1 dX12_found_12 (by decide) ?_
    refine lv_ldc2 (v := (5 : Int64)) C.1 C.2.1 C.2.2.2.2.1 (C.2.2.2.2.2.1 (.constantLong RX12 195 (5 : Int64)) (by decide +kernel)) dX12_found_13 ?_
    obtain ⟨r6, e5, h⟩ := boE h
    refine r_afti hw (r_runS (As := [.long (Int32.toInt64 x2), .long (0 : Int64), .long (5 : Int64)]) (rest := []) C hw (kX12_in l n0 D Y N (Int32.toInt64 x2) (0 : Int64) (5 : Int64) z e5) (va_cwS 3 C.2.2.2.2.2.1 gX12_found_X12_in rfl rfl rfl (by decide +kernel) ⟨(Nat.le_of_ble_eq_true rfl), (Nat.le_of_ble_eq_true rfl)⟩) rfl hl.1 rfl (Nat.le_of_ble_eq_true rfl) dX12_found_16 ⟨(Nat.le_of_ble_eq_true rfl), (Nat.le_of_ble_eq_true rfl)⟩) (fun H locs hw => ?_)
    refine lv_if_ne (tgt := 25) C.1 C.2.1 dX12_found_19 (by decide) (fun c7 => ?_) (fun c7 => ?_)
    · replace h := brF h c7
      refine lv_aload_n C.1 C.2.1 dX12_found_25 rfl (lv_at hl 0 rfl) ?_
      refine r_get (v := rv n0 (zG z 707 x0)) C hw g3 (by decide) (Cn := RX12) (T := TX12) (N := 50) rfl in_X12_found_X12 3 (by decide) (by decide +kernel) (fun _ h => h) rfl dX12_found_26 ?_
      obtain ⟨b9, e8, h⟩ := boE h
      refine r_topr e8 ?_
      refine lv_iload_n C.1 C.2.1 dX12_found_29 rfl (lv_at hl 1 rfl) ?_
      obtain ⟨g10, h⟩ := gdE h
      obtain ⟨i11, h⟩ := gdE h
      refine r_iald C hw g10 i11 dX12_found_30 ?_
      refine lv_iconst (v := (3 : Int32)) C.1 C.2.1 dX12_found_31 (by decide) ?_
      refine lv_icmp_ne (tgt := 49) C.1 C.2.1 dX12_found_32 (by decide) (fun c12 => ?_) (fun c12 => ?_)
      · replace h := brF h c12
        refine lv_bipush (v := (-5 : Int32)) C.1 C.2.1 dX12_found_49 (by decide) ?_
        cases h
        replace hF : _ = fin := hF
        subst hF
        exact r_iret C hw dX12_found_51
      · replace h := brT h c12
        refine lv_aload_n C.1 C.2.1 dX12_found_35 rfl (lv_at hl 0 rfl) ?_
        refine r_get (v := rv n0 (zG z 728 x0)) C hw g3 (by decide) (Cn := RX12) (T := TX12) (N := 50) rfl in_X12_found_X12 24 (by decide) (by decide +kernel) (fun _ h => h) rfl dX12_found_36 ?_
        obtain ⟨b14, e13, h⟩ := boE h
        refine r_topr e13 ?_
        refine lv_bipush (v := (6 : Int32)) C.1 C.2.1 dX12_found_39 (by decide) ?_
        refine lv_iload_n C.1 C.2.1 dX12_found_41 rfl (lv_at hl 1 rfl) ?_
        refine lv_imul C.1 C.2.1 dX12_found_42 ?_
        refine lv_iload_n C.1 C.2.1 dX12_found_43 rfl (lv_at hl 2 rfl) ?_
        refine lv_iadd C.1 C.2.1 dX12_found_44 ?_
        obtain ⟨v15, e16, h⟩ := bdE h
        refine r_topi e16 ?_
        obtain ⟨g17, h⟩ := gdE h
        obtain ⟨i18, h⟩ := gdE h
        refine r_iald C hw g17 i18 dX12_found_45 ?_
        refine lv_goto (tgt := 51) C.1 C.2.1 dX12_found_46 (by decide) ?_
        cases h
        replace hF : _ = fin := hF
        subst hF
        exact r_iret C hw dX12_found_51
    · replace h := brT h c7
      refine lv_bipush (v := (-2 : Int32)) C.1 C.2.1 dX12_found_22 (by decide) ?_
      cases h
      replace hF : _ = fin := hF
      subst hF
      exact r_iret C hw dX12_found_24
  · replace h := brT h c4
    refine lv_iconst (v := (-1 : Int32)) C.1 C.2.1 dX12_found_8 (by decide) ?_
    cases h
    replace hF : _ = fin := hF
    subst hF
    exact r_iret C hw dX12_found_9
set_option maxRecDepth 100000 in
theorem kX12_found (l : Launch) (n0 : Nat) (D : va_G) (Y : Nat → ClassId) (N : Nat) (x0 : Nat) (x1 : Int32) (x2 : Int32) (z : Hp) {r : Int32} (h : fX12_found N x0 x1 x2 z = some r) : Met l yX12_found wsX12_found rmX12_found (PreC n0 D Y z [.ref (n0 + x0), .int x1, .int x2]) (PosI n0 D Y z r) 0 0 (AA n0) := by
  refine Met.ofW (cc := cX12_found) (maxL := 3) (ret := (some .int)) (by decide) rfl ?_
  intro p e s m args below meth c s₁ B hml hv
  obtain ⟨rfl, hR, hK⟩ := hv
  have C : Cx n0 D Y RX12 cX12_found (some .int) 3 wsX12_found "found" p s m ([.ref (n0 + x0), .int x1, .int x2] : List Value).toArray meth c := ⟨B.exec, B.bytes, B.returns, hml, findClass_of_methodNamed B.named, atoms_spec (ws := wsX12_found) B.pre, B.notSynchronized, (name_of_methodNamed B.named B.method).1, hK⟩
  have hl := lv_entry ([.ref (n0 + x0), .int x1, .int x2]) (n := 3) (Nat.le_of_ble_eq_true rfl)
  rw [lg_entry_eq]
  generalize (lg_sl ([.ref (n0 + x0), .int x1, .int x2]) ++ List.replicate (3 - (lg_sl ([.ref (n0 + x0), .int x1, .int x2])).length) Slot.unset).toArray = ls at hl ⊢
  have hl : lv_has ls 3 [(0, .ref (n0 + x0)), (1, .int x1), (2, .int x2)] := hl
  exact tX12_found_0 C h rfl ⟨hR, va_S.rf⟩ hl
theorem in_X12_manyOf_X12 : ∀ w ∈ wsX120, w ∈ wsX12_manyOf := by decide +kernel
abbrev rmX12_manyOf : Room := { frames := 0, cells := 0, slots := 0, locals := 0 }
noncomputable def fX12_manyOf_42 (N : Nat) (x0 : Nat) (x1 : Int32) (x2 : Int32) (x4 : Int32) (s0 : Int32) (s1 : Int32) (z : Hp) : Option ((Int32 × Int32) ⊕ (Int32)) := bd (s1 + s0) fun v1 => bd (x4 + (1 : Int32)) fun v3 => some (.inl (v1, v3))
set_option maxHeartbeats 4000000 in
set_option maxRecDepth 100000 in
theorem tX12_manyOf_42 {n0 : Nat} {D : va_G} {Y : Nat → ClassId} {p : Program} {l : Launch} {e : Env} {s : State} {m : MethodId} {args : Array Value} {below : List Frame} {meth : Method} {c : Code} {N : Nat} {fin : Int32} {x0 : Nat} {x1 : Int32} {x2 : Int32} {x4 : Int32} {s0 : Int32} {s1 : Int32} {z : Hp} (C : Cx n0 D Y RX12 cX12_manyOf (some .int) 5 wsX12_manyOf "manyOf" p s m args meth c) {P5 : Int32 × Int32 → Prop} (hP5 : ∀ u, P5 u → ∀ (H : Heap) (locs : List Loc) (ls : Array Slot), Wd n0 D Y z s H locs → lv_has ls 5 [(0, .ref (n0 + x0)), (1, .int x1), (2, .int x2), (3, .int u.1), (4, .int u.2)] → W p l e rmX12_manyOf s m args below meth c H locs 0 0 (MQ below (PosI n0 D Y z fin) args s 0 0 (AA n0)) (F0 m 5 ls [])) {x : ((Int32 × Int32) ⊕ (Int32))} (h : fX12_manyOf_42 N x0 x1 x2 x4 s0 s1 z = some x) (hF : (Fn P5 (fun x => x = fin)) x) {H : Heap} {locs : List Loc} {ls : Array Slot} (hw : Wd n0 D Y z s H locs) (hl : lv_has ls 5 [(0, .ref (n0 + x0)), (1, .int x1), (2, .int x2), (4, .int x4)]) : W p l e rmX12_manyOf s m args below meth c H locs 0 0 (MQ below (PosI n0 D Y z fin) args s 0 0 (AA n0)) (F0 m 42 ls [.int s0, .int s1]) := by
  unfold fX12_manyOf_42 at h
  refine lv_iadd C.1 C.2.1 dX12_manyOf_42 ?_
  obtain ⟨v1, e2, h⟩ := bdE h
  refine r_topi e2 ?_
  refine lv_istore_n (i := 3) (lv' := [(3, .int v1), (0, .ref (n0 + x0)), (1, .int x1), (2, .int x2), (4, .int x4)]) C.1 C.2.1 dX12_manyOf_43 rfl hl (by decide) rfl (fun ls hl => ?_)
  obtain ⟨v3, e4, h⟩ := bdE h
  refine lv_iinc (v := v3) (lv' := [(4, .int v3), (3, .int v1), (0, .ref (n0 + x0)), (1, .int x1), (2, .int x2)]) C.1 C.2.1 dX12_manyOf_44 hl (k := 4) rfl (by rw [e4]; rfl) (by decide) rfl (fun ls hl => ?_)
  refine lv_goto (tgt := 5) C.1 C.2.1 dX12_manyOf_47 (by decide) ?_
  cases h
  exact hP5 _ hF _ _ _ hw (lv_sub hl [2, 3, 4, 1, 0] rfl)
noncomputable def fX12_manyOf_41 (N : Nat) (x0 : Nat) (x1 : Int32) (x2 : Int32) (x4 : Int32) (s0 : Int32) (z : Hp) : Option ((Int32 × Int32) ⊕ (Int32)) := fX12_manyOf_42 N x0 x1 x2 x4 (0 : Int32) s0 z
set_option maxHeartbeats 4000000 in
set_option maxRecDepth 100000 in
theorem tX12_manyOf_41 {n0 : Nat} {D : va_G} {Y : Nat → ClassId} {p : Program} {l : Launch} {e : Env} {s : State} {m : MethodId} {args : Array Value} {below : List Frame} {meth : Method} {c : Code} {N : Nat} {fin : Int32} {x0 : Nat} {x1 : Int32} {x2 : Int32} {x4 : Int32} {s0 : Int32} {z : Hp} (C : Cx n0 D Y RX12 cX12_manyOf (some .int) 5 wsX12_manyOf "manyOf" p s m args meth c) {P5 : Int32 × Int32 → Prop} (hP5 : ∀ u, P5 u → ∀ (H : Heap) (locs : List Loc) (ls : Array Slot), Wd n0 D Y z s H locs → lv_has ls 5 [(0, .ref (n0 + x0)), (1, .int x1), (2, .int x2), (3, .int u.1), (4, .int u.2)] → W p l e rmX12_manyOf s m args below meth c H locs 0 0 (MQ below (PosI n0 D Y z fin) args s 0 0 (AA n0)) (F0 m 5 ls [])) {x : ((Int32 × Int32) ⊕ (Int32))} (h : fX12_manyOf_41 N x0 x1 x2 x4 s0 z = some x) (hF : (Fn P5 (fun x => x = fin)) x) {H : Heap} {locs : List Loc} {ls : Array Slot} (hw : Wd n0 D Y z s H locs) (hl : lv_has ls 5 [(0, .ref (n0 + x0)), (1, .int x1), (2, .int x2), (4, .int x4)]) : W p l e rmX12_manyOf s m args below meth c H locs 0 0 (MQ below (PosI n0 D Y z fin) args s 0 0 (AA n0)) (F0 m 41 ls [.int s0]) := by
  unfold fX12_manyOf_41 at h
  refine lv_iconst (v := (0 : Int32)) C.1 C.2.1 dX12_manyOf_41 (by decide) ?_
  exact tX12_manyOf_42 C hP5 h hF hw (lv_sub hl [0, 1, 2, 3] rfl)
noncomputable def fX12_manyOf_5 (N : Nat) (x0 : Nat) (x1 : Int32) (x2 : Int32) (x3 : Int32) (x4 : Int32) (z : Hp) : Option ((Int32 × Int32) ⊕ (Int32)) := gd (x0 < zn z ∧ zK z x0 = 11) <| br ((zF z 711 x0) ≤ x4) (lf <| some x3) (bo (zG z 707 x0) fun b5 => gd (b5 < zn z ∧ zK z b5 = 12) <| gd (¬ (x4 < 0 ∨ zL z b5 ≤ (x4).toNatClampNeg)) <| br ((zA z b5 (x4).toNatClampNeg) = x1) (bo (zG z 710 x0) fun b10 => gd (b10 < zn z ∧ zK z b10 = 12) <| gd (¬ (x4 < 0 ∨ zL z b10 ≤ (x4).toNatClampNeg)) <| br ((zA z b10 (x4).toNatClampNeg) = x2) (fX12_manyOf_42 N x0 x1 x2 x4 (1 : Int32) x3 z) (fX12_manyOf_41 N x0 x1 x2 x4 x3 z)) (fX12_manyOf_41 N x0 x1 x2 x4 x3 z))
set_option maxHeartbeats 4000000 in
set_option maxRecDepth 100000 in
theorem tX12_manyOf_5 {n0 : Nat} {D : va_G} {Y : Nat → ClassId} {p : Program} {l : Launch} {e : Env} {s : State} {m : MethodId} {args : Array Value} {below : List Frame} {meth : Method} {c : Code} {N : Nat} {fin : Int32} {x0 : Nat} {x1 : Int32} {x2 : Int32} {x3 : Int32} {x4 : Int32}  {z : Hp} (C : Cx n0 D Y RX12 cX12_manyOf (some .int) 5 wsX12_manyOf "manyOf" p s m args meth c) {P5 : Int32 × Int32 → Prop} (hP5 : ∀ u, P5 u → ∀ (H : Heap) (locs : List Loc) (ls : Array Slot), Wd n0 D Y z s H locs → lv_has ls 5 [(0, .ref (n0 + x0)), (1, .int x1), (2, .int x2), (3, .int u.1), (4, .int u.2)] → W p l e rmX12_manyOf s m args below meth c H locs 0 0 (MQ below (PosI n0 D Y z fin) args s 0 0 (AA n0)) (F0 m 5 ls [])) {x : ((Int32 × Int32) ⊕ (Int32))} (h : fX12_manyOf_5 N x0 x1 x2 x3 x4  z = some x) (hF : (Fn P5 (fun x => x = fin)) x) {H : Heap} {locs : List Loc} {ls : Array Slot} (hw : Wd n0 D Y z s H locs) (hl : lv_has ls 5 [(0, .ref (n0 + x0)), (1, .int x1), (2, .int x2), (3, .int x3), (4, .int x4)]) : W p l e rmX12_manyOf s m args below meth c H locs 0 0 (MQ below (PosI n0 D Y z fin) args s 0 0 (AA n0)) (F0 m 5 ls []) := by
  unfold fX12_manyOf_5 at h
  refine lv_iload C.1 C.2.1 dX12_manyOf_5 (lv_at hl 4 rfl) ?_
  refine lv_aload_n C.1 C.2.1 dX12_manyOf_7 rfl (lv_at hl 0 rfl) ?_
  obtain ⟨g1, h⟩ := gdE h
  refine r_get (v := .int (zF z 711 x0)) C hw g1 (by decide) (Cn := RX12) (T := TX12) (N := 50) rfl in_X12_manyOf_X12 7 (by decide) (by decide +kernel) (fun _ h => h) rfl dX12_manyOf_8 ?_
  refine lv_icmp_ge (tgt := 50) C.1 C.2.1 dX12_manyOf_11 (by decide) (fun c2 => ?_) (fun c2 => ?_)
  · replace h := brT h c2
    obtain ⟨y3, h, hF⟩ := lfX h hF
    refine lv_iload_n C.1 C.2.1 dX12_manyOf_50 rfl (lv_at hl 3 rfl) ?_
    cases h
    replace hF : _ = fin := hF
    subst hF
    exact r_iret C hw dX12_manyOf_51
  · replace h := brF h c2
    refine lv_iload_n C.1 C.2.1 dX12_manyOf_14 rfl (lv_at hl 3 rfl) ?_
    refine lv_aload_n C.1 C.2.1 dX12_manyOf_15 rfl (lv_at hl 0 rfl) ?_
    refine r_get (v := rv n0 (zG z 707 x0)) C hw g1 (by decide) (Cn := RX12) (T := TX12) (N := 50) rfl in_X12_manyOf_X12 3 (by decide) (by decide +kernel) (fun _ h => h) rfl dX12_manyOf_16 ?_
    obtain ⟨b5, e4, h⟩ := boE h
    refine r_topr e4 ?_
    refine lv_iload C.1 C.2.1 dX12_manyOf_19 (lv_at hl 4 rfl) ?_
    obtain ⟨g6, h⟩ := gdE h
    obtain ⟨i7, h⟩ := gdE h
    refine r_iald C hw g6 i7 dX12_manyOf_21 ?_
    refine lv_iload_n C.1 C.2.1 dX12_manyOf_22 rfl (lv_at hl 1 rfl) ?_
    refine lv_icmp_ne (tgt := 41) C.1 C.2.1 dX12_manyOf_23 (by decide) (fun c8 => ?_) (fun c8 => ?_)
    · replace h := brF h c8
      exact tX12_manyOf_41 C hP5 h hF hw (lv_sub hl [0, 1, 2, 4] rfl)
    · replace h := brT h c8
      refine lv_aload_n C.1 C.2.1 dX12_manyOf_26 rfl (lv_at hl 0 rfl) ?_
      refine r_get (v := rv n0 (zG z 710 x0)) C hw g1 (by decide) (Cn := RX12) (T := TX12) (N := 50) rfl in_X12_manyOf_X12 6 (by decide) (by decide +kernel) (fun _ h => h) rfl dX12_manyOf_27 ?_
      obtain ⟨b10, e9, h⟩ := boE h
      refine r_topr e9 ?_
      refine lv_iload C.1 C.2.1 dX12_manyOf_30 (lv_at hl 4 rfl) ?_
      obtain ⟨g11, h⟩ := gdE h
      obtain ⟨i12, h⟩ := gdE h
      refine r_iald C hw g11 i12 dX12_manyOf_32 ?_
      refine lv_iload_n C.1 C.2.1 dX12_manyOf_33 rfl (lv_at hl 2 rfl) ?_
      refine lv_icmp_ne (tgt := 41) C.1 C.2.1 dX12_manyOf_34 (by decide) (fun c13 => ?_) (fun c13 => ?_)
      · replace h := brF h c13
        exact tX12_manyOf_41 C hP5 h hF hw (lv_sub hl [0, 1, 2, 4] rfl)
      · replace h := brT h c13
        refine lv_iconst (v := (1 : Int32)) C.1 C.2.1 dX12_manyOf_37 (by decide) ?_
        refine lv_goto (tgt := 42) C.1 C.2.1 dX12_manyOf_38 (by decide) ?_
        exact tX12_manyOf_42 C hP5 h hF hw (lv_sub hl [0, 1, 2, 4] rfl)
set_option maxHeartbeats 4000000 in
set_option maxRecDepth 100000 in
theorem lX12_manyOf_5 {n0 : Nat} {D : va_G} {Y : Nat → ClassId} {p : Program} {l : Launch} {e : Env} {s : State} {m : MethodId} {args : Array Value} {below : List Frame} {meth : Method} {c : Code} {N : Nat} {fin : Int32} {x0 : Nat} {x1 : Int32} {x2 : Int32} {z : Hp} (C : Cx n0 D Y RX12 cX12_manyOf (some .int) 5 wsX12_manyOf "manyOf" p s m args meth c) {x : (Int32)} : ∀ (n : Nat) (u : Int32 × Int32), wh (fun (u : Int32 × Int32) => fX12_manyOf_5 N x0 x1 x2 u.1 u.2 z) n u = some x → (fun x => x = fin) x → ∀ (H : Heap) (locs : List Loc) (ls : Array Slot), Wd n0 D Y z s H locs → lv_has ls 5 [(0, .ref (n0 + x0)), (1, .int x1), (2, .int x2), (3, .int u.1), (4, .int u.2)] → W p l e rmX12_manyOf s m args below meth c H locs 0 0 (MQ below (PosI n0 D Y z fin) args s 0 0 (AA n0)) (F0 m 5 ls []) := fun n u h g => wh_ind (P := fun u => ∀ (H : Heap) (locs : List Loc) (ls : Array Slot), Wd n0 D Y z s H locs → lv_has ls 5 [(0, .ref (n0 + x0)), (1, .int x1), (2, .int x2), (3, .int u.1), (4, .int u.2)] → W p l e rmX12_manyOf s m args below meth c H locs 0 0 (MQ below (PosI n0 D Y z fin) args s 0 0 (AA n0)) (F0 m 5 ls [])) (G := (fun x => x = fin)) (fun u x h hF H locs ls hw hl => tX12_manyOf_5 C (P5 := fun u => ∀ (H : Heap) (locs : List Loc) (ls : Array Slot), Wd n0 D Y z s H locs → lv_has ls 5 [(0, .ref (n0 + x0)), (1, .int x1), (2, .int x2), (3, .int u.1), (4, .int u.2)] → W p l e rmX12_manyOf s m args below meth c H locs 0 0 (MQ below (PosI n0 D Y z fin) args s 0 0 (AA n0)) (F0 m 5 ls [])) (fun _ h => h) h hF hw hl) n u x h g
noncomputable def fX12_manyOf (N : Nat) (x0 : Nat) (x1 : Int32) (x2 : Int32) (z : Hp) : Option (Int32) := wh (fun (u : Int32 × Int32) => fX12_manyOf_5 N x0 x1 x2 u.1 u.2 z) N ((0 : Int32), (0 : Int32))
set_option maxHeartbeats 4000000 in
set_option maxRecDepth 100000 in
theorem tX12_manyOf_0 {n0 : Nat} {D : va_G} {Y : Nat → ClassId} {p : Program} {l : Launch} {e : Env} {s : State} {m : MethodId} {args : Array Value} {below : List Frame} {meth : Method} {c : Code} {N : Nat} {fin : Int32} {x0 : Nat} {x1 : Int32} {x2 : Int32}  {z : Hp} (C : Cx n0 D Y RX12 cX12_manyOf (some .int) 5 wsX12_manyOf "manyOf" p s m args meth c) {x : (Int32)} (h : fX12_manyOf N x0 x1 x2  z = some x) (hF : (fun x => x = fin) x) {H : Heap} {locs : List Loc} {ls : Array Slot} (hw : Wd n0 D Y z s H locs) (hl : lv_has ls 5 [(0, .ref (n0 + x0)), (1, .int x1), (2, .int x2)]) : W p l e rmX12_manyOf s m args below meth c H locs 0 0 (MQ below (PosI n0 D Y z fin) args s 0 0 (AA n0)) (F0 m 0 ls []) := by
  unfold fX12_manyOf at h
  refine lv_iconst (v := (0 : Int32)) C.1 C.2.1 dX12_manyOf_0 (by decide) ?_
  refine lv_istore_n (i := 3) (lv' := [(3, .int (0 : Int32)), (0, .ref (n0 + x0)), (1, .int x1), (2, .int x2)]) C.1 C.2.1 dX12_manyOf_1 rfl hl (by decide) rfl (fun ls hl => ?_)
  refine lv_iconst (v := (0 : Int32)) C.1 C.2.1 dX12_manyOf_2 (by decide) ?_
  refine lv_istore (i := 4) (lv' := [(4, .int (0 : Int32)), (3, .int (0 : Int32)), (0, .ref (n0 + x0)), (1, .int x1), (2, .int x2)]) C.1 C.2.1 dX12_manyOf_3 hl (by decide) rfl (fun ls hl => ?_)
  exact lX12_manyOf_5 C _ _ h hF _ _ _ hw (lv_sub hl [2, 3, 4, 1, 0] rfl)
set_option maxRecDepth 100000 in
theorem kX12_manyOf (l : Launch) (n0 : Nat) (D : va_G) (Y : Nat → ClassId) (N : Nat) (x0 : Nat) (x1 : Int32) (x2 : Int32) (z : Hp) {r : Int32} (h : fX12_manyOf N x0 x1 x2 z = some r) : Met l yX12_manyOf wsX12_manyOf rmX12_manyOf (PreC n0 D Y z [.ref (n0 + x0), .int x1, .int x2]) (PosI n0 D Y z r) 0 0 (AA n0) := by
  refine Met.ofW (cc := cX12_manyOf) (maxL := 5) (ret := (some .int)) (by decide) rfl ?_
  intro p e s m args below meth c s₁ B hml hv
  obtain ⟨rfl, hR, hK⟩ := hv
  have C : Cx n0 D Y RX12 cX12_manyOf (some .int) 5 wsX12_manyOf "manyOf" p s m ([.ref (n0 + x0), .int x1, .int x2] : List Value).toArray meth c := ⟨B.exec, B.bytes, B.returns, hml, findClass_of_methodNamed B.named, atoms_spec (ws := wsX12_manyOf) B.pre, B.notSynchronized, (name_of_methodNamed B.named B.method).1, hK⟩
  have hl := lv_entry ([.ref (n0 + x0), .int x1, .int x2]) (n := 5) (Nat.le_of_ble_eq_true rfl)
  rw [lg_entry_eq]
  generalize (lg_sl ([.ref (n0 + x0), .int x1, .int x2]) ++ List.replicate (5 - (lg_sl ([.ref (n0 + x0), .int x1, .int x2])).length) Slot.unset).toArray = ls at hl ⊢
  have hl : lv_has ls 5 [(0, .ref (n0 + x0)), (1, .int x1), (2, .int x2)] := hl
  exact tX12_manyOf_0 C h rfl ⟨hR, va_S.rf⟩ hl
theorem in_X12_about_X12 : ∀ w ∈ wsX120, w ∈ wsX12_about := by decide +kernel
abbrev rmX12_about : Room := { frames := 2, cells := 0, slots := 0, locals := 46 }
noncomputable def fX12_about (N : Nat) (x0 : Nat) (x1 : Int32) (x2 : Int32) (z : Hp) : Option (Int32) := gd (x0 < zn z ∧ zK z x0 = 11) <| bo (fX12_isBaker N x0 x1 z) fun r2 => br (r2 = 0) (some (-1 : Int32)) (br (x2 = (0 : Int32)) (bo (fX12_flourOf N x0 x1 z) fun r7 => some r7) <| br (x2 = (1 : Int32)) (bo (fX12_manyOf N x0 (1 : Int32) x1 z) fun r10 => some r10) <| br (x2 = (2 : Int32)) (bo (fX12_manyOf N x0 (2 : Int32) x1 z) fun r13 => some r13) <| br (x2 = (3 : Int32)) (bo (fX12_manyOf N x0 (3 : Int32) x1 z) fun r16 => some r16) <| br (x2 = (4 : Int32)) (bo (zG z 729 x0) fun b19 => gd (b19 < zn z ∧ zK z b19 = 12) <| gd (¬ (x1 < 0 ∨ zL z b19 ≤ (x1).toNatClampNeg)) <| some (zA z b19 (x1).toNatClampNeg)) <| br (x2 = (5 : Int32)) (bo (zG z 730 x0) fun b24 => gd (b24 < zn z ∧ zK z b24 = 12) <| gd (¬ (x1 < 0 ∨ zL z b24 ≤ (x1).toNatClampNeg)) <| some (zA z b24 (x1).toNatClampNeg)) <| br (x2 = (6 : Int32)) (bo (zG z 731 x0) fun b29 => gd (b29 < zn z ∧ zK z b29 = 12) <| gd (¬ (x1 < 0 ∨ zL z b29 ≤ (x1).toNatClampNeg)) <| some (zA z b29 (x1).toNatClampNeg)) <| br (x2 = (7 : Int32)) (bo (zG z 732 x0) fun b34 => gd (b34 < zn z ∧ zK z b34 = 12) <| gd (¬ (x1 < 0 ∨ zL z b34 ≤ (x1).toNatClampNeg)) <| some (zA z b34 (x1).toNatClampNeg)) <| some (-2 : Int32))
set_option maxHeartbeats 4000000 in
set_option maxRecDepth 100000 in
theorem tX12_about_0 {n0 : Nat} {D : va_G} {Y : Nat → ClassId} {p : Program} {l : Launch} {e : Env} {s : State} {m : MethodId} {args : Array Value} {below : List Frame} {meth : Method} {c : Code} {N : Nat} {fin : Int32} {x0 : Nat} {x1 : Int32} {x2 : Int32}  {z : Hp} (C : Cx n0 D Y RX12 cX12_about (some .int) 3 wsX12_about "about" p s m args meth c) {x : (Int32)} (h : fX12_about N x0 x1 x2  z = some x) (hF : (fun x => x = fin) x) {H : Heap} {locs : List Loc} {ls : Array Slot} (hw : Wd n0 D Y z s H locs) (hl : lv_has ls 3 [(0, .ref (n0 + x0)), (1, .int x1), (2, .int x2)]) : W p l e rmX12_about s m args below meth c H locs 0 0 (MQ below (PosI n0 D Y z fin) args s 0 0 (AA n0)) (F0 m 0 ls []) := by
  unfold fX12_about at h
  refine lv_aload_n C.1 C.2.1 dX12_about_0 rfl (lv_at hl 0 rfl) ?_
  refine lv_iload_n C.1 C.2.1 dX12_about_1 rfl (lv_at hl 1 rfl) ?_
  obtain ⟨g3, h⟩ := gdE h
  obtain ⟨r2, e1, h⟩ := boE h
  refine r_afti hw (r_runV (As := [.int x1]) (rest := []) C hw (ki := 11) g3 (by decide) rfl (kX12_isBaker l n0 D Y N x0 x1 z e1) (cwV 1 C.2.2.2.2.2.1 gX12_about_X12_isBaker rfl rfl rfl (by decide +kernel) ⟨(Nat.le_of_ble_eq_true rfl), (Nat.le_of_ble_eq_true rfl)⟩) rfl hl.1 rfl (Nat.le_of_ble_eq_true rfl) dX12_about_2 ⟨(Nat.le_of_ble_eq_true rfl), (Nat.le_of_ble_eq_true rfl)⟩) (fun H locs hw => ?_)
  refine lv_if_ne (tgt := 10) C.1 C.2.1 dX12_about_5 (by decide) (fun c4 => ?_) (fun c4 => ?_)
  · replace h := brF h c4
    refine lv_iload_n C.1 C.2.1 dX12_about_10 rfl (lv_at hl 2 rfl) ?_
    by_cases c5 : x2 = (0 : Int32)
    · replace h := brT h c5
      refine lv_tableIn (off := 45) (tgt := 56) C.1 C.2.1 dX12_about_11 (by rw [c5]; decide) (by rw [c5]; decide) (by rw [c5]; decide) (by decide) ?_
      refine lv_aload_n C.1 C.2.1 dX12_about_56 rfl (lv_at hl 0 rfl) ?_
      refine lv_iload_n C.1 C.2.1 dX12_about_57 rfl (lv_at hl 1 rfl) ?_
      obtain ⟨r7, e6, h⟩ := boE h
      refine r_afti hw (r_runV (As := [.int x1]) (rest := []) C hw (ki := 11) g3 (by decide) rfl (kX12_flourOf l n0 D Y N x0 x1 z e6) (cwV 1 C.2.2.2.2.2.1 gX12_about_X12_flourOf rfl rfl rfl (by decide +kernel) ⟨(Nat.le_of_ble_eq_true rfl), (Nat.le_of_ble_eq_true rfl)⟩) rfl hl.1 rfl (Nat.le_of_ble_eq_true rfl) dX12_about_58 ⟨(Nat.le_of_ble_eq_true rfl), (Nat.le_of_ble_eq_true rfl)⟩) (fun H locs hw => ?_)
      cases h
      replace hF : _ = fin := hF
      subst hF
      exact r_iret C hw dX12_about_61
    replace h := brF h c5
    by_cases c8 : x2 = (1 : Int32)
    · replace h := brT h c8
      refine lv_tableIn (off := 51) (tgt := 62) C.1 C.2.1 dX12_about_11 (by rw [c8]; decide) (by rw [c8]; decide) (by rw [c8]; decide) (by decide) ?_
      refine lv_aload_n C.1 C.2.1 dX12_about_62 rfl (lv_at hl 0 rfl) ?_
      refine lv_iconst (v := (1 : Int32)) C.1 C.2.1 dX12_about_63 (by decide) ?_
      refine lv_iload_n C.1 C.2.1 dX12_about_64 rfl (lv_at hl 1 rfl) ?_
      obtain ⟨r10, e9, h⟩ := boE h
      refine r_afti hw (r_runV (As := [.int (1 : Int32), .int x1]) (rest := []) C hw (ki := 11) g3 (by decide) rfl (kX12_manyOf l n0 D Y N x0 (1 : Int32) x1 z e9) (cwV 2 C.2.2.2.2.2.1 gX12_about_X12_manyOf rfl rfl rfl (by decide +kernel) ⟨(Nat.le_of_ble_eq_true rfl), (Nat.le_of_ble_eq_true rfl)⟩) rfl hl.1 rfl (Nat.le_of_ble_eq_true rfl) dX12_about_65 ⟨(Nat.le_of_ble_eq_true rfl), (Nat.le_of_ble_eq_true rfl)⟩) (fun H locs hw => ?_)
      cases h
      replace hF : _ = fin := hF
      subst hF
      exact r_iret C hw dX12_about_68
    replace h := brF h c8
    by_cases c11 : x2 = (2 : Int32)
    · replace h := brT h c11
      refine lv_tableIn (off := 58) (tgt := 69) C.1 C.2.1 dX12_about_11 (by rw [c11]; decide) (by rw [c11]; decide) (by rw [c11]; decide) (by decide) ?_
      refine lv_aload_n C.1 C.2.1 dX12_about_69 rfl (lv_at hl 0 rfl) ?_
      refine lv_iconst (v := (2 : Int32)) C.1 C.2.1 dX12_about_70 (by decide) ?_
      refine lv_iload_n C.1 C.2.1 dX12_about_71 rfl (lv_at hl 1 rfl) ?_
      obtain ⟨r13, e12, h⟩ := boE h
      refine r_afti hw (r_runV (As := [.int (2 : Int32), .int x1]) (rest := []) C hw (ki := 11) g3 (by decide) rfl (kX12_manyOf l n0 D Y N x0 (2 : Int32) x1 z e12) (cwV 2 C.2.2.2.2.2.1 gX12_about_X12_manyOf rfl rfl rfl (by decide +kernel) ⟨(Nat.le_of_ble_eq_true rfl), (Nat.le_of_ble_eq_true rfl)⟩) rfl hl.1 rfl (Nat.le_of_ble_eq_true rfl) dX12_about_72 ⟨(Nat.le_of_ble_eq_true rfl), (Nat.le_of_ble_eq_true rfl)⟩) (fun H locs hw => ?_)
      cases h
      replace hF : _ = fin := hF
      subst hF
      exact r_iret C hw dX12_about_75
    replace h := brF h c11
    by_cases c14 : x2 = (3 : Int32)
    · replace h := brT h c14
      refine lv_tableIn (off := 65) (tgt := 76) C.1 C.2.1 dX12_about_11 (by rw [c14]; decide) (by rw [c14]; decide) (by rw [c14]; decide) (by decide) ?_
      refine lv_aload_n C.1 C.2.1 dX12_about_76 rfl (lv_at hl 0 rfl) ?_
      refine lv_iconst (v := (3 : Int32)) C.1 C.2.1 dX12_about_77 (by decide) ?_
      refine lv_iload_n C.1 C.2.1 dX12_about_78 rfl (lv_at hl 1 rfl) ?_
      obtain ⟨r16, e15, h⟩ := boE h
      refine r_afti hw (r_runV (As := [.int (3 : Int32), .int x1]) (rest := []) C hw (ki := 11) g3 (by decide) rfl (kX12_manyOf l n0 D Y N x0 (3 : Int32) x1 z e15) (cwV 2 C.2.2.2.2.2.1 gX12_about_X12_manyOf rfl rfl rfl (by decide +kernel) ⟨(Nat.le_of_ble_eq_true rfl), (Nat.le_of_ble_eq_true rfl)⟩) rfl hl.1 rfl (Nat.le_of_ble_eq_true rfl) dX12_about_79 ⟨(Nat.le_of_ble_eq_true rfl), (Nat.le_of_ble_eq_true rfl)⟩) (fun H locs hw => ?_)
      cases h
      replace hF : _ = fin := hF
      subst hF
      exact r_iret C hw dX12_about_82
    replace h := brF h c14
    by_cases c17 : x2 = (4 : Int32)
    · replace h := brT h c17
      refine lv_tableIn (off := 72) (tgt := 83) C.1 C.2.1 dX12_about_11 (by rw [c17]; decide) (by rw [c17]; decide) (by rw [c17]; decide) (by decide) ?_
      refine lv_aload_n C.1 C.2.1 dX12_about_83 rfl (lv_at hl 0 rfl) ?_
      refine r_get (v := rv n0 (zG z 729 x0)) C hw g3 (by decide) (Cn := RX12) (T := TX12) (N := 50) rfl in_X12_about_X12 25 (by decide) (by decide +kernel) (fun _ h => h) rfl dX12_about_84 ?_
      obtain ⟨b19, e18, h⟩ := boE h
      refine r_topr e18 ?_
      refine lv_iload_n C.1 C.2.1 dX12_about_87 rfl (lv_at hl 1 rfl) ?_
      obtain ⟨g20, h⟩ := gdE h
      obtain ⟨i21, h⟩ := gdE h
      refine r_iald C hw g20 i21 dX12_about_88 ?_
      cases h
      replace hF : _ = fin := hF
      subst hF
      exact r_iret C hw dX12_about_89
    replace h := brF h c17
    by_cases c22 : x2 = (5 : Int32)
    · replace h := brT h c22
      refine lv_tableIn (off := 79) (tgt := 90) C.1 C.2.1 dX12_about_11 (by rw [c22]; decide) (by rw [c22]; decide) (by rw [c22]; decide) (by decide) ?_
      refine lv_aload_n C.1 C.2.1 dX12_about_90 rfl (lv_at hl 0 rfl) ?_
      refine r_get (v := rv n0 (zG z 730 x0)) C hw g3 (by decide) (Cn := RX12) (T := TX12) (N := 50) rfl in_X12_about_X12 26 (by decide) (by decide +kernel) (fun _ h => h) rfl dX12_about_91 ?_
      obtain ⟨b24, e23, h⟩ := boE h
      refine r_topr e23 ?_
      refine lv_iload_n C.1 C.2.1 dX12_about_94 rfl (lv_at hl 1 rfl) ?_
      obtain ⟨g25, h⟩ := gdE h
      obtain ⟨i26, h⟩ := gdE h
      refine r_iald C hw g25 i26 dX12_about_95 ?_
      cases h
      replace hF : _ = fin := hF
      subst hF
      exact r_iret C hw dX12_about_96
    replace h := brF h c22
    by_cases c27 : x2 = (6 : Int32)
    · replace h := brT h c27
      refine lv_tableIn (off := 86) (tgt := 97) C.1 C.2.1 dX12_about_11 (by rw [c27]; decide) (by rw [c27]; decide) (by rw [c27]; decide) (by decide) ?_
      refine lv_aload_n C.1 C.2.1 dX12_about_97 rfl (lv_at hl 0 rfl) ?_
      refine r_get (v := rv n0 (zG z 731 x0)) C hw g3 (by decide) (Cn := RX12) (T := TX12) (N := 50) rfl in_X12_about_X12 27 (by decide) (by decide +kernel) (fun _ h => h) rfl dX12_about_98 ?_
      obtain ⟨b29, e28, h⟩ := boE h
      refine r_topr e28 ?_
      refine lv_iload_n C.1 C.2.1 dX12_about_101 rfl (lv_at hl 1 rfl) ?_
      obtain ⟨g30, h⟩ := gdE h
      obtain ⟨i31, h⟩ := gdE h
      refine r_iald C hw g30 i31 dX12_about_102 ?_
      cases h
      replace hF : _ = fin := hF
      subst hF
      exact r_iret C hw dX12_about_103
    replace h := brF h c27
    by_cases c32 : x2 = (7 : Int32)
    · replace h := brT h c32
      refine lv_tableIn (off := 93) (tgt := 104) C.1 C.2.1 dX12_about_11 (by rw [c32]; decide) (by rw [c32]; decide) (by rw [c32]; decide) (by decide) ?_
      refine lv_aload_n C.1 C.2.1 dX12_about_104 rfl (lv_at hl 0 rfl) ?_
      refine r_get (v := rv n0 (zG z 732 x0)) C hw g3 (by decide) (Cn := RX12) (T := TX12) (N := 50) rfl in_X12_about_X12 28 (by decide) (by decide +kernel) (fun _ h => h) rfl dX12_about_105 ?_
      obtain ⟨b34, e33, h⟩ := boE h
      refine r_topr e33 ?_
      refine lv_iload_n C.1 C.2.1 dX12_about_108 rfl (lv_at hl 1 rfl) ?_
      obtain ⟨g35, h⟩ := gdE h
      obtain ⟨i36, h⟩ := gdE h
      refine r_iald C hw g35 i36 dX12_about_109 ?_
      cases h
      replace hF : _ = fin := hF
      subst hF
      exact r_iret C hw dX12_about_110
    replace h := brF h c32
    refine lv_tableOut (tgt := 111) C.1 C.2.1 dX12_about_11 (by have := ne_ti c5; have : (0 : Int32).toInt = 0 := (by decide); have := ne_ti c8; have : (1 : Int32).toInt = 1 := (by decide); have := ne_ti c11; have : (2 : Int32).toInt = 2 := (by decide); have := ne_ti c14; have : (3 : Int32).toInt = 3 := (by decide); have := ne_ti c17; have : (4 : Int32).toInt = 4 := (by decide); have := ne_ti c22; have : (5 : Int32).toInt = 5 := (by decide); have := ne_ti c27; have : (6 : Int32).toInt = 6 := (by decide); have := ne_ti c32; have : (7 : Int32).toInt = 7 := (by decide); omega) (by decide) ?_
    refine lv_bipush (v := (-2 : Int32)) C.1 C.2.1 dX12_about_111 (by decide) ?_
    cases h
    replace hF : _ = fin := hF
    subst hF
    exact r_iret C hw dX12_about_113
  · replace h := brT h c4
    refine lv_iconst (v := (-1 : Int32)) C.1 C.2.1 dX12_about_8 (by decide) ?_
    cases h
    replace hF : _ = fin := hF
    subst hF
    exact r_iret C hw dX12_about_9
set_option maxRecDepth 100000 in
theorem kX12_about (l : Launch) (n0 : Nat) (D : va_G) (Y : Nat → ClassId) (N : Nat) (x0 : Nat) (x1 : Int32) (x2 : Int32) (z : Hp) {r : Int32} (h : fX12_about N x0 x1 x2 z = some r) : Met l yX12_about wsX12_about rmX12_about (PreC n0 D Y z [.ref (n0 + x0), .int x1, .int x2]) (PosI n0 D Y z r) 0 0 (AA n0) := by
  refine Met.ofW (cc := cX12_about) (maxL := 3) (ret := (some .int)) (by decide) rfl ?_
  intro p e s m args below meth c s₁ B hml hv
  obtain ⟨rfl, hR, hK⟩ := hv
  have C : Cx n0 D Y RX12 cX12_about (some .int) 3 wsX12_about "about" p s m ([.ref (n0 + x0), .int x1, .int x2] : List Value).toArray meth c := ⟨B.exec, B.bytes, B.returns, hml, findClass_of_methodNamed B.named, atoms_spec (ws := wsX12_about) B.pre, B.notSynchronized, (name_of_methodNamed B.named B.method).1, hK⟩
  have hl := lv_entry ([.ref (n0 + x0), .int x1, .int x2]) (n := 3) (Nat.le_of_ble_eq_true rfl)
  rw [lg_entry_eq]
  generalize (lg_sl ([.ref (n0 + x0), .int x1, .int x2]) ++ List.replicate (3 - (lg_sl ([.ref (n0 + x0), .int x1, .int x2])).length) Slot.unset).toArray = ls at hl ⊢
  have hl : lv_has ls 3 [(0, .ref (n0 + x0)), (1, .int x1), (2, .int x2)] := hl
  exact tX12_about_0 C h rfl ⟨hR, va_S.rf⟩ hl
theorem in_X12_store_X12 : ∀ w ∈ wsX120, w ∈ wsX12_store := by decide +kernel
abbrev rmX12_store : Room := { frames := 1, cells := 0, slots := 0, locals := 25 }
noncomputable def fX12_store (N : Nat) (x0 : Nat) (x1 : Int32) (z : Hp) : Option (Int32 × Hp) := bo (fX12_in N (Int32.toInt64 x1) (1 : Int64) (10000000 : Int64) z) fun r2 => br (r2 = 0) (some ((-2 : Int32), z)) (gd (x0 < zn z ∧ zK z x0 = 11) <| br (((zF z 746 x0) + x1) ≤ (100000000 : Int32)) (bd (zsF z 746 x0 ((zF z 746 x0) + x1)) fun z6 => some ((zF z6 746 x0), z6)) (some ((-4 : Int32), z)))
set_option maxHeartbeats 4000000 in
set_option maxRecDepth 100000 in
theorem tX12_store_0 {n0 : Nat} {D : va_G} {Y : Nat → ClassId} {p : Program} {l : Launch} {e : Env} {s : State} {m : MethodId} {args : Array Value} {below : List Frame} {meth : Method} {c : Code} {N : Nat} {fin : Int32 × Hp} {x0 : Nat} {x1 : Int32}  {z : Hp} (C : Cx n0 D Y RX12 cX12_store (some .int) 2 wsX12_store "store" p s m args meth c) {x : (Int32 × Hp)} (h : fX12_store N x0 x1  z = some x) (hF : (fun x => x = fin) x) {H : Heap} {locs : List Loc} {ls : Array Slot} (hw : Wd n0 D Y z s H locs) (hl : lv_has ls 2 [(0, .ref (n0 + x0)), (1, .int x1)]) : W p l e rmX12_store s m args below meth c H locs 0 0 (MQ below (PosI n0 D Y fin.2 fin.1) args s 0 0 (AA n0)) (F0 m 0 ls []) := by
  unfold fX12_store at h
  refine lv_iload_n C.1 C.2.1 dX12_store_0 rfl (lv_at hl 1 rfl) ?_
  refine lv_i2l C.1 C.2.1 dX12_store_1 rfl ?_
  refine lv_lconst (v := (1 : Int64)) C.1 C.2.1 dX12_store_2 (by decide) ?_
  refine lv_ldc2 (v := (10000000 : Int64)) C.1 C.2.1 C.2.2.2.2.1 (C.2.2.2.2.2.1 (.constantLong RX12 241 (10000000 : Int64)) (by decide +kernel)) dX12_store_3 ?_
  obtain ⟨r2, e1, h⟩ := boE h
  refine r_afti hw (r_runS (As := [.long (Int32.toInt64 x1), .long (1 : Int64), .long (10000000 : Int64)]) (rest := []) C hw (kX12_in l n0 D Y N (Int32.toInt64 x1) (1 : Int64) (10000000 : Int64) z e1) (va_cwS 3 C.2.2.2.2.2.1 gX12_store_X12_in rfl rfl rfl (by decide +kernel) ⟨(Nat.le_of_ble_eq_true rfl), (Nat.le_of_ble_eq_true rfl)⟩) rfl hl.1 rfl (Nat.le_of_ble_eq_true rfl) dX12_store_6 ⟨(Nat.le_of_ble_eq_true rfl), (Nat.le_of_ble_eq_true rfl)⟩) (fun H locs hw => ?_)
  refine lv_if_ne (tgt := 15) C.1 C.2.1 dX12_store_9 (by decide) (fun c3 => ?_) (fun c3 => ?_)
  · replace h := brF h c3
    refine lv_aload_n C.1 C.2.1 dX12_store_15 rfl (lv_at hl 0 rfl) ?_
    obtain ⟨g4, h⟩ := gdE h
    refine r_get (v := .int (zF z 746 x0)) C hw g4 (by decide) (Cn := RX12) (T := TX12) (N := 50) rfl in_X12_store_X12 42 (by decide) (by decide +kernel) (fun _ h => h) rfl dX12_store_16 ?_
    refine lv_iload_n C.1 C.2.1 dX12_store_19 rfl (lv_at hl 1 rfl) ?_
    refine lv_iadd C.1 C.2.1 dX12_store_20 ?_
    refine lv_ldc (v := (100000000 : Int32)) C.1 C.2.1 C.2.2.2.2.1 (C.2.2.2.2.2.1 (.constant RX12 149 (100000000 : Int32)) (by decide +kernel)) dX12_store_21 ?_
    refine lv_icmp_le (tgt := 29) C.1 C.2.1 dX12_store_23 (by decide) (fun c5 => ?_) (fun c5 => ?_)
    · replace h := brT h c5
      refine lv_aload_n C.1 C.2.1 dX12_store_29 rfl (lv_at hl 0 rfl) ?_
      refine lv_dup C.1 C.2.1 dX12_store_30 rfl ?_
      refine r_get (v := .int (zF z 746 x0)) C hw g4 (by decide) (Cn := RX12) (T := TX12) (N := 50) rfl in_X12_store_X12 42 (by decide) (by decide +kernel) (fun _ h => h) rfl dX12_store_31 ?_
      refine lv_iload_n C.1 C.2.1 dX12_store_34 rfl (lv_at hl 1 rfl) ?_
      refine lv_iadd C.1 C.2.1 dX12_store_35 ?_
      obtain ⟨z6, e7, h⟩ := bdE h
      refine r_putI C hw g4 (by decide) (Cn := RX12) (T := TX12) (N := 50) rfl in_X12_store_X12 tyX12 tyX12_ok nmX12 42 (by decide) (by decide +kernel) (fun _ h => h) (Or.inl rfl) (ty := .int) (by decide +kernel) rfl rfl (Nat.le_of_ble_eq_true rfl) (st_11_42 n0 z x0 ((zF z 746 x0) + x1)) e7 dX12_store_36 (fun H locs hw => ?_)
      refine lv_aload_n C.1 C.2.1 dX12_store_39 rfl (lv_at hl 0 rfl) ?_
      have g8 : x0 < zn z6 ∧ zK z6 x0 = 11 := by rw [e7]; exact g4
      refine r_get (v := .int (zF z6 746 x0)) C hw g8 (by decide) (Cn := RX12) (T := TX12) (N := 50) rfl in_X12_store_X12 42 (by decide) (by decide +kernel) (fun _ h => h) rfl dX12_store_40 ?_
      cases h
      replace hF : _ = fin := hF
      subst hF
      exact r_iret C hw dX12_store_43
    · replace h := brF h c5
      refine lv_bipush (v := (-4 : Int32)) C.1 C.2.1 dX12_store_26 (by decide) ?_
      cases h
      replace hF : _ = fin := hF
      subst hF
      exact r_iret C hw dX12_store_28
  · replace h := brT h c3
    refine lv_bipush (v := (-2 : Int32)) C.1 C.2.1 dX12_store_12 (by decide) ?_
    cases h
    replace hF : _ = fin := hF
    subst hF
    exact r_iret C hw dX12_store_14
set_option maxRecDepth 100000 in
theorem kX12_store (l : Launch) (n0 : Nat) (D : va_G) (Y : Nat → ClassId) (N : Nat) (x0 : Nat) (x1 : Int32) (z : Hp) {r : Int32} {z1 : Hp} (h : fX12_store N x0 x1 z = some (r, z1)) : Met l yX12_store wsX12_store rmX12_store (PreC n0 D Y z [.ref (n0 + x0), .int x1]) (PosI n0 D Y z1 r) 0 0 (AA n0) := by
  refine Met.ofW (cc := cX12_store) (maxL := 2) (ret := (some .int)) (by decide) rfl ?_
  intro p e s m args below meth c s₁ B hml hv
  obtain ⟨rfl, hR, hK⟩ := hv
  have C : Cx n0 D Y RX12 cX12_store (some .int) 2 wsX12_store "store" p s m ([.ref (n0 + x0), .int x1] : List Value).toArray meth c := ⟨B.exec, B.bytes, B.returns, hml, findClass_of_methodNamed B.named, atoms_spec (ws := wsX12_store) B.pre, B.notSynchronized, (name_of_methodNamed B.named B.method).1, hK⟩
  have hl := lv_entry ([.ref (n0 + x0), .int x1]) (n := 2) (Nat.le_of_ble_eq_true rfl)
  rw [lg_entry_eq]
  generalize (lg_sl ([.ref (n0 + x0), .int x1]) ++ List.replicate (2 - (lg_sl ([.ref (n0 + x0), .int x1])).length) Slot.unset).toArray = ls at hl ⊢
  have hl : lv_has ls 2 [(0, .ref (n0 + x0)), (1, .int x1)] := hl
  exact tX12_store_0 C h rfl ⟨hR, va_S.rf⟩ hl
theorem in_X12_mouths_X12 : ∀ w ∈ wsX120, w ∈ wsX12_mouths := by decide +kernel
abbrev rmX12_mouths : Room := { frames := 1, cells := 0, slots := 0, locals := 25 }
noncomputable def fX12_mouths_24 (N : Nat) (x0 : Nat) (z : Hp) : Option (Int32 × Hp) := some ((-2 : Int32), z)
set_option maxHeartbeats 4000000 in
set_option maxRecDepth 100000 in
theorem tX12_mouths_24 {n0 : Nat} {D : va_G} {Y : Nat → ClassId} {p : Program} {l : Launch} {e : Env} {s : State} {m : MethodId} {args : Array Value} {below : List Frame} {meth : Method} {c : Code} {N : Nat} {fin : Int32 × Hp} {x0 : Nat}  {z : Hp} (C : Cx n0 D Y RX12 cX12_mouths (some .int) 3 wsX12_mouths "mouths" p s m args meth c) {x : (Int32 × Hp)} (h : fX12_mouths_24 N x0  z = some x) (hF : (fun x => x = fin) x) {H : Heap} {locs : List Loc} {ls : Array Slot} (hw : Wd n0 D Y z s H locs) (hl : lv_has ls 3 [(0, .ref (n0 + x0))]) : W p l e rmX12_mouths s m args below meth c H locs 0 0 (MQ below (PosI n0 D Y fin.2 fin.1) args s 0 0 (AA n0)) (F0 m 24 ls []) := by
  unfold fX12_mouths_24 at h
  refine lv_bipush (v := (-2 : Int32)) C.1 C.2.1 dX12_mouths_24 (by decide) ?_
  cases h
  replace hF : _ = fin := hF
  subst hF
  exact r_iret C hw dX12_mouths_26
noncomputable def fX12_mouths (N : Nat) (x0 : Nat) (x1 : Int32) (x2 : Int32) (z : Hp) : Option (Int32 × Hp) := bo (fX12_in N (Int32.toInt64 x1) (0 : Int64) (10000 : Int64) z) fun r2 => br (r2 = 0) (fX12_mouths_24 N x0 z) (bo (fX12_in N (Int32.toInt64 x2) (1 : Int64) (1000 : Int64) z) fun r5 => br (r5 = 0) (fX12_mouths_24 N x0 z) (gd (x0 < zn z ∧ zK z x0 = 11) <| bd (zsF z 747 x0 x1) fun z7 => bd (zsF z7 748 x0 x2) fun z10 => some ((1 : Int32), z10)))
set_option maxHeartbeats 4000000 in
set_option maxRecDepth 100000 in
theorem tX12_mouths_0 {n0 : Nat} {D : va_G} {Y : Nat → ClassId} {p : Program} {l : Launch} {e : Env} {s : State} {m : MethodId} {args : Array Value} {below : List Frame} {meth : Method} {c : Code} {N : Nat} {fin : Int32 × Hp} {x0 : Nat} {x1 : Int32} {x2 : Int32}  {z : Hp} (C : Cx n0 D Y RX12 cX12_mouths (some .int) 3 wsX12_mouths "mouths" p s m args meth c) {x : (Int32 × Hp)} (h : fX12_mouths N x0 x1 x2  z = some x) (hF : (fun x => x = fin) x) {H : Heap} {locs : List Loc} {ls : Array Slot} (hw : Wd n0 D Y z s H locs) (hl : lv_has ls 3 [(0, .ref (n0 + x0)), (1, .int x1), (2, .int x2)]) : W p l e rmX12_mouths s m args below meth c H locs 0 0 (MQ below (PosI n0 D Y fin.2 fin.1) args s 0 0 (AA n0)) (F0 m 0 ls []) := by
  unfold fX12_mouths at h
  refine lv_iload_n C.1 C.2.1 dX12_mouths_0 rfl (lv_at hl 1 rfl) ?_
  refine lv_i2l C.1 C.2.1 dX12_mouths_1 rfl ?_
  refine lv_lconst (v := (0 : Int64)) C.1 C.2.1 dX12_mouths_2 (by decide) ?_
  refine lv_ldc2 (v := (10000 : Int64)) C.1 C.2.1 C.2.2.2.2.1 (C.2.2.2.2.2.1 (.constantLong RX12 243 (10000 : Int64)) (by decide +kernel)) dX12_mouths_3 ?_
  obtain ⟨r2, e1, h⟩ := boE h
  refine r_afti hw (r_runS (As := [.long (Int32.toInt64 x1), .long (0 : Int64), .long (10000 : Int64)]) (rest := []) C hw (kX12_in l n0 D Y N (Int32.toInt64 x1) (0 : Int64) (10000 : Int64) z e1) (va_cwS 3 C.2.2.2.2.2.1 gX12_mouths_X12_in rfl rfl rfl (by decide +kernel) ⟨(Nat.le_of_ble_eq_true rfl), (Nat.le_of_ble_eq_true rfl)⟩) rfl hl.1 rfl (Nat.le_of_ble_eq_true rfl) dX12_mouths_6 ⟨(Nat.le_of_ble_eq_true rfl), (Nat.le_of_ble_eq_true rfl)⟩) (fun H locs hw => ?_)
  refine lv_if_eq (tgt := 24) C.1 C.2.1 dX12_mouths_9 (by decide) (fun c3 => ?_) (fun c3 => ?_)
  · replace h := brT h c3
    exact tX12_mouths_24 C h hF hw (lv_sub hl [0] rfl)
  · replace h := brF h c3
    refine lv_iload_n C.1 C.2.1 dX12_mouths_12 rfl (lv_at hl 2 rfl) ?_
    refine lv_i2l C.1 C.2.1 dX12_mouths_13 rfl ?_
    refine lv_lconst (v := (1 : Int64)) C.1 C.2.1 dX12_mouths_14 (by decide) ?_
    refine lv_ldc2 (v := (1000 : Int64)) C.1 C.2.1 C.2.2.2.2.1 (C.2.2.2.2.2.1 (.constantLong RX12 165 (1000 : Int64)) (by decide +kernel)) dX12_mouths_15 ?_
    obtain ⟨r5, e4, h⟩ := boE h
    refine r_afti hw (r_runS (As := [.long (Int32.toInt64 x2), .long (1 : Int64), .long (1000 : Int64)]) (rest := []) C hw (kX12_in l n0 D Y N (Int32.toInt64 x2) (1 : Int64) (1000 : Int64) z e4) (va_cwS 3 C.2.2.2.2.2.1 gX12_mouths_X12_in rfl rfl rfl (by decide +kernel) ⟨(Nat.le_of_ble_eq_true rfl), (Nat.le_of_ble_eq_true rfl)⟩) rfl hl.1 rfl (Nat.le_of_ble_eq_true rfl) dX12_mouths_18 ⟨(Nat.le_of_ble_eq_true rfl), (Nat.le_of_ble_eq_true rfl)⟩) (fun H locs hw => ?_)
    refine lv_if_ne (tgt := 27) C.1 C.2.1 dX12_mouths_21 (by decide) (fun c6 => ?_) (fun c6 => ?_)
    · replace h := brF h c6
      refine lv_aload_n C.1 C.2.1 dX12_mouths_27 rfl (lv_at hl 0 rfl) ?_
      refine lv_iload_n C.1 C.2.1 dX12_mouths_28 rfl (lv_at hl 1 rfl) ?_
      obtain ⟨g9, h⟩ := gdE h
      obtain ⟨z7, e8, h⟩ := bdE h
      refine r_putI C hw g9 (by decide) (Cn := RX12) (T := TX12) (N := 50) rfl in_X12_mouths_X12 tyX12 tyX12_ok nmX12 43 (by decide) (by decide +kernel) (fun _ h => h) (Or.inl rfl) (ty := .int) (by decide +kernel) rfl rfl (Nat.le_of_ble_eq_true rfl) (st_11_43 n0 z x0 x1) e8 dX12_mouths_29 (fun H locs hw => ?_)
      refine lv_aload_n C.1 C.2.1 dX12_mouths_32 rfl (lv_at hl 0 rfl) ?_
      refine lv_iload_n C.1 C.2.1 dX12_mouths_33 rfl (lv_at hl 2 rfl) ?_
      have g12 : x0 < zn z7 ∧ zK z7 x0 = 11 := by rw [e8]; exact g9
      obtain ⟨z10, e11, h⟩ := bdE h
      refine r_putI C hw g12 (by decide) (Cn := RX12) (T := TX12) (N := 50) rfl in_X12_mouths_X12 tyX12 tyX12_ok nmX12 44 (by decide) (by decide +kernel) (fun _ h => h) (Or.inl rfl) (ty := .int) (by decide +kernel) rfl rfl (Nat.le_of_ble_eq_true rfl) (st_11_44 n0 z7 x0 x2) e11 dX12_mouths_34 (fun H locs hw => ?_)
      refine lv_iconst (v := (1 : Int32)) C.1 C.2.1 dX12_mouths_37 (by decide) ?_
      cases h
      replace hF : _ = fin := hF
      subst hF
      exact r_iret C hw dX12_mouths_38
    · replace h := brT h c6
      exact tX12_mouths_24 C h hF hw (lv_sub hl [0] rfl)
set_option maxRecDepth 100000 in
theorem kX12_mouths (l : Launch) (n0 : Nat) (D : va_G) (Y : Nat → ClassId) (N : Nat) (x0 : Nat) (x1 : Int32) (x2 : Int32) (z : Hp) {r : Int32} {z1 : Hp} (h : fX12_mouths N x0 x1 x2 z = some (r, z1)) : Met l yX12_mouths wsX12_mouths rmX12_mouths (PreC n0 D Y z [.ref (n0 + x0), .int x1, .int x2]) (PosI n0 D Y z1 r) 0 0 (AA n0) := by
  refine Met.ofW (cc := cX12_mouths) (maxL := 3) (ret := (some .int)) (by decide) rfl ?_
  intro p e s m args below meth c s₁ B hml hv
  obtain ⟨rfl, hR, hK⟩ := hv
  have C : Cx n0 D Y RX12 cX12_mouths (some .int) 3 wsX12_mouths "mouths" p s m ([.ref (n0 + x0), .int x1, .int x2] : List Value).toArray meth c := ⟨B.exec, B.bytes, B.returns, hml, findClass_of_methodNamed B.named, atoms_spec (ws := wsX12_mouths) B.pre, B.notSynchronized, (name_of_methodNamed B.named B.method).1, hK⟩
  have hl := lv_entry ([.ref (n0 + x0), .int x1, .int x2]) (n := 3) (Nat.le_of_ble_eq_true rfl)
  rw [lg_entry_eq]
  generalize (lg_sl ([.ref (n0 + x0), .int x1, .int x2]) ++ List.replicate (3 - (lg_sl ([.ref (n0 + x0), .int x1, .int x2])).length) Slot.unset).toArray = ls at hl ⊢
  have hl : lv_has ls 3 [(0, .ref (n0 + x0)), (1, .int x1), (2, .int x2)] := hl
  exact tX12_mouths_0 C h rfl ⟨hR, va_S.rf⟩ hl
theorem in_X12_ration_X12 : ∀ w ∈ wsX120, w ∈ wsX12_ration := by decide +kernel
abbrev rmX12_ration : Room := { frames := 1, cells := 0, slots := 0, locals := 25 }
noncomputable def fX12_ration (N : Nat) (x0 : Nat) (x1 : Int32) (z : Hp) : Option (Int32 × Hp) := bo (fX12_in N (Int32.toInt64 x1) (1 : Int64) (100 : Int64) z) fun r2 => br (r2 = 0) (some ((-2 : Int32), z)) (gd (x0 < zn z ∧ zK z x0 = 11) <| bd (zF z 749 x0) fun v5 => bd (zsF z 749 x0 x1) fun z7 => some (v5, z7))
set_option maxHeartbeats 4000000 in
set_option maxRecDepth 100000 in
theorem tX12_ration_0 {n0 : Nat} {D : va_G} {Y : Nat → ClassId} {p : Program} {l : Launch} {e : Env} {s : State} {m : MethodId} {args : Array Value} {below : List Frame} {meth : Method} {c : Code} {N : Nat} {fin : Int32 × Hp} {x0 : Nat} {x1 : Int32}  {z : Hp} (C : Cx n0 D Y RX12 cX12_ration (some .int) 3 wsX12_ration "ration" p s m args meth c) {x : (Int32 × Hp)} (h : fX12_ration N x0 x1  z = some x) (hF : (fun x => x = fin) x) {H : Heap} {locs : List Loc} {ls : Array Slot} (hw : Wd n0 D Y z s H locs) (hl : lv_has ls 3 [(0, .ref (n0 + x0)), (1, .int x1)]) : W p l e rmX12_ration s m args below meth c H locs 0 0 (MQ below (PosI n0 D Y fin.2 fin.1) args s 0 0 (AA n0)) (F0 m 0 ls []) := by
  unfold fX12_ration at h
  refine lv_iload_n C.1 C.2.1 dX12_ration_0 rfl (lv_at hl 1 rfl) ?_
  refine lv_i2l C.1 C.2.1 dX12_ration_1 rfl ?_
  refine lv_lconst (v := (1 : Int64)) C.1 C.2.1 dX12_ration_2 (by decide) ?_
  refine lv_ldc2 (v := (100 : Int64)) C.1 C.2.1 C.2.2.2.2.1 (C.2.2.2.2.2.1 (.constantLong RX12 182 (100 : Int64)) (by decide +kernel)) dX12_ration_3 ?_
  obtain ⟨r2, e1, h⟩ := boE h
  refine r_afti hw (r_runS (As := [.long (Int32.toInt64 x1), .long (1 : Int64), .long (100 : Int64)]) (rest := []) C hw (kX12_in l n0 D Y N (Int32.toInt64 x1) (1 : Int64) (100 : Int64) z e1) (va_cwS 3 C.2.2.2.2.2.1 gX12_ration_X12_in rfl rfl rfl (by decide +kernel) ⟨(Nat.le_of_ble_eq_true rfl), (Nat.le_of_ble_eq_true rfl)⟩) rfl hl.1 rfl (Nat.le_of_ble_eq_true rfl) dX12_ration_6 ⟨(Nat.le_of_ble_eq_true rfl), (Nat.le_of_ble_eq_true rfl)⟩) (fun H locs hw => ?_)
  refine lv_if_ne (tgt := 15) C.1 C.2.1 dX12_ration_9 (by decide) (fun c3 => ?_) (fun c3 => ?_)
  · replace h := brF h c3
    refine lv_aload_n C.1 C.2.1 dX12_ration_15 rfl (lv_at hl 0 rfl) ?_
    obtain ⟨g4, h⟩ := gdE h
    refine r_get (v := .int (zF z 749 x0)) C hw g4 (by decide) (Cn := RX12) (T := TX12) (N := 50) rfl in_X12_ration_X12 45 (by decide) (by decide +kernel) (fun _ h => h) rfl dX12_ration_16 ?_
    obtain ⟨v5, e6, h⟩ := bdE h
    refine r_topi e6 ?_
    refine lv_istore_n (i := 2) (lv' := [(2, .int v5), (0, .ref (n0 + x0)), (1, .int x1)]) C.1 C.2.1 dX12_ration_19 rfl hl (by decide) rfl (fun ls hl => ?_)
    refine lv_aload_n C.1 C.2.1 dX12_ration_20 rfl (lv_at hl 1 rfl) ?_
    refine lv_iload_n C.1 C.2.1 dX12_ration_21 rfl (lv_at hl 2 rfl) ?_
    obtain ⟨z7, e8, h⟩ := bdE h
    refine r_putI C hw g4 (by decide) (Cn := RX12) (T := TX12) (N := 50) rfl in_X12_ration_X12 tyX12 tyX12_ok nmX12 45 (by decide) (by decide +kernel) (fun _ h => h) (Or.inl rfl) (ty := .int) (by decide +kernel) rfl rfl (Nat.le_of_ble_eq_true rfl) (st_11_45 n0 z x0 x1) e8 dX12_ration_22 (fun H locs hw => ?_)
    refine lv_iload_n C.1 C.2.1 dX12_ration_25 rfl (lv_at hl 0 rfl) ?_
    cases h
    replace hF : _ = fin := hF
    subst hF
    exact r_iret C hw dX12_ration_26
  · replace h := brT h c3
    refine lv_bipush (v := (-2 : Int32)) C.1 C.2.1 dX12_ration_12 (by decide) ?_
    cases h
    replace hF : _ = fin := hF
    subst hF
    exact r_iret C hw dX12_ration_14
set_option maxRecDepth 100000 in
theorem kX12_ration (l : Launch) (n0 : Nat) (D : va_G) (Y : Nat → ClassId) (N : Nat) (x0 : Nat) (x1 : Int32) (z : Hp) {r : Int32} {z1 : Hp} (h : fX12_ration N x0 x1 z = some (r, z1)) : Met l yX12_ration wsX12_ration rmX12_ration (PreC n0 D Y z [.ref (n0 + x0), .int x1]) (PosI n0 D Y z1 r) 0 0 (AA n0) := by
  refine Met.ofW (cc := cX12_ration) (maxL := 3) (ret := (some .int)) (by decide) rfl ?_
  intro p e s m args below meth c s₁ B hml hv
  obtain ⟨rfl, hR, hK⟩ := hv
  have C : Cx n0 D Y RX12 cX12_ration (some .int) 3 wsX12_ration "ration" p s m ([.ref (n0 + x0), .int x1] : List Value).toArray meth c := ⟨B.exec, B.bytes, B.returns, hml, findClass_of_methodNamed B.named, atoms_spec (ws := wsX12_ration) B.pre, B.notSynchronized, (name_of_methodNamed B.named B.method).1, hK⟩
  have hl := lv_entry ([.ref (n0 + x0), .int x1]) (n := 3) (Nat.le_of_ble_eq_true rfl)
  rw [lg_entry_eq]
  generalize (lg_sl ([.ref (n0 + x0), .int x1]) ++ List.replicate (3 - (lg_sl ([.ref (n0 + x0), .int x1])).length) Slot.unset).toArray = ls at hl ⊢
  have hl : lv_has ls 3 [(0, .ref (n0 + x0)), (1, .int x1)] := hl
  exact tX12_ration_0 C h rfl ⟨hR, va_S.rf⟩ hl
theorem in_X12_harvest_X12 : ∀ w ∈ wsX120, w ∈ wsX12_harvest := by decide +kernel
abbrev rmX12_harvest : Room := { frames := 1, cells := 0, slots := 0, locals := 25 }
noncomputable def fX12_harvest_24 (N : Nat) (x0 : Nat) (z : Hp) : Option (Int32 × Hp) := some ((-2 : Int32), z)
set_option maxHeartbeats 4000000 in
set_option maxRecDepth 100000 in
theorem tX12_harvest_24 {n0 : Nat} {D : va_G} {Y : Nat → ClassId} {p : Program} {l : Launch} {e : Env} {s : State} {m : MethodId} {args : Array Value} {below : List Frame} {meth : Method} {c : Code} {N : Nat} {fin : Int32 × Hp} {x0 : Nat}  {z : Hp} (C : Cx n0 D Y RX12 cX12_harvest (some .int) 3 wsX12_harvest "harvest" p s m args meth c) {x : (Int32 × Hp)} (h : fX12_harvest_24 N x0  z = some x) (hF : (fun x => x = fin) x) {H : Heap} {locs : List Loc} {ls : Array Slot} (hw : Wd n0 D Y z s H locs) (hl : lv_has ls 3 [(0, .ref (n0 + x0))]) : W p l e rmX12_harvest s m args below meth c H locs 0 0 (MQ below (PosI n0 D Y fin.2 fin.1) args s 0 0 (AA n0)) (F0 m 24 ls []) := by
  unfold fX12_harvest_24 at h
  refine lv_bipush (v := (-2 : Int32)) C.1 C.2.1 dX12_harvest_24 (by decide) ?_
  cases h
  replace hF : _ = fin := hF
  subst hF
  exact r_iret C hw dX12_harvest_26
noncomputable def fX12_harvest (N : Nat) (x0 : Nat) (x1 : Int32) (x2 : Int32) (z : Hp) : Option (Int32 × Hp) := bo (fX12_in N (Int32.toInt64 x1) (0 : Int64) (199 : Int64) z) fun r2 => br (r2 = 0) (fX12_harvest_24 N x0 z) (bo (fX12_in N (Int32.toInt64 x2) (1 : Int64) (10000000 : Int64) z) fun r5 => br (r5 = 0) (fX12_harvest_24 N x0 z) (gd (x0 < zn z ∧ zK z x0 = 11) <| br ((zF z 753 x0) = (10 : Int32)) (some ((-4 : Int32), z)) (br ((zF z 704 x0) < x1) (bo (zG z 751 x0) fun b11 => gd (b11 < zn z ∧ zK z b11 = 12) <| gd (¬ ((zF z 753 x0) < 0 ∨ zL z b11 ≤ Int32.toNatClampNeg (zF z 753 x0))) <| bd (zsA z b11 (Int32.toNatClampNeg (zF z 753 x0)) x1) fun z14 => bo (zG z14 752 x0) fun b18 => gd (b18 < zn z14 ∧ zK z14 b18 = 12) <| gd (¬ ((zF z14 753 x0) < 0 ∨ zL z14 b18 ≤ Int32.toNatClampNeg (zF z14 753 x0))) <| bd (zsA z14 b18 (Int32.toNatClampNeg (zF z14 753 x0)) x2) fun z21 => bd (zsF z21 753 x0 ((zF z21 753 x0) + (1 : Int32))) fun z24 => some ((zF z24 753 x0), z24)) (some ((-5 : Int32), z)))))
set_option maxHeartbeats 4000000 in
set_option maxRecDepth 100000 in
theorem tX12_harvest_0 {n0 : Nat} {D : va_G} {Y : Nat → ClassId} {p : Program} {l : Launch} {e : Env} {s : State} {m : MethodId} {args : Array Value} {below : List Frame} {meth : Method} {c : Code} {N : Nat} {fin : Int32 × Hp} {x0 : Nat} {x1 : Int32} {x2 : Int32}  {z : Hp} (C : Cx n0 D Y RX12 cX12_harvest (some .int) 3 wsX12_harvest "harvest" p s m args meth c) {x : (Int32 × Hp)} (h : fX12_harvest N x0 x1 x2  z = some x) (hF : (fun x => x = fin) x) {H : Heap} {locs : List Loc} {ls : Array Slot} (hw : Wd n0 D Y z s H locs) (hl : lv_has ls 3 [(0, .ref (n0 + x0)), (1, .int x1), (2, .int x2)]) : W p l e rmX12_harvest s m args below meth c H locs 0 0 (MQ below (PosI n0 D Y fin.2 fin.1) args s 0 0 (AA n0)) (F0 m 0 ls []) := by
  unfold fX12_harvest at h
  refine lv_iload_n C.1 C.2.1 dX12_harvest_0 rfl (lv_at hl 1 rfl) ?_
  refine lv_i2l C.1 C.2.1 dX12_harvest_1 rfl ?_
  refine lv_lconst (v := (0 : Int64)) C.1 C.2.1 dX12_harvest_2 (by decide) ?_
  refine lv_ldc2 (v := (199 : Int64)) C.1 C.2.1 C.2.2.2.2.1 (C.2.2.2.2.2.1 (.constantLong RX12 189 (199 : Int64)) (by decide +kernel)) dX12_harvest_3 ?_
  obtain ⟨r2, e1, h⟩ := boE h
  refine r_afti hw (r_runS (As := [.long (Int32.toInt64 x1), .long (0 : Int64), .long (199 : Int64)]) (rest := []) C hw (kX12_in l n0 D Y N (Int32.toInt64 x1) (0 : Int64) (199 : Int64) z e1) (va_cwS 3 C.2.2.2.2.2.1 gX12_harvest_X12_in rfl rfl rfl (by decide +kernel) ⟨(Nat.le_of_ble_eq_true rfl), (Nat.le_of_ble_eq_true rfl)⟩) rfl hl.1 rfl (Nat.le_of_ble_eq_true rfl) dX12_harvest_6 ⟨(Nat.le_of_ble_eq_true rfl), (Nat.le_of_ble_eq_true rfl)⟩) (fun H locs hw => ?_)
  refine lv_if_eq (tgt := 24) C.1 C.2.1 dX12_harvest_9 (by decide) (fun c3 => ?_) (fun c3 => ?_)
  · replace h := brT h c3
    exact tX12_harvest_24 C h hF hw (lv_sub hl [0] rfl)
  · replace h := brF h c3
    refine lv_iload_n C.1 C.2.1 dX12_harvest_12 rfl (lv_at hl 2 rfl) ?_
    refine lv_i2l C.1 C.2.1 dX12_harvest_13 rfl ?_
    refine lv_lconst (v := (1 : Int64)) C.1 C.2.1 dX12_harvest_14 (by decide) ?_
    refine lv_ldc2 (v := (10000000 : Int64)) C.1 C.2.1 C.2.2.2.2.1 (C.2.2.2.2.2.1 (.constantLong RX12 241 (10000000 : Int64)) (by decide +kernel)) dX12_harvest_15 ?_
    obtain ⟨r5, e4, h⟩ := boE h
    refine r_afti hw (r_runS (As := [.long (Int32.toInt64 x2), .long (1 : Int64), .long (10000000 : Int64)]) (rest := []) C hw (kX12_in l n0 D Y N (Int32.toInt64 x2) (1 : Int64) (10000000 : Int64) z e4) (va_cwS 3 C.2.2.2.2.2.1 gX12_harvest_X12_in rfl rfl rfl (by decide +kernel) ⟨(Nat.le_of_ble_eq_true rfl), (Nat.le_of_ble_eq_true rfl)⟩) rfl hl.1 rfl (Nat.le_of_ble_eq_true rfl) dX12_harvest_18 ⟨(Nat.le_of_ble_eq_true rfl), (Nat.le_of_ble_eq_true rfl)⟩) (fun H locs hw => ?_)
    refine lv_if_ne (tgt := 27) C.1 C.2.1 dX12_harvest_21 (by decide) (fun c6 => ?_) (fun c6 => ?_)
    · replace h := brF h c6
      refine lv_aload_n C.1 C.2.1 dX12_harvest_27 rfl (lv_at hl 0 rfl) ?_
      obtain ⟨g7, h⟩ := gdE h
      refine r_get (v := .int (zF z 753 x0)) C hw g7 (by decide) (Cn := RX12) (T := TX12) (N := 50) rfl in_X12_harvest_X12 49 (by decide) (by decide +kernel) (fun _ h => h) rfl dX12_harvest_28 ?_
      refine lv_bipush (v := (10 : Int32)) C.1 C.2.1 dX12_harvest_31 (by decide) ?_
      refine lv_icmp_ne (tgt := 39) C.1 C.2.1 dX12_harvest_33 (by decide) (fun c8 => ?_) (fun c8 => ?_)
      · replace h := brF h c8
        refine lv_iload_n C.1 C.2.1 dX12_harvest_39 rfl (lv_at hl 1 rfl) ?_
        refine lv_aload_n C.1 C.2.1 dX12_harvest_40 rfl (lv_at hl 0 rfl) ?_
        refine r_get (v := .int (zF z 704 x0)) C hw g7 (by decide) (Cn := RX12) (T := TX12) (N := 50) rfl in_X12_harvest_X12 0 (by decide) (by decide +kernel) (fun _ h => h) rfl dX12_harvest_41 ?_
        refine lv_icmp_gt (tgt := 50) C.1 C.2.1 dX12_harvest_44 (by decide) (fun c9 => ?_) (fun c9 => ?_)
        · replace h := brT h c9
          refine lv_aload_n C.1 C.2.1 dX12_harvest_50 rfl (lv_at hl 0 rfl) ?_
          refine r_get (v := rv n0 (zG z 751 x0)) C hw g7 (by decide) (Cn := RX12) (T := TX12) (N := 50) rfl in_X12_harvest_X12 47 (by decide) (by decide +kernel) (fun _ h => h) rfl dX12_harvest_51 ?_
          obtain ⟨b11, e10, h⟩ := boE h
          refine r_topr e10 ?_
          refine lv_aload_n C.1 C.2.1 dX12_harvest_54 rfl (lv_at hl 0 rfl) ?_
          refine r_get (v := .int (zF z 753 x0)) C hw g7 (by decide) (Cn := RX12) (T := TX12) (N := 50) rfl in_X12_harvest_X12 49 (by decide) (by decide +kernel) (fun _ h => h) rfl dX12_harvest_55 ?_
          refine lv_iload_n C.1 C.2.1 dX12_harvest_58 rfl (lv_at hl 1 rfl) ?_
          obtain ⟨g12, h⟩ := gdE h
          obtain ⟨i13, h⟩ := gdE h
          obtain ⟨z14, e15, h⟩ := bdE h
          refine r_iast C hw g12 i13 e15 dX12_harvest_59 (fun H locs hw => ?_)
          refine lv_aload_n C.1 C.2.1 dX12_harvest_60 rfl (lv_at hl 0 rfl) ?_
          have g16 : x0 < zn z14 ∧ zK z14 x0 = 11 := by rw [e15]; exact g7
          refine r_get (v := rv n0 (zG z14 752 x0)) C hw g16 (by decide) (Cn := RX12) (T := TX12) (N := 50) rfl in_X12_harvest_X12 48 (by decide) (by decide +kernel) (fun _ h => h) rfl dX12_harvest_61 ?_
          obtain ⟨b18, e17, h⟩ := boE h
          refine r_topr e17 ?_
          refine lv_aload_n C.1 C.2.1 dX12_harvest_64 rfl (lv_at hl 0 rfl) ?_
          refine r_get (v := .int (zF z14 753 x0)) C hw g16 (by decide) (Cn := RX12) (T := TX12) (N := 50) rfl in_X12_harvest_X12 49 (by decide) (by decide +kernel) (fun _ h => h) rfl dX12_harvest_65 ?_
          refine lv_iload_n C.1 C.2.1 dX12_harvest_68 rfl (lv_at hl 2 rfl) ?_
          obtain ⟨g19, h⟩ := gdE h
          obtain ⟨i20, h⟩ := gdE h
          obtain ⟨z21, e22, h⟩ := bdE h
          refine r_iast C hw g19 i20 e22 dX12_harvest_69 (fun H locs hw => ?_)
          refine lv_aload_n C.1 C.2.1 dX12_harvest_70 rfl (lv_at hl 0 rfl) ?_
          refine lv_dup C.1 C.2.1 dX12_harvest_71 rfl ?_
          have g23 : x0 < zn z21 ∧ zK z21 x0 = 11 := by rw [e22]; exact g16
          refine r_get (v := .int (zF z21 753 x0)) C hw g23 (by decide) (Cn := RX12) (T := TX12) (N := 50) rfl in_X12_harvest_X12 49 (by decide) (by decide +kernel) (fun _ h => h) rfl dX12_harvest_72 ?_
          refine lv_iconst (v := (1 : Int32)) C.1 C.2.1 dX12_harvest_75 (by decide) ?_
          refine lv_iadd C.1 C.2.1 dX12_harvest_76 ?_
          obtain ⟨z24, e25, h⟩ := bdE h
          refine r_putI C hw g23 (by decide) (Cn := RX12) (T := TX12) (N := 50) rfl in_X12_harvest_X12 tyX12 tyX12_ok nmX12 49 (by decide) (by decide +kernel) (fun _ h => h) (Or.inl rfl) (ty := .int) (by decide +kernel) rfl rfl (Nat.le_of_ble_eq_true rfl) (st_11_49 n0 z21 x0 ((zF z21 753 x0) + (1 : Int32))) e25 dX12_harvest_77 (fun H locs hw => ?_)
          refine lv_aload_n C.1 C.2.1 dX12_harvest_80 rfl (lv_at hl 0 rfl) ?_
          have g26 : x0 < zn z24 ∧ zK z24 x0 = 11 := by rw [e25]; exact g23
          refine r_get (v := .int (zF z24 753 x0)) C hw g26 (by decide) (Cn := RX12) (T := TX12) (N := 50) rfl in_X12_harvest_X12 49 (by decide) (by decide +kernel) (fun _ h => h) rfl dX12_harvest_81 ?_
          cases h
          replace hF : _ = fin := hF
          subst hF
          exact r_iret C hw dX12_harvest_84
        · replace h := brF h c9
          refine lv_bipush (v := (-5 : Int32)) C.1 C.2.1 dX12_harvest_47 (by decide) ?_
          cases h
          replace hF : _ = fin := hF
          subst hF
          exact r_iret C hw dX12_harvest_49
      · replace h := brT h c8
        refine lv_bipush (v := (-4 : Int32)) C.1 C.2.1 dX12_harvest_36 (by decide) ?_
        cases h
        replace hF : _ = fin := hF
        subst hF
        exact r_iret C hw dX12_harvest_38
    · replace h := brT h c6
      exact tX12_harvest_24 C h hF hw (lv_sub hl [0] rfl)
set_option maxRecDepth 100000 in
theorem kX12_harvest (l : Launch) (n0 : Nat) (D : va_G) (Y : Nat → ClassId) (N : Nat) (x0 : Nat) (x1 : Int32) (x2 : Int32) (z : Hp) {r : Int32} {z1 : Hp} (h : fX12_harvest N x0 x1 x2 z = some (r, z1)) : Met l yX12_harvest wsX12_harvest rmX12_harvest (PreC n0 D Y z [.ref (n0 + x0), .int x1, .int x2]) (PosI n0 D Y z1 r) 0 0 (AA n0) := by
  refine Met.ofW (cc := cX12_harvest) (maxL := 3) (ret := (some .int)) (by decide) rfl ?_
  intro p e s m args below meth c s₁ B hml hv
  obtain ⟨rfl, hR, hK⟩ := hv
  have C : Cx n0 D Y RX12 cX12_harvest (some .int) 3 wsX12_harvest "harvest" p s m ([.ref (n0 + x0), .int x1, .int x2] : List Value).toArray meth c := ⟨B.exec, B.bytes, B.returns, hml, findClass_of_methodNamed B.named, atoms_spec (ws := wsX12_harvest) B.pre, B.notSynchronized, (name_of_methodNamed B.named B.method).1, hK⟩
  have hl := lv_entry ([.ref (n0 + x0), .int x1, .int x2]) (n := 3) (Nat.le_of_ble_eq_true rfl)
  rw [lg_entry_eq]
  generalize (lg_sl ([.ref (n0 + x0), .int x1, .int x2]) ++ List.replicate (3 - (lg_sl ([.ref (n0 + x0), .int x1, .int x2])).length) Slot.unset).toArray = ls at hl ⊢
  have hl : lv_has ls 3 [(0, .ref (n0 + x0)), (1, .int x1), (2, .int x2)] := hl
  exact tX12_harvest_0 C h rfl ⟨hR, va_S.rf⟩ hl
theorem in_X12_hungerBy_X12 : ∀ w ∈ wsX120, w ∈ wsX12_hungerBy := by decide +kernel
abbrev rmX12_hungerBy : Room := { frames := 1, cells := 0, slots := 0, locals := 21 }
noncomputable def fX12_hungerBy_97 (N : Nat) (x0 : Nat) (x2 : Int32) (x3 : Int32) (x4 : Int32) (x5 : Int32) (x6 : Int32) (z : Hp) : Option ((Int32 × Int32) ⊕ ((Int32 × Int32) ⊕ (Int32))) := bd (x6 + (1 : Int32)) fun v1 => some (.inl (x4, v1))
set_option maxHeartbeats 4000000 in
set_option maxRecDepth 100000 in
theorem tX12_hungerBy_97 {n0 : Nat} {D : va_G} {Y : Nat → ClassId} {p : Program} {l : Launch} {e : Env} {s : State} {m : MethodId} {args : Array Value} {below : List Frame} {meth : Method} {c : Code} {N : Nat} {fin : Int32} {x0 : Nat} {x2 : Int32} {x3 : Int32} {x4 : Int32} {x5 : Int32} {x6 : Int32}  {z : Hp} (C : Cx n0 D Y RX12 cX12_hungerBy (some .int) 7 wsX12_hungerBy "hungerBy" p s m args meth c) {P18 : Int32 × Int32 → Prop} (hP18 : ∀ u, P18 u → ∀ (H : Heap) (locs : List Loc) (ls : Array Slot), Wd n0 D Y z s H locs → lv_has ls 7 [(0, .ref (n0 + x0)), (2, .int x2), (3, .int x3), (4, .int u.1), (5, .int u.2)] → W p l e rmX12_hungerBy s m args below meth c H locs 0 0 (MQ below (PosI n0 D Y z fin) args s 0 0 (AA n0)) (F0 m 18 ls [])) {P42 : Int32 × Int32 → Prop} (hP42 : ∀ u, P42 u → ∀ (H : Heap) (locs : List Loc) (ls : Array Slot), Wd n0 D Y z s H locs → lv_has ls 7 [(0, .ref (n0 + x0)), (2, .int x2), (3, .int x3), (4, .int u.1), (5, .int x5), (6, .int u.2)] → W p l e rmX12_hungerBy s m args below meth c H locs 0 0 (MQ below (PosI n0 D Y z fin) args s 0 0 (AA n0)) (F0 m 42 ls [])) {x : ((Int32 × Int32) ⊕ ((Int32 × Int32) ⊕ (Int32)))} (h : fX12_hungerBy_97 N x0 x2 x3 x4 x5 x6  z = some x) (hF : (Fn P42 (Fn P18 (fun x => x = fin))) x) {H : Heap} {locs : List Loc} {ls : Array Slot} (hw : Wd n0 D Y z s H locs) (hl : lv_has ls 7 [(0, .ref (n0 + x0)), (2, .int x2), (3, .int x3), (4, .int x4), (5, .int x5), (6, .int x6)]) : W p l e rmX12_hungerBy s m args below meth c H locs 0 0 (MQ below (PosI n0 D Y z fin) args s 0 0 (AA n0)) (F0 m 97 ls []) := by
  unfold fX12_hungerBy_97 at h
  obtain ⟨v1, e2, h⟩ := bdE h
  refine lv_iinc (v := v1) (lv' := [(6, .int v1), (0, .ref (n0 + x0)), (2, .int x2), (3, .int x3), (4, .int x4), (5, .int x5)]) C.1 C.2.1 dX12_hungerBy_97 hl (k := 5) rfl (by rw [e2]; rfl) (by decide) rfl (fun ls hl => ?_)
  refine lv_goto (tgt := 42) C.1 C.2.1 dX12_hungerBy_100 (by decide) ?_
  cases h
  exact hP42 _ hF _ _ _ hw (lv_sub hl [1, 2, 3, 4, 5, 0] rfl)
noncomputable def fX12_hungerBy_95 (N : Nat) (x0 : Nat) (x2 : Int32) (x3 : Int32) (x5 : Int32) (x6 : Int32) (s0 : Int32) (z : Hp) : Option ((Int32 × Int32) ⊕ ((Int32 × Int32) ⊕ (Int32))) := fX12_hungerBy_97 N x0 x2 x3 s0 x5 x6 z
set_option maxHeartbeats 4000000 in
set_option maxRecDepth 100000 in
theorem tX12_hungerBy_95 {n0 : Nat} {D : va_G} {Y : Nat → ClassId} {p : Program} {l : Launch} {e : Env} {s : State} {m : MethodId} {args : Array Value} {below : List Frame} {meth : Method} {c : Code} {N : Nat} {fin : Int32} {x0 : Nat} {x2 : Int32} {x3 : Int32} {x5 : Int32} {x6 : Int32} {s0 : Int32} {z : Hp} (C : Cx n0 D Y RX12 cX12_hungerBy (some .int) 7 wsX12_hungerBy "hungerBy" p s m args meth c) {P18 : Int32 × Int32 → Prop} (hP18 : ∀ u, P18 u → ∀ (H : Heap) (locs : List Loc) (ls : Array Slot), Wd n0 D Y z s H locs → lv_has ls 7 [(0, .ref (n0 + x0)), (2, .int x2), (3, .int x3), (4, .int u.1), (5, .int u.2)] → W p l e rmX12_hungerBy s m args below meth c H locs 0 0 (MQ below (PosI n0 D Y z fin) args s 0 0 (AA n0)) (F0 m 18 ls [])) {P42 : Int32 × Int32 → Prop} (hP42 : ∀ u, P42 u → ∀ (H : Heap) (locs : List Loc) (ls : Array Slot), Wd n0 D Y z s H locs → lv_has ls 7 [(0, .ref (n0 + x0)), (2, .int x2), (3, .int x3), (4, .int u.1), (5, .int x5), (6, .int u.2)] → W p l e rmX12_hungerBy s m args below meth c H locs 0 0 (MQ below (PosI n0 D Y z fin) args s 0 0 (AA n0)) (F0 m 42 ls [])) {x : ((Int32 × Int32) ⊕ ((Int32 × Int32) ⊕ (Int32)))} (h : fX12_hungerBy_95 N x0 x2 x3 x5 x6 s0 z = some x) (hF : (Fn P42 (Fn P18 (fun x => x = fin))) x) {H : Heap} {locs : List Loc} {ls : Array Slot} (hw : Wd n0 D Y z s H locs) (hl : lv_has ls 7 [(0, .ref (n0 + x0)), (2, .int x2), (3, .int x3), (5, .int x5), (6, .int x6)]) : W p l e rmX12_hungerBy s m args below meth c H locs 0 0 (MQ below (PosI n0 D Y z fin) args s 0 0 (AA n0)) (F0 m 95 ls [.int s0]) := by
  unfold fX12_hungerBy_95 at h
  refine lv_istore (i := 4) (lv' := [(4, .int s0), (0, .ref (n0 + x0)), (2, .int x2), (3, .int x3), (5, .int x5), (6, .int x6)]) C.1 C.2.1 dX12_hungerBy_95 hl (by decide) rfl (fun ls hl => ?_)
  exact tX12_hungerBy_97 C hP18 hP42 h hF hw (lv_sub hl [1, 2, 3, 0, 4, 5] rfl)
noncomputable def fX12_hungerBy_42 (N : Nat) (x0 : Nat) (x2 : Int32) (x3 : Int32) (x4 : Int32) (x5 : Int32) (x6 : Int32) (z : Hp) : Option ((Int32 × Int32) ⊕ ((Int32 × Int32) ⊕ (Int32))) := gd (x0 < zn z ∧ zK z x0 = 11) <| br ((zF z 753 x0) ≤ x6) (lf <| bd (x5 + (1 : Int32)) fun v4 => some (.inl (x4, v4))) (bo (zG z 751 x0) fun b7 => gd (b7 < zn z ∧ zK z b7 = 12) <| gd (¬ (x6 < 0 ∨ zL z b7 ≤ (x6).toNatClampNeg)) <| br ((zA z b7 (x6).toNatClampNeg) = (x5 + (1 : Int32))) (bo (zG z 752 x0) fun b12 => gd (b12 < zn z ∧ zK z b12 = 12) <| gd (¬ (x6 < 0 ∨ zL z b12 ≤ (x6).toNatClampNeg)) <| br ((x4 + (zA z b12 (x6).toNatClampNeg)) ≤ (100000000 : Int32)) (bo (zG z 752 x0) fun b17 => gd (b17 < zn z ∧ zK z b17 = 12) <| gd (¬ (x6 < 0 ∨ zL z b17 ≤ (x6).toNatClampNeg)) <| fX12_hungerBy_95 N x0 x2 x3 x5 x6 (x4 + (zA z b17 (x6).toNatClampNeg)) z) (fX12_hungerBy_95 N x0 x2 x3 x5 x6 (100000000 : Int32) z)) (fX12_hungerBy_97 N x0 x2 x3 x4 x5 x6 z))
set_option maxHeartbeats 4000000 in
set_option maxRecDepth 100000 in
theorem tX12_hungerBy_42 {n0 : Nat} {D : va_G} {Y : Nat → ClassId} {p : Program} {l : Launch} {e : Env} {s : State} {m : MethodId} {args : Array Value} {below : List Frame} {meth : Method} {c : Code} {N : Nat} {fin : Int32} {x0 : Nat} {x2 : Int32} {x3 : Int32} {x4 : Int32} {x5 : Int32} {x6 : Int32}  {z : Hp} (C : Cx n0 D Y RX12 cX12_hungerBy (some .int) 7 wsX12_hungerBy "hungerBy" p s m args meth c) {P18 : Int32 × Int32 → Prop} (hP18 : ∀ u, P18 u → ∀ (H : Heap) (locs : List Loc) (ls : Array Slot), Wd n0 D Y z s H locs → lv_has ls 7 [(0, .ref (n0 + x0)), (2, .int x2), (3, .int x3), (4, .int u.1), (5, .int u.2)] → W p l e rmX12_hungerBy s m args below meth c H locs 0 0 (MQ below (PosI n0 D Y z fin) args s 0 0 (AA n0)) (F0 m 18 ls [])) {P42 : Int32 × Int32 → Prop} (hP42 : ∀ u, P42 u → ∀ (H : Heap) (locs : List Loc) (ls : Array Slot), Wd n0 D Y z s H locs → lv_has ls 7 [(0, .ref (n0 + x0)), (2, .int x2), (3, .int x3), (4, .int u.1), (5, .int x5), (6, .int u.2)] → W p l e rmX12_hungerBy s m args below meth c H locs 0 0 (MQ below (PosI n0 D Y z fin) args s 0 0 (AA n0)) (F0 m 42 ls [])) {x : ((Int32 × Int32) ⊕ ((Int32 × Int32) ⊕ (Int32)))} (h : fX12_hungerBy_42 N x0 x2 x3 x4 x5 x6  z = some x) (hF : (Fn P42 (Fn P18 (fun x => x = fin))) x) {H : Heap} {locs : List Loc} {ls : Array Slot} (hw : Wd n0 D Y z s H locs) (hl : lv_has ls 7 [(0, .ref (n0 + x0)), (2, .int x2), (3, .int x3), (4, .int x4), (5, .int x5), (6, .int x6)]) : W p l e rmX12_hungerBy s m args below meth c H locs 0 0 (MQ below (PosI n0 D Y z fin) args s 0 0 (AA n0)) (F0 m 42 ls []) := by
  unfold fX12_hungerBy_42 at h
  refine lv_iload C.1 C.2.1 dX12_hungerBy_42 (lv_at hl 5 rfl) ?_
  refine lv_aload_n C.1 C.2.1 dX12_hungerBy_44 rfl (lv_at hl 0 rfl) ?_
  obtain ⟨g1, h⟩ := gdE h
  refine r_get (v := .int (zF z 753 x0)) C hw g1 (by decide) (Cn := RX12) (T := TX12) (N := 50) rfl in_X12_hungerBy_X12 49 (by decide) (by decide +kernel) (fun _ h => h) rfl dX12_hungerBy_45 ?_
  refine lv_icmp_ge (tgt := 103) C.1 C.2.1 dX12_hungerBy_48 (by decide) (fun c2 => ?_) (fun c2 => ?_)
  · replace h := brT h c2
    obtain ⟨y3, h, hF⟩ := lfX h hF
    obtain ⟨v4, e5, h⟩ := bdE h
    refine lv_iinc (v := v4) (lv' := [(5, .int v4), (0, .ref (n0 + x0)), (2, .int x2), (3, .int x3), (4, .int x4), (6, .int x6)]) C.1 C.2.1 dX12_hungerBy_103 hl (k := 4) rfl (by rw [e5]; rfl) (by decide) rfl (fun ls hl => ?_)
    refine lv_goto (tgt := 18) C.1 C.2.1 dX12_hungerBy_106 (by decide) ?_
    cases h
    exact hP18 _ hF _ _ _ hw (lv_sub hl [1, 2, 3, 4, 0] rfl)
  · replace h := brF h c2
    refine lv_aload_n C.1 C.2.1 dX12_hungerBy_51 rfl (lv_at hl 0 rfl) ?_
    refine r_get (v := rv n0 (zG z 751 x0)) C hw g1 (by decide) (Cn := RX12) (T := TX12) (N := 50) rfl in_X12_hungerBy_X12 47 (by decide) (by decide +kernel) (fun _ h => h) rfl dX12_hungerBy_52 ?_
    obtain ⟨b7, e6, h⟩ := boE h
    refine r_topr e6 ?_
    refine lv_iload C.1 C.2.1 dX12_hungerBy_55 (lv_at hl 5 rfl) ?_
    obtain ⟨g8, h⟩ := gdE h
    obtain ⟨i9, h⟩ := gdE h
    refine r_iald C hw g8 i9 dX12_hungerBy_57 ?_
    refine lv_iload C.1 C.2.1 dX12_hungerBy_58 (lv_at hl 4 rfl) ?_
    refine lv_iconst (v := (1 : Int32)) C.1 C.2.1 dX12_hungerBy_60 (by decide) ?_
    refine lv_iadd C.1 C.2.1 dX12_hungerBy_61 ?_
    refine lv_icmp_ne (tgt := 97) C.1 C.2.1 dX12_hungerBy_62 (by decide) (fun c10 => ?_) (fun c10 => ?_)
    · replace h := brF h c10
      exact tX12_hungerBy_97 C hP18 hP42 h hF hw (lv_sub hl [0, 1, 2, 3, 4, 5] rfl)
    · replace h := brT h c10
      refine lv_iload C.1 C.2.1 dX12_hungerBy_65 (lv_at hl 3 rfl) ?_
      refine lv_aload_n C.1 C.2.1 dX12_hungerBy_67 rfl (lv_at hl 0 rfl) ?_
      refine r_get (v := rv n0 (zG z 752 x0)) C hw g1 (by decide) (Cn := RX12) (T := TX12) (N := 50) rfl in_X12_hungerBy_X12 48 (by decide) (by decide +kernel) (fun _ h => h) rfl dX12_hungerBy_68 ?_
      obtain ⟨b12, e11, h⟩ := boE h
      refine r_topr e11 ?_
      refine lv_iload C.1 C.2.1 dX12_hungerBy_71 (lv_at hl 5 rfl) ?_
      obtain ⟨g13, h⟩ := gdE h
      obtain ⟨i14, h⟩ := gdE h
      refine r_iald C hw g13 i14 dX12_hungerBy_73 ?_
      refine lv_iadd C.1 C.2.1 dX12_hungerBy_74 ?_
      refine lv_ldc (v := (100000000 : Int32)) C.1 C.2.1 C.2.2.2.2.1 (C.2.2.2.2.2.1 (.constant RX12 149 (100000000 : Int32)) (by decide +kernel)) dX12_hungerBy_75 ?_
      refine lv_icmp_le (tgt := 85) C.1 C.2.1 dX12_hungerBy_77 (by decide) (fun c15 => ?_) (fun c15 => ?_)
      · replace h := brT h c15
        refine lv_iload C.1 C.2.1 dX12_hungerBy_85 (lv_at hl 3 rfl) ?_
        refine lv_aload_n C.1 C.2.1 dX12_hungerBy_87 rfl (lv_at hl 0 rfl) ?_
        refine r_get (v := rv n0 (zG z 752 x0)) C hw g1 (by decide) (Cn := RX12) (T := TX12) (N := 50) rfl in_X12_hungerBy_X12 48 (by decide) (by decide +kernel) (fun _ h => h) rfl dX12_hungerBy_88 ?_
        obtain ⟨b17, e16, h⟩ := boE h
        refine r_topr e16 ?_
        refine lv_iload C.1 C.2.1 dX12_hungerBy_91 (lv_at hl 5 rfl) ?_
        obtain ⟨g18, h⟩ := gdE h
        obtain ⟨i19, h⟩ := gdE h
        refine r_iald C hw g18 i19 dX12_hungerBy_93 ?_
        refine lv_iadd C.1 C.2.1 dX12_hungerBy_94 ?_
        exact tX12_hungerBy_95 C hP18 hP42 h hF hw (lv_sub hl [0, 1, 2, 4, 5] rfl)
      · replace h := brF h c15
        refine lv_ldc (v := (100000000 : Int32)) C.1 C.2.1 C.2.2.2.2.1 (C.2.2.2.2.2.1 (.constant RX12 149 (100000000 : Int32)) (by decide +kernel)) dX12_hungerBy_80 ?_
        refine lv_goto (tgt := 95) C.1 C.2.1 dX12_hungerBy_82 (by decide) ?_
        exact tX12_hungerBy_95 C hP18 hP42 h hF hw (lv_sub hl [0, 1, 2, 4, 5] rfl)
set_option maxHeartbeats 4000000 in
set_option maxRecDepth 100000 in
theorem lX12_hungerBy_42 {n0 : Nat} {D : va_G} {Y : Nat → ClassId} {p : Program} {l : Launch} {e : Env} {s : State} {m : MethodId} {args : Array Value} {below : List Frame} {meth : Method} {c : Code} {N : Nat} {fin : Int32} {x0 : Nat} {x2 : Int32} {x3 : Int32} {x5 : Int32} {z : Hp} (C : Cx n0 D Y RX12 cX12_hungerBy (some .int) 7 wsX12_hungerBy "hungerBy" p s m args meth c) {P18 : Int32 × Int32 → Prop} (hP18 : ∀ u, P18 u → ∀ (H : Heap) (locs : List Loc) (ls : Array Slot), Wd n0 D Y z s H locs → lv_has ls 7 [(0, .ref (n0 + x0)), (2, .int x2), (3, .int x3), (4, .int u.1), (5, .int u.2)] → W p l e rmX12_hungerBy s m args below meth c H locs 0 0 (MQ below (PosI n0 D Y z fin) args s 0 0 (AA n0)) (F0 m 18 ls [])) {x : ((Int32 × Int32) ⊕ (Int32))} : ∀ (n : Nat) (u : Int32 × Int32), wh (fun (u : Int32 × Int32) => fX12_hungerBy_42 N x0 x2 x3 u.1 x5 u.2 z) n u = some x → (Fn P18 (fun x => x = fin)) x → ∀ (H : Heap) (locs : List Loc) (ls : Array Slot), Wd n0 D Y z s H locs → lv_has ls 7 [(0, .ref (n0 + x0)), (2, .int x2), (3, .int x3), (4, .int u.1), (5, .int x5), (6, .int u.2)] → W p l e rmX12_hungerBy s m args below meth c H locs 0 0 (MQ below (PosI n0 D Y z fin) args s 0 0 (AA n0)) (F0 m 42 ls []) := fun n u h g => wh_ind (P := fun u => ∀ (H : Heap) (locs : List Loc) (ls : Array Slot), Wd n0 D Y z s H locs → lv_has ls 7 [(0, .ref (n0 + x0)), (2, .int x2), (3, .int x3), (4, .int u.1), (5, .int x5), (6, .int u.2)] → W p l e rmX12_hungerBy s m args below meth c H locs 0 0 (MQ below (PosI n0 D Y z fin) args s 0 0 (AA n0)) (F0 m 42 ls [])) (G := (Fn P18 (fun x => x = fin))) (fun u x h hF H locs ls hw hl => tX12_hungerBy_42 C hP18 (P42 := fun u => ∀ (H : Heap) (locs : List Loc) (ls : Array Slot), Wd n0 D Y z s H locs → lv_has ls 7 [(0, .ref (n0 + x0)), (2, .int x2), (3, .int x3), (4, .int u.1), (5, .int x5), (6, .int u.2)] → W p l e rmX12_hungerBy s m args below meth c H locs 0 0 (MQ below (PosI n0 D Y z fin) args s 0 0 (AA n0)) (F0 m 42 ls [])) (fun _ h => h) h hF hw hl) n u x h g
noncomputable def fX12_hungerBy_18 (N : Nat) (x0 : Nat) (x2 : Int32) (x3 : Int32) (x4 : Int32) (x5 : Int32) (z : Hp) : Option ((Int32 × Int32) ⊕ (Int32)) := br (x2 < x5) (lf <| some (-6 : Int32)) (br (x3 ≤ x4) (bd (x4 - x3) fun v4 => wh (fun (u : Int32 × Int32) => fX12_hungerBy_42 N x0 x2 x3 u.1 x5 u.2 z) N (v4, (0 : Int32))) (lf <| some x5))
set_option maxHeartbeats 4000000 in
set_option maxRecDepth 100000 in
theorem tX12_hungerBy_18 {n0 : Nat} {D : va_G} {Y : Nat → ClassId} {p : Program} {l : Launch} {e : Env} {s : State} {m : MethodId} {args : Array Value} {below : List Frame} {meth : Method} {c : Code} {N : Nat} {fin : Int32} {x0 : Nat} {x2 : Int32} {x3 : Int32} {x4 : Int32} {x5 : Int32}  {z : Hp} (C : Cx n0 D Y RX12 cX12_hungerBy (some .int) 7 wsX12_hungerBy "hungerBy" p s m args meth c) {P18 : Int32 × Int32 → Prop} (hP18 : ∀ u, P18 u → ∀ (H : Heap) (locs : List Loc) (ls : Array Slot), Wd n0 D Y z s H locs → lv_has ls 7 [(0, .ref (n0 + x0)), (2, .int x2), (3, .int x3), (4, .int u.1), (5, .int u.2)] → W p l e rmX12_hungerBy s m args below meth c H locs 0 0 (MQ below (PosI n0 D Y z fin) args s 0 0 (AA n0)) (F0 m 18 ls [])) {x : ((Int32 × Int32) ⊕ (Int32))} (h : fX12_hungerBy_18 N x0 x2 x3 x4 x5  z = some x) (hF : (Fn P18 (fun x => x = fin)) x) {H : Heap} {locs : List Loc} {ls : Array Slot} (hw : Wd n0 D Y z s H locs) (hl : lv_has ls 7 [(0, .ref (n0 + x0)), (2, .int x2), (3, .int x3), (4, .int x4), (5, .int x5)]) : W p l e rmX12_hungerBy s m args below meth c H locs 0 0 (MQ below (PosI n0 D Y z fin) args s 0 0 (AA n0)) (F0 m 18 ls []) := by
  unfold fX12_hungerBy_18 at h
  refine lv_iload C.1 C.2.1 dX12_hungerBy_18 (lv_at hl 4 rfl) ?_
  refine lv_iload_n C.1 C.2.1 dX12_hungerBy_20 rfl (lv_at hl 1 rfl) ?_
  refine lv_icmp_gt (tgt := 109) C.1 C.2.1 dX12_hungerBy_21 (by decide) (fun c1 => ?_) (fun c1 => ?_)
  · replace h := brT h c1
    obtain ⟨y2, h, hF⟩ := lfX h hF
    refine lv_bipush (v := (-6 : Int32)) C.1 C.2.1 dX12_hungerBy_109 (by decide) ?_
    cases h
    replace hF : _ = fin := hF
    subst hF
    exact r_iret C hw dX12_hungerBy_111
  · replace h := brF h c1
    refine lv_iload C.1 C.2.1 dX12_hungerBy_24 (lv_at hl 3 rfl) ?_
    refine lv_iload_n C.1 C.2.1 dX12_hungerBy_26 rfl (lv_at hl 2 rfl) ?_
    refine lv_icmp_ge (tgt := 33) C.1 C.2.1 dX12_hungerBy_27 (by decide) (fun c3 => ?_) (fun c3 => ?_)
    · replace h := brT h c3
      refine lv_iload C.1 C.2.1 dX12_hungerBy_33 (lv_at hl 3 rfl) ?_
      refine lv_iload_n C.1 C.2.1 dX12_hungerBy_35 rfl (lv_at hl 2 rfl) ?_
      refine lv_isub C.1 C.2.1 dX12_hungerBy_36 ?_
      obtain ⟨v4, e5, h⟩ := bdE h
      refine r_topi e5 ?_
      refine lv_istore (i := 4) (lv' := [(4, .int v4), (0, .ref (n0 + x0)), (2, .int x2), (3, .int x3), (5, .int x5)]) C.1 C.2.1 dX12_hungerBy_37 hl (by decide) rfl (fun ls hl => ?_)
      refine lv_iconst (v := (0 : Int32)) C.1 C.2.1 dX12_hungerBy_39 (by decide) ?_
      refine lv_istore (i := 6) (lv' := [(6, .int (0 : Int32)), (4, .int v4), (0, .ref (n0 + x0)), (2, .int x2), (3, .int x3), (5, .int x5)]) C.1 C.2.1 dX12_hungerBy_40 hl (by decide) rfl (fun ls hl => ?_)
      exact lX12_hungerBy_42 C hP18 _ _ h hF _ _ _ hw (lv_sub hl [2, 3, 4, 1, 5, 0] rfl)
    · replace h := brF h c3
      refine lv_iload C.1 C.2.1 dX12_hungerBy_30 (lv_at hl 4 rfl) ?_
      obtain ⟨y6, h, hF⟩ := lfX h hF
      cases h
      replace hF : _ = fin := hF
      subst hF
      exact r_iret C hw dX12_hungerBy_32
set_option maxHeartbeats 4000000 in
set_option maxRecDepth 100000 in
theorem lX12_hungerBy_18 {n0 : Nat} {D : va_G} {Y : Nat → ClassId} {p : Program} {l : Launch} {e : Env} {s : State} {m : MethodId} {args : Array Value} {below : List Frame} {meth : Method} {c : Code} {N : Nat} {fin : Int32} {x0 : Nat} {x2 : Int32} {x3 : Int32} {z : Hp} (C : Cx n0 D Y RX12 cX12_hungerBy (some .int) 7 wsX12_hungerBy "hungerBy" p s m args meth c) {x : (Int32)} : ∀ (n : Nat) (u : Int32 × Int32), wh (fun (u : Int32 × Int32) => fX12_hungerBy_18 N x0 x2 x3 u.1 u.2 z) n u = some x → (fun x => x = fin) x → ∀ (H : Heap) (locs : List Loc) (ls : Array Slot), Wd n0 D Y z s H locs → lv_has ls 7 [(0, .ref (n0 + x0)), (2, .int x2), (3, .int x3), (4, .int u.1), (5, .int u.2)] → W p l e rmX12_hungerBy s m args below meth c H locs 0 0 (MQ below (PosI n0 D Y z fin) args s 0 0 (AA n0)) (F0 m 18 ls []) := fun n u h g => wh_ind (P := fun u => ∀ (H : Heap) (locs : List Loc) (ls : Array Slot), Wd n0 D Y z s H locs → lv_has ls 7 [(0, .ref (n0 + x0)), (2, .int x2), (3, .int x3), (4, .int u.1), (5, .int u.2)] → W p l e rmX12_hungerBy s m args below meth c H locs 0 0 (MQ below (PosI n0 D Y z fin) args s 0 0 (AA n0)) (F0 m 18 ls [])) (G := (fun x => x = fin)) (fun u x h hF H locs ls hw hl => tX12_hungerBy_18 C (P18 := fun u => ∀ (H : Heap) (locs : List Loc) (ls : Array Slot), Wd n0 D Y z s H locs → lv_has ls 7 [(0, .ref (n0 + x0)), (2, .int x2), (3, .int x3), (4, .int u.1), (5, .int u.2)] → W p l e rmX12_hungerBy s m args below meth c H locs 0 0 (MQ below (PosI n0 D Y z fin) args s 0 0 (AA n0)) (F0 m 18 ls [])) (fun _ h => h) h hF hw hl) n u x h g
noncomputable def fX12_hungerBy (N : Nat) (x0 : Nat) (x1 : Int32) (x2 : Int32) (z : Hp) : Option (Int32) := gd (x0 < zn z ∧ zK z x0 = 11) <| bo (fX12_needOf N x0 x1 z) fun r2 => bd (zF z 746 x0) fun v4 => bd (zF z 704 x0) fun v6 => wh (fun (u : Int32 × Int32) => fX12_hungerBy_18 N x0 x2 r2 u.1 u.2 z) N (v4, v6)
set_option maxHeartbeats 4000000 in
set_option maxRecDepth 100000 in
theorem tX12_hungerBy_0 {n0 : Nat} {D : va_G} {Y : Nat → ClassId} {p : Program} {l : Launch} {e : Env} {s : State} {m : MethodId} {args : Array Value} {below : List Frame} {meth : Method} {c : Code} {N : Nat} {fin : Int32} {x0 : Nat} {x1 : Int32} {x2 : Int32}  {z : Hp} (C : Cx n0 D Y RX12 cX12_hungerBy (some .int) 7 wsX12_hungerBy "hungerBy" p s m args meth c) {x : (Int32)} (h : fX12_hungerBy N x0 x1 x2  z = some x) (hF : (fun x => x = fin) x) {H : Heap} {locs : List Loc} {ls : Array Slot} (hw : Wd n0 D Y z s H locs) (hl : lv_has ls 7 [(0, .ref (n0 + x0)), (1, .int x1), (2, .int x2)]) : W p l e rmX12_hungerBy s m args below meth c H locs 0 0 (MQ below (PosI n0 D Y z fin) args s 0 0 (AA n0)) (F0 m 0 ls []) := by
  unfold fX12_hungerBy at h
  refine lv_aload_n C.1 C.2.1 dX12_hungerBy_0 rfl (lv_at hl 0 rfl) ?_
  refine lv_iload_n C.1 C.2.1 dX12_hungerBy_1 rfl (lv_at hl 1 rfl) ?_
  obtain ⟨g3, h⟩ := gdE h
  obtain ⟨r2, e1, h⟩ := boE h
  refine r_afti hw (r_runV (As := [.int x1]) (rest := []) C hw (ki := 11) g3 (by decide) rfl (kX12_needOf l n0 D Y N x0 x1 z e1) (cwV 1 C.2.2.2.2.2.1 gX12_hungerBy_X12_needOf rfl rfl rfl (by decide +kernel) ⟨(Nat.le_of_ble_eq_true rfl), (Nat.le_of_ble_eq_true rfl)⟩) rfl hl.1 rfl (Nat.le_of_ble_eq_true rfl) dX12_hungerBy_2 ⟨(Nat.le_of_ble_eq_true rfl), (Nat.le_of_ble_eq_true rfl)⟩) (fun H locs hw => ?_)
  refine lv_istore_n (i := 3) (lv' := [(3, .int r2), (0, .ref (n0 + x0)), (1, .int x1), (2, .int x2)]) C.1 C.2.1 dX12_hungerBy_5 rfl hl (by decide) rfl (fun ls hl => ?_)
  refine lv_aload_n C.1 C.2.1 dX12_hungerBy_6 rfl (lv_at hl 1 rfl) ?_
  refine r_get (v := .int (zF z 746 x0)) C hw g3 (by decide) (Cn := RX12) (T := TX12) (N := 50) rfl in_X12_hungerBy_X12 42 (by decide) (by decide +kernel) (fun _ h => h) rfl dX12_hungerBy_7 ?_
  obtain ⟨v4, e5, h⟩ := bdE h
  refine r_topi e5 ?_
  refine lv_istore (i := 4) (lv' := [(4, .int v4), (3, .int r2), (0, .ref (n0 + x0)), (1, .int x1), (2, .int x2)]) C.1 C.2.1 dX12_hungerBy_10 hl (by decide) rfl (fun ls hl => ?_)
  refine lv_aload_n C.1 C.2.1 dX12_hungerBy_12 rfl (lv_at hl 2 rfl) ?_
  refine r_get (v := .int (zF z 704 x0)) C hw g3 (by decide) (Cn := RX12) (T := TX12) (N := 50) rfl in_X12_hungerBy_X12 0 (by decide) (by decide +kernel) (fun _ h => h) rfl dX12_hungerBy_13 ?_
  obtain ⟨v6, e7, h⟩ := bdE h
  refine r_topi e7 ?_
  refine lv_istore (i := 5) (lv' := [(5, .int v6), (4, .int v4), (3, .int r2), (0, .ref (n0 + x0)), (1, .int x1), (2, .int x2)]) C.1 C.2.1 dX12_hungerBy_16 hl (by decide) rfl (fun ls hl => ?_)
  exact lX12_hungerBy_18 C _ _ h hF _ _ _ hw (lv_sub hl [3, 5, 2, 1, 0] rfl)
set_option maxRecDepth 100000 in
theorem kX12_hungerBy (l : Launch) (n0 : Nat) (D : va_G) (Y : Nat → ClassId) (N : Nat) (x0 : Nat) (x1 : Int32) (x2 : Int32) (z : Hp) {r : Int32} (h : fX12_hungerBy N x0 x1 x2 z = some r) : Met l yX12_hungerBy wsX12_hungerBy rmX12_hungerBy (PreC n0 D Y z [.ref (n0 + x0), .int x1, .int x2]) (PosI n0 D Y z r) 0 0 (AA n0) := by
  refine Met.ofW (cc := cX12_hungerBy) (maxL := 7) (ret := (some .int)) (by decide) rfl ?_
  intro p e s m args below meth c s₁ B hml hv
  obtain ⟨rfl, hR, hK⟩ := hv
  have C : Cx n0 D Y RX12 cX12_hungerBy (some .int) 7 wsX12_hungerBy "hungerBy" p s m ([.ref (n0 + x0), .int x1, .int x2] : List Value).toArray meth c := ⟨B.exec, B.bytes, B.returns, hml, findClass_of_methodNamed B.named, atoms_spec (ws := wsX12_hungerBy) B.pre, B.notSynchronized, (name_of_methodNamed B.named B.method).1, hK⟩
  have hl := lv_entry ([.ref (n0 + x0), .int x1, .int x2]) (n := 7) (Nat.le_of_ble_eq_true rfl)
  rw [lg_entry_eq]
  generalize (lg_sl ([.ref (n0 + x0), .int x1, .int x2]) ++ List.replicate (7 - (lg_sl ([.ref (n0 + x0), .int x1, .int x2])).length) Slot.unset).toArray = ls at hl ⊢
  have hl : lv_has ls 7 [(0, .ref (n0 + x0)), (1, .int x1), (2, .int x2)] := hl
  exact tX12_hungerBy_0 C h rfl ⟨hR, va_S.rf⟩ hl
abbrev rmX12_foretell : Room := { frames := 2, cells := 0, slots := 0, locals := 47 }
noncomputable def fX12_foretell (N : Nat) (x0 : Nat) (x1 : Int32) (z : Hp) : Option (Int32) := bo (fX12_in N (Int32.toInt64 x1) (1 : Int64) (100 : Int64) z) fun r2 => br (r2 = 0) (some (-2 : Int32)) (gd (x0 < zn z ∧ zK z x0 = 11) <| bo (fX12_hungerBy N x0 x1 (199 : Int32) z) fun r5 => some r5)
set_option maxHeartbeats 4000000 in
set_option maxRecDepth 100000 in
theorem tX12_foretell_0 {n0 : Nat} {D : va_G} {Y : Nat → ClassId} {p : Program} {l : Launch} {e : Env} {s : State} {m : MethodId} {args : Array Value} {below : List Frame} {meth : Method} {c : Code} {N : Nat} {fin : Int32} {x0 : Nat} {x1 : Int32}  {z : Hp} (C : Cx n0 D Y RX12 cX12_foretell (some .int) 2 wsX12_foretell "foretell" p s m args meth c) {x : (Int32)} (h : fX12_foretell N x0 x1  z = some x) (hF : (fun x => x = fin) x) {H : Heap} {locs : List Loc} {ls : Array Slot} (hw : Wd n0 D Y z s H locs) (hl : lv_has ls 2 [(0, .ref (n0 + x0)), (1, .int x1)]) : W p l e rmX12_foretell s m args below meth c H locs 0 0 (MQ below (PosI n0 D Y z fin) args s 0 0 (AA n0)) (F0 m 0 ls []) := by
  unfold fX12_foretell at h
  refine lv_iload_n C.1 C.2.1 dX12_foretell_0 rfl (lv_at hl 1 rfl) ?_
  refine lv_i2l C.1 C.2.1 dX12_foretell_1 rfl ?_
  refine lv_lconst (v := (1 : Int64)) C.1 C.2.1 dX12_foretell_2 (by decide) ?_
  refine lv_ldc2 (v := (100 : Int64)) C.1 C.2.1 C.2.2.2.2.1 (C.2.2.2.2.2.1 (.constantLong RX12 182 (100 : Int64)) (by decide +kernel)) dX12_foretell_3 ?_
  obtain ⟨r2, e1, h⟩ := boE h
  refine r_afti hw (r_runS (As := [.long (Int32.toInt64 x1), .long (1 : Int64), .long (100 : Int64)]) (rest := []) C hw (kX12_in l n0 D Y N (Int32.toInt64 x1) (1 : Int64) (100 : Int64) z e1) (va_cwS 3 C.2.2.2.2.2.1 gX12_foretell_X12_in rfl rfl rfl (by decide +kernel) ⟨(Nat.le_of_ble_eq_true rfl), (Nat.le_of_ble_eq_true rfl)⟩) rfl hl.1 rfl (Nat.le_of_ble_eq_true rfl) dX12_foretell_6 ⟨(Nat.le_of_ble_eq_true rfl), (Nat.le_of_ble_eq_true rfl)⟩) (fun H locs hw => ?_)
  refine lv_if_eq (tgt := 23) C.1 C.2.1 dX12_foretell_9 (by decide) (fun c3 => ?_) (fun c3 => ?_)
  · replace h := brT h c3
    refine lv_bipush (v := (-2 : Int32)) C.1 C.2.1 dX12_foretell_23 (by decide) ?_
    cases h
    replace hF : _ = fin := hF
    subst hF
    exact r_iret C hw dX12_foretell_25
  · replace h := brF h c3
    refine lv_aload_n C.1 C.2.1 dX12_foretell_12 rfl (lv_at hl 0 rfl) ?_
    refine lv_iload_n C.1 C.2.1 dX12_foretell_13 rfl (lv_at hl 1 rfl) ?_
    refine lv_sipush (v := (199 : Int32)) C.1 C.2.1 dX12_foretell_14 (by decide) ?_
    obtain ⟨g6, h⟩ := gdE h
    obtain ⟨r5, e4, h⟩ := boE h
    refine r_afti hw (r_runV (As := [.int x1, .int (199 : Int32)]) (rest := []) C hw (ki := 11) g6 (by decide) rfl (kX12_hungerBy l n0 D Y N x0 x1 (199 : Int32) z e4) (cwV 2 C.2.2.2.2.2.1 gX12_foretell_X12_hungerBy rfl rfl rfl (by decide +kernel) ⟨(Nat.le_of_ble_eq_true rfl), (Nat.le_of_ble_eq_true rfl)⟩) rfl hl.1 rfl (Nat.le_of_ble_eq_true rfl) dX12_foretell_17 ⟨(Nat.le_of_ble_eq_true rfl), (Nat.le_of_ble_eq_true rfl)⟩) (fun H locs hw => ?_)
    refine lv_goto (tgt := 25) C.1 C.2.1 dX12_foretell_20 (by decide) ?_
    cases h
    replace hF : _ = fin := hF
    subst hF
    exact r_iret C hw dX12_foretell_25
set_option maxRecDepth 100000 in
theorem kX12_foretell (l : Launch) (n0 : Nat) (D : va_G) (Y : Nat → ClassId) (N : Nat) (x0 : Nat) (x1 : Int32) (z : Hp) {r : Int32} (h : fX12_foretell N x0 x1 z = some r) : Met l yX12_foretell wsX12_foretell rmX12_foretell (PreC n0 D Y z [.ref (n0 + x0), .int x1]) (PosI n0 D Y z r) 0 0 (AA n0) := by
  refine Met.ofW (cc := cX12_foretell) (maxL := 2) (ret := (some .int)) (by decide) rfl ?_
  intro p e s m args below meth c s₁ B hml hv
  obtain ⟨rfl, hR, hK⟩ := hv
  have C : Cx n0 D Y RX12 cX12_foretell (some .int) 2 wsX12_foretell "foretell" p s m ([.ref (n0 + x0), .int x1] : List Value).toArray meth c := ⟨B.exec, B.bytes, B.returns, hml, findClass_of_methodNamed B.named, atoms_spec (ws := wsX12_foretell) B.pre, B.notSynchronized, (name_of_methodNamed B.named B.method).1, hK⟩
  have hl := lv_entry ([.ref (n0 + x0), .int x1]) (n := 2) (Nat.le_of_ble_eq_true rfl)
  rw [lg_entry_eq]
  generalize (lg_sl ([.ref (n0 + x0), .int x1]) ++ List.replicate (2 - (lg_sl ([.ref (n0 + x0), .int x1])).length) Slot.unset).toArray = ls at hl ⊢
  have hl : lv_has ls 2 [(0, .ref (n0 + x0)), (1, .int x1)] := hl
  exact tX12_foretell_0 C h rfl ⟨hR, va_S.rf⟩ hl
theorem in_X12_order_X12 : ∀ w ∈ wsX120, w ∈ wsX12_order := by decide +kernel
abbrev rmX12_order : Room := { frames := 2, cells := 0, slots := 0, locals := 47 }
noncomputable def fX12_order_22 (N : Nat) (x0 : Nat) (x1 : Int32) (x2 : Int32) (z : Hp) : Option ((Int32) ⊕ (Int32)) := br (x2 ≤ 0) (lf <| some (-6 : Int32)) (gd (x0 < zn z ∧ zK z x0 = 11) <| bo (fX12_hungerBy N x0 x2 x1 z) fun r4 => br (r4 = (-6 : Int32)) (lf <| some x2) (bd (x2 + (-1 : Int32)) fun v7 => some (.inl (v7))))
set_option maxHeartbeats 4000000 in
set_option maxRecDepth 100000 in
theorem tX12_order_22 {n0 : Nat} {D : va_G} {Y : Nat → ClassId} {p : Program} {l : Launch} {e : Env} {s : State} {m : MethodId} {args : Array Value} {below : List Frame} {meth : Method} {c : Code} {N : Nat} {fin : Int32} {x0 : Nat} {x1 : Int32} {x2 : Int32}  {z : Hp} (C : Cx n0 D Y RX12 cX12_order (some .int) 3 wsX12_order "order" p s m args meth c) {P22 : Int32 → Prop} (hP22 : ∀ u, P22 u → ∀ (H : Heap) (locs : List Loc) (ls : Array Slot), Wd n0 D Y z s H locs → lv_has ls 3 [(0, .ref (n0 + x0)), (1, .int x1), (2, .int u)] → W p l e rmX12_order s m args below meth c H locs 0 0 (MQ below (PosI n0 D Y z fin) args s 0 0 (AA n0)) (F0 m 22 ls [])) {x : ((Int32) ⊕ (Int32))} (h : fX12_order_22 N x0 x1 x2  z = some x) (hF : (Fn P22 (fun x => x = fin)) x) {H : Heap} {locs : List Loc} {ls : Array Slot} (hw : Wd n0 D Y z s H locs) (hl : lv_has ls 3 [(0, .ref (n0 + x0)), (1, .int x1), (2, .int x2)]) : W p l e rmX12_order s m args below meth c H locs 0 0 (MQ below (PosI n0 D Y z fin) args s 0 0 (AA n0)) (F0 m 22 ls []) := by
  unfold fX12_order_22 at h
  refine lv_iload_n C.1 C.2.1 dX12_order_22 rfl (lv_at hl 2 rfl) ?_
  refine lv_if_le (tgt := 45) C.1 C.2.1 dX12_order_23 (by decide) (fun c1 => ?_) (fun c1 => ?_)
  · replace h := brT h c1
    obtain ⟨y2, h, hF⟩ := lfX h hF
    refine lv_bipush (v := (-6 : Int32)) C.1 C.2.1 dX12_order_45 (by decide) ?_
    cases h
    replace hF : _ = fin := hF
    subst hF
    exact r_iret C hw dX12_order_47
  · replace h := brF h c1
    refine lv_aload_n C.1 C.2.1 dX12_order_26 rfl (lv_at hl 0 rfl) ?_
    refine lv_iload_n C.1 C.2.1 dX12_order_27 rfl (lv_at hl 2 rfl) ?_
    refine lv_iload_n C.1 C.2.1 dX12_order_28 rfl (lv_at hl 1 rfl) ?_
    obtain ⟨g5, h⟩ := gdE h
    obtain ⟨r4, e3, h⟩ := boE h
    refine r_afti hw (r_runV (As := [.int x2, .int x1]) (rest := []) C hw (ki := 11) g5 (by decide) rfl (kX12_hungerBy l n0 D Y N x0 x2 x1 z e3) (cwV 2 C.2.2.2.2.2.1 gX12_order_X12_hungerBy rfl rfl rfl (by decide +kernel) ⟨(Nat.le_of_ble_eq_true rfl), (Nat.le_of_ble_eq_true rfl)⟩) rfl hl.1 rfl (Nat.le_of_ble_eq_true rfl) dX12_order_29 ⟨(Nat.le_of_ble_eq_true rfl), (Nat.le_of_ble_eq_true rfl)⟩) (fun H locs hw => ?_)
    refine lv_bipush (v := (-6 : Int32)) C.1 C.2.1 dX12_order_32 (by decide) ?_
    refine lv_icmp_ne (tgt := 39) C.1 C.2.1 dX12_order_34 (by decide) (fun c6 => ?_) (fun c6 => ?_)
    · replace h := brF h c6
      obtain ⟨v7, e8, h⟩ := bdE h
      refine lv_iinc (v := v7) (lv' := [(2, .int v7), (0, .ref (n0 + x0)), (1, .int x1)]) C.1 C.2.1 dX12_order_39 hl (k := 2) rfl (by rw [e8]; rfl) (by decide) rfl (fun ls hl => ?_)
      refine lv_goto (tgt := 22) C.1 C.2.1 dX12_order_42 (by decide) ?_
      cases h
      exact hP22 _ hF _ _ _ hw (lv_sub hl [1, 2, 0] rfl)
    · replace h := brT h c6
      refine lv_iload_n C.1 C.2.1 dX12_order_37 rfl (lv_at hl 2 rfl) ?_
      obtain ⟨y9, h, hF⟩ := lfX h hF
      cases h
      replace hF : _ = fin := hF
      subst hF
      exact r_iret C hw dX12_order_38
set_option maxHeartbeats 4000000 in
set_option maxRecDepth 100000 in
theorem lX12_order_22 {n0 : Nat} {D : va_G} {Y : Nat → ClassId} {p : Program} {l : Launch} {e : Env} {s : State} {m : MethodId} {args : Array Value} {below : List Frame} {meth : Method} {c : Code} {N : Nat} {fin : Int32} {x0 : Nat} {x1 : Int32} {z : Hp} (C : Cx n0 D Y RX12 cX12_order (some .int) 3 wsX12_order "order" p s m args meth c) {x : (Int32)} : ∀ (n : Nat) (u : Int32), wh (fun (u : Int32) => fX12_order_22 N x0 x1 u z) n u = some x → (fun x => x = fin) x → ∀ (H : Heap) (locs : List Loc) (ls : Array Slot), Wd n0 D Y z s H locs → lv_has ls 3 [(0, .ref (n0 + x0)), (1, .int x1), (2, .int u)] → W p l e rmX12_order s m args below meth c H locs 0 0 (MQ below (PosI n0 D Y z fin) args s 0 0 (AA n0)) (F0 m 22 ls []) := fun n u h g => wh_ind (P := fun u => ∀ (H : Heap) (locs : List Loc) (ls : Array Slot), Wd n0 D Y z s H locs → lv_has ls 3 [(0, .ref (n0 + x0)), (1, .int x1), (2, .int u)] → W p l e rmX12_order s m args below meth c H locs 0 0 (MQ below (PosI n0 D Y z fin) args s 0 0 (AA n0)) (F0 m 22 ls [])) (G := (fun x => x = fin)) (fun u x h hF H locs ls hw hl => tX12_order_22 C (P22 := fun u => ∀ (H : Heap) (locs : List Loc) (ls : Array Slot), Wd n0 D Y z s H locs → lv_has ls 3 [(0, .ref (n0 + x0)), (1, .int x1), (2, .int u)] → W p l e rmX12_order s m args below meth c H locs 0 0 (MQ below (PosI n0 D Y z fin) args s 0 0 (AA n0)) (F0 m 22 ls [])) (fun _ h => h) h hF hw hl) n u x h g
noncomputable def fX12_order (N : Nat) (x0 : Nat) (x1 : Int32) (z : Hp) : Option (Int32) := gd (x0 < zn z ∧ zK z x0 = 11) <| bo (fX12_in N (Int32.toInt64 x1) (Int32.toInt64 (zF z 704 x0)) (199 : Int64) z) fun r3 => br (r3 = 0) (some (-2 : Int32)) (wh (fun (u : Int32) => fX12_order_22 N x0 x1 u z) N ((100 : Int32)))
set_option maxHeartbeats 4000000 in
set_option maxRecDepth 100000 in
theorem tX12_order_0 {n0 : Nat} {D : va_G} {Y : Nat → ClassId} {p : Program} {l : Launch} {e : Env} {s : State} {m : MethodId} {args : Array Value} {below : List Frame} {meth : Method} {c : Code} {N : Nat} {fin : Int32} {x0 : Nat} {x1 : Int32}  {z : Hp} (C : Cx n0 D Y RX12 cX12_order (some .int) 3 wsX12_order "order" p s m args meth c) {x : (Int32)} (h : fX12_order N x0 x1  z = some x) (hF : (fun x => x = fin) x) {H : Heap} {locs : List Loc} {ls : Array Slot} (hw : Wd n0 D Y z s H locs) (hl : lv_has ls 3 [(0, .ref (n0 + x0)), (1, .int x1)]) : W p l e rmX12_order s m args below meth c H locs 0 0 (MQ below (PosI n0 D Y z fin) args s 0 0 (AA n0)) (F0 m 0 ls []) := by
  unfold fX12_order at h
  refine lv_iload_n C.1 C.2.1 dX12_order_0 rfl (lv_at hl 1 rfl) ?_
  refine lv_i2l C.1 C.2.1 dX12_order_1 rfl ?_
  refine lv_aload_n C.1 C.2.1 dX12_order_2 rfl (lv_at hl 0 rfl) ?_
  obtain ⟨g1, h⟩ := gdE h
  refine r_get (v := .int (zF z 704 x0)) C hw g1 (by decide) (Cn := RX12) (T := TX12) (N := 50) rfl in_X12_order_X12 0 (by decide) (by decide +kernel) (fun _ h => h) rfl dX12_order_3 ?_
  refine lv_i2l C.1 C.2.1 dX12_order_6 rfl ?_
  refine lv_ldc2 (v := (199 : Int64)) C.1 C.2.1 C.2.2.2.2.1 (C.2.2.2.2.2.1 (.constantLong RX12 189 (199 : Int64)) (by decide +kernel)) dX12_order_7 ?_
  obtain ⟨r3, e2, h⟩ := boE h
  refine r_afti hw (r_runS (As := [.long (Int32.toInt64 x1), .long (Int32.toInt64 (zF z 704 x0)), .long (199 : Int64)]) (rest := []) C hw (kX12_in l n0 D Y N (Int32.toInt64 x1) (Int32.toInt64 (zF z 704 x0)) (199 : Int64) z e2) (va_cwS 3 C.2.2.2.2.2.1 gX12_order_X12_in rfl rfl rfl (by decide +kernel) ⟨(Nat.le_of_ble_eq_true rfl), (Nat.le_of_ble_eq_true rfl)⟩) rfl hl.1 rfl (Nat.le_of_ble_eq_true rfl) dX12_order_10 ⟨(Nat.le_of_ble_eq_true rfl), (Nat.le_of_ble_eq_true rfl)⟩) (fun H locs hw => ?_)
  refine lv_if_ne (tgt := 19) C.1 C.2.1 dX12_order_13 (by decide) (fun c4 => ?_) (fun c4 => ?_)
  · replace h := brF h c4
    refine lv_bipush (v := (100 : Int32)) C.1 C.2.1 dX12_order_19 (by decide) ?_
    refine lv_istore_n (i := 2) (lv' := [(2, .int (100 : Int32)), (0, .ref (n0 + x0)), (1, .int x1)]) C.1 C.2.1 dX12_order_21 rfl hl (by decide) rfl (fun ls hl => ?_)
    exact lX12_order_22 C _ _ h hF _ _ _ hw (lv_sub hl [1, 2, 0] rfl)
  · replace h := brT h c4
    refine lv_bipush (v := (-2 : Int32)) C.1 C.2.1 dX12_order_16 (by decide) ?_
    cases h
    replace hF : _ = fin := hF
    subst hF
    exact r_iret C hw dX12_order_18
set_option maxRecDepth 100000 in
theorem kX12_order (l : Launch) (n0 : Nat) (D : va_G) (Y : Nat → ClassId) (N : Nat) (x0 : Nat) (x1 : Int32) (z : Hp) {r : Int32} (h : fX12_order N x0 x1 z = some r) : Met l yX12_order wsX12_order rmX12_order (PreC n0 D Y z [.ref (n0 + x0), .int x1]) (PosI n0 D Y z r) 0 0 (AA n0) := by
  refine Met.ofW (cc := cX12_order) (maxL := 3) (ret := (some .int)) (by decide) rfl ?_
  intro p e s m args below meth c s₁ B hml hv
  obtain ⟨rfl, hR, hK⟩ := hv
  have C : Cx n0 D Y RX12 cX12_order (some .int) 3 wsX12_order "order" p s m ([.ref (n0 + x0), .int x1] : List Value).toArray meth c := ⟨B.exec, B.bytes, B.returns, hml, findClass_of_methodNamed B.named, atoms_spec (ws := wsX12_order) B.pre, B.notSynchronized, (name_of_methodNamed B.named B.method).1, hK⟩
  have hl := lv_entry ([.ref (n0 + x0), .int x1]) (n := 3) (Nat.le_of_ble_eq_true rfl)
  rw [lg_entry_eq]
  generalize (lg_sl ([.ref (n0 + x0), .int x1]) ++ List.replicate (3 - (lg_sl ([.ref (n0 + x0), .int x1])).length) Slot.unset).toArray = ls at hl ⊢
  have hl : lv_has ls 3 [(0, .ref (n0 + x0)), (1, .int x1)] := hl
  exact tX12_order_0 C h rfl ⟨hR, va_S.rf⟩ hl
theorem in_X12_told_X12 : ∀ w ∈ wsX120, w ∈ wsX12_told := by decide +kernel
abbrev rmX12_told : Room := { frames := 0, cells := 0, slots := 0, locals := 0 }
noncomputable def fX12_told (N : Nat) (x0 : Nat) (x1 : Int32) (z : Hp) : Option (Int32) := br (x1 = (0 : Int32)) (gd (x0 < zn z ∧ zK z x0 = 11) <| some (zF z 704 x0)) <| br (x1 = (1 : Int32)) (gd (x0 < zn z ∧ zK z x0 = 11) <| some (zF z 705 x0)) <| br (x1 = (2 : Int32)) (gd (x0 < zn z ∧ zK z x0 = 11) <| some (zF z 706 x0)) <| br (x1 = (3 : Int32)) (gd (x0 < zn z ∧ zK z x0 = 11) <| some (zF z 739 x0)) <| br (x1 = (4 : Int32)) (gd (x0 < zn z ∧ zK z x0 = 11) <| some (zF z 711 x0)) <| br (x1 = (5 : Int32)) (gd (x0 < zn z ∧ zK z x0 = 11) <| some (zF z 719 x0)) <| br (x1 = (6 : Int32)) (gd (x0 < zn z ∧ zK z x0 = 11) <| some (zF z 746 x0)) <| br (x1 = (7 : Int32)) (gd (x0 < zn z ∧ zK z x0 = 11) <| some (zF z 750 x0)) <| br (x1 = (8 : Int32)) (gd (x0 < zn z ∧ zK z x0 = 11) <| some (zF z 749 x0)) <| br (x1 = (9 : Int32)) (gd (x0 < zn z ∧ zK z x0 = 11) <| some (zF z 753 x0)) <| some (-2 : Int32)
set_option maxHeartbeats 4000000 in
set_option maxRecDepth 100000 in
theorem tX12_told_0 {n0 : Nat} {D : va_G} {Y : Nat → ClassId} {p : Program} {l : Launch} {e : Env} {s : State} {m : MethodId} {args : Array Value} {below : List Frame} {meth : Method} {c : Code} {N : Nat} {fin : Int32} {x0 : Nat} {x1 : Int32}  {z : Hp} (C : Cx n0 D Y RX12 cX12_told (some .int) 2 wsX12_told "told" p s m args meth c) {x : (Int32)} (h : fX12_told N x0 x1  z = some x) (hF : (fun x => x = fin) x) {H : Heap} {locs : List Loc} {ls : Array Slot} (hw : Wd n0 D Y z s H locs) (hl : lv_has ls 2 [(0, .ref (n0 + x0)), (1, .int x1)]) : W p l e rmX12_told s m args below meth c H locs 0 0 (MQ below (PosI n0 D Y z fin) args s 0 0 (AA n0)) (F0 m 0 ls []) := by
  unfold fX12_told at h
  refine lv_iload_n C.1 C.2.1 dX12_told_0 rfl (lv_at hl 1 rfl) ?_
  by_cases c1 : x1 = (0 : Int32)
  · replace h := brT h c1
    refine lv_tableIn (off := 55) (tgt := 56) C.1 C.2.1 dX12_told_1 (by rw [c1]; decide) (by rw [c1]; decide) (by rw [c1]; decide) (by decide) ?_
    refine lv_aload_n C.1 C.2.1 dX12_told_56 rfl (lv_at hl 0 rfl) ?_
    obtain ⟨g2, h⟩ := gdE h
    refine r_get (v := .int (zF z 704 x0)) C hw g2 (by decide) (Cn := RX12) (T := TX12) (N := 50) rfl in_X12_told_X12 0 (by decide) (by decide +kernel) (fun _ h => h) rfl dX12_told_57 ?_
    cases h
    replace hF : _ = fin := hF
    subst hF
    exact r_iret C hw dX12_told_60
  replace h := brF h c1
  by_cases c3 : x1 = (1 : Int32)
  · replace h := brT h c3
    refine lv_tableIn (off := 60) (tgt := 61) C.1 C.2.1 dX12_told_1 (by rw [c3]; decide) (by rw [c3]; decide) (by rw [c3]; decide) (by decide) ?_
    refine lv_aload_n C.1 C.2.1 dX12_told_61 rfl (lv_at hl 0 rfl) ?_
    obtain ⟨g4, h⟩ := gdE h
    refine r_get (v := .int (zF z 705 x0)) C hw g4 (by decide) (Cn := RX12) (T := TX12) (N := 50) rfl in_X12_told_X12 1 (by decide) (by decide +kernel) (fun _ h => h) rfl dX12_told_62 ?_
    cases h
    replace hF : _ = fin := hF
    subst hF
    exact r_iret C hw dX12_told_65
  replace h := brF h c3
  by_cases c5 : x1 = (2 : Int32)
  · replace h := brT h c5
    refine lv_tableIn (off := 65) (tgt := 66) C.1 C.2.1 dX12_told_1 (by rw [c5]; decide) (by rw [c5]; decide) (by rw [c5]; decide) (by decide) ?_
    refine lv_aload_n C.1 C.2.1 dX12_told_66 rfl (lv_at hl 0 rfl) ?_
    obtain ⟨g6, h⟩ := gdE h
    refine r_get (v := .int (zF z 706 x0)) C hw g6 (by decide) (Cn := RX12) (T := TX12) (N := 50) rfl in_X12_told_X12 2 (by decide) (by decide +kernel) (fun _ h => h) rfl dX12_told_67 ?_
    cases h
    replace hF : _ = fin := hF
    subst hF
    exact r_iret C hw dX12_told_70
  replace h := brF h c5
  by_cases c7 : x1 = (3 : Int32)
  · replace h := brT h c7
    refine lv_tableIn (off := 70) (tgt := 71) C.1 C.2.1 dX12_told_1 (by rw [c7]; decide) (by rw [c7]; decide) (by rw [c7]; decide) (by decide) ?_
    refine lv_aload_n C.1 C.2.1 dX12_told_71 rfl (lv_at hl 0 rfl) ?_
    obtain ⟨g8, h⟩ := gdE h
    refine r_get (v := .int (zF z 739 x0)) C hw g8 (by decide) (Cn := RX12) (T := TX12) (N := 50) rfl in_X12_told_X12 35 (by decide) (by decide +kernel) (fun _ h => h) rfl dX12_told_72 ?_
    cases h
    replace hF : _ = fin := hF
    subst hF
    exact r_iret C hw dX12_told_75
  replace h := brF h c7
  by_cases c9 : x1 = (4 : Int32)
  · replace h := brT h c9
    refine lv_tableIn (off := 75) (tgt := 76) C.1 C.2.1 dX12_told_1 (by rw [c9]; decide) (by rw [c9]; decide) (by rw [c9]; decide) (by decide) ?_
    refine lv_aload_n C.1 C.2.1 dX12_told_76 rfl (lv_at hl 0 rfl) ?_
    obtain ⟨g10, h⟩ := gdE h
    refine r_get (v := .int (zF z 711 x0)) C hw g10 (by decide) (Cn := RX12) (T := TX12) (N := 50) rfl in_X12_told_X12 7 (by decide) (by decide +kernel) (fun _ h => h) rfl dX12_told_77 ?_
    cases h
    replace hF : _ = fin := hF
    subst hF
    exact r_iret C hw dX12_told_80
  replace h := brF h c9
  by_cases c11 : x1 = (5 : Int32)
  · replace h := brT h c11
    refine lv_tableIn (off := 80) (tgt := 81) C.1 C.2.1 dX12_told_1 (by rw [c11]; decide) (by rw [c11]; decide) (by rw [c11]; decide) (by decide) ?_
    refine lv_aload_n C.1 C.2.1 dX12_told_81 rfl (lv_at hl 0 rfl) ?_
    obtain ⟨g12, h⟩ := gdE h
    refine r_get (v := .int (zF z 719 x0)) C hw g12 (by decide) (Cn := RX12) (T := TX12) (N := 50) rfl in_X12_told_X12 15 (by decide) (by decide +kernel) (fun _ h => h) rfl dX12_told_82 ?_
    cases h
    replace hF : _ = fin := hF
    subst hF
    exact r_iret C hw dX12_told_85
  replace h := brF h c11
  by_cases c13 : x1 = (6 : Int32)
  · replace h := brT h c13
    refine lv_tableIn (off := 85) (tgt := 86) C.1 C.2.1 dX12_told_1 (by rw [c13]; decide) (by rw [c13]; decide) (by rw [c13]; decide) (by decide) ?_
    refine lv_aload_n C.1 C.2.1 dX12_told_86 rfl (lv_at hl 0 rfl) ?_
    obtain ⟨g14, h⟩ := gdE h
    refine r_get (v := .int (zF z 746 x0)) C hw g14 (by decide) (Cn := RX12) (T := TX12) (N := 50) rfl in_X12_told_X12 42 (by decide) (by decide +kernel) (fun _ h => h) rfl dX12_told_87 ?_
    cases h
    replace hF : _ = fin := hF
    subst hF
    exact r_iret C hw dX12_told_90
  replace h := brF h c13
  by_cases c15 : x1 = (7 : Int32)
  · replace h := brT h c15
    refine lv_tableIn (off := 90) (tgt := 91) C.1 C.2.1 dX12_told_1 (by rw [c15]; decide) (by rw [c15]; decide) (by rw [c15]; decide) (by decide) ?_
    refine lv_aload_n C.1 C.2.1 dX12_told_91 rfl (lv_at hl 0 rfl) ?_
    obtain ⟨g16, h⟩ := gdE h
    refine r_get (v := .int (zF z 750 x0)) C hw g16 (by decide) (Cn := RX12) (T := TX12) (N := 50) rfl in_X12_told_X12 46 (by decide) (by decide +kernel) (fun _ h => h) rfl dX12_told_92 ?_
    cases h
    replace hF : _ = fin := hF
    subst hF
    exact r_iret C hw dX12_told_95
  replace h := brF h c15
  by_cases c17 : x1 = (8 : Int32)
  · replace h := brT h c17
    refine lv_tableIn (off := 95) (tgt := 96) C.1 C.2.1 dX12_told_1 (by rw [c17]; decide) (by rw [c17]; decide) (by rw [c17]; decide) (by decide) ?_
    refine lv_aload_n C.1 C.2.1 dX12_told_96 rfl (lv_at hl 0 rfl) ?_
    obtain ⟨g18, h⟩ := gdE h
    refine r_get (v := .int (zF z 749 x0)) C hw g18 (by decide) (Cn := RX12) (T := TX12) (N := 50) rfl in_X12_told_X12 45 (by decide) (by decide +kernel) (fun _ h => h) rfl dX12_told_97 ?_
    cases h
    replace hF : _ = fin := hF
    subst hF
    exact r_iret C hw dX12_told_100
  replace h := brF h c17
  by_cases c19 : x1 = (9 : Int32)
  · replace h := brT h c19
    refine lv_tableIn (off := 100) (tgt := 101) C.1 C.2.1 dX12_told_1 (by rw [c19]; decide) (by rw [c19]; decide) (by rw [c19]; decide) (by decide) ?_
    refine lv_aload_n C.1 C.2.1 dX12_told_101 rfl (lv_at hl 0 rfl) ?_
    obtain ⟨g20, h⟩ := gdE h
    refine r_get (v := .int (zF z 753 x0)) C hw g20 (by decide) (Cn := RX12) (T := TX12) (N := 50) rfl in_X12_told_X12 49 (by decide) (by decide +kernel) (fun _ h => h) rfl dX12_told_102 ?_
    cases h
    replace hF : _ = fin := hF
    subst hF
    exact r_iret C hw dX12_told_105
  replace h := brF h c19
  refine lv_tableOut (tgt := 106) C.1 C.2.1 dX12_told_1 (by have := ne_ti c1; have : (0 : Int32).toInt = 0 := (by decide); have := ne_ti c3; have : (1 : Int32).toInt = 1 := (by decide); have := ne_ti c5; have : (2 : Int32).toInt = 2 := (by decide); have := ne_ti c7; have : (3 : Int32).toInt = 3 := (by decide); have := ne_ti c9; have : (4 : Int32).toInt = 4 := (by decide); have := ne_ti c11; have : (5 : Int32).toInt = 5 := (by decide); have := ne_ti c13; have : (6 : Int32).toInt = 6 := (by decide); have := ne_ti c15; have : (7 : Int32).toInt = 7 := (by decide); have := ne_ti c17; have : (8 : Int32).toInt = 8 := (by decide); have := ne_ti c19; have : (9 : Int32).toInt = 9 := (by decide); omega) (by decide) ?_
  refine lv_bipush (v := (-2 : Int32)) C.1 C.2.1 dX12_told_106 (by decide) ?_
  cases h
  replace hF : _ = fin := hF
  subst hF
  exact r_iret C hw dX12_told_108
set_option maxRecDepth 100000 in
theorem kX12_told (l : Launch) (n0 : Nat) (D : va_G) (Y : Nat → ClassId) (N : Nat) (x0 : Nat) (x1 : Int32) (z : Hp) {r : Int32} (h : fX12_told N x0 x1 z = some r) : Met l yX12_told wsX12_told rmX12_told (PreC n0 D Y z [.ref (n0 + x0), .int x1]) (PosI n0 D Y z r) 0 0 (AA n0) := by
  refine Met.ofW (cc := cX12_told) (maxL := 2) (ret := (some .int)) (by decide) rfl ?_
  intro p e s m args below meth c s₁ B hml hv
  obtain ⟨rfl, hR, hK⟩ := hv
  have C : Cx n0 D Y RX12 cX12_told (some .int) 2 wsX12_told "told" p s m ([.ref (n0 + x0), .int x1] : List Value).toArray meth c := ⟨B.exec, B.bytes, B.returns, hml, findClass_of_methodNamed B.named, atoms_spec (ws := wsX12_told) B.pre, B.notSynchronized, (name_of_methodNamed B.named B.method).1, hK⟩
  have hl := lv_entry ([.ref (n0 + x0), .int x1]) (n := 2) (Nat.le_of_ble_eq_true rfl)
  rw [lg_entry_eq]
  generalize (lg_sl ([.ref (n0 + x0), .int x1]) ++ List.replicate (2 - (lg_sl ([.ref (n0 + x0), .int x1])).length) Slot.unset).toArray = ls at hl ⊢
  have hl : lv_has ls 2 [(0, .ref (n0 + x0)), (1, .int x1)] := hl
  exact tX12_told_0 C h rfl ⟨hR, va_S.rf⟩ hl
