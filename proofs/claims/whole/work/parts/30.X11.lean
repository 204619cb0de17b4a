theorem in_X11_init_X10 : ∀ w ∈ wsX100, w ∈ wsX11_init := by decide +kernel
theorem in_X11_init_X11 : ∀ w ∈ wsX110, w ∈ wsX11_init := by decide +kernel
theorem in_X11_init_X2 : ∀ w ∈ wsX20, w ∈ wsX11_init := by decide +kernel
theorem in_X11_init_X4 : ∀ w ∈ wsX40, w ∈ wsX11_init := by decide +kernel
theorem in_X11_init_X5 : ∀ w ∈ wsX50, w ∈ wsX11_init := by decide +kernel
theorem in_X11_init_X7 : ∀ w ∈ wsX70, w ∈ wsX11_init := by decide +kernel
abbrev rmX11_init : Room := { frames := 2, cells := 16, slots := 1645, locals := 44 }
noncomputable def fX11_init (N : Nat) (x0 : Nat) (z : Hp) : Option (Hp) := bd (zal z 2 0) fun z1 => bo (fX2_init N (zn z) z1) fun z5 => gd (x0 < zn z5 ∧ zK z5 x0 = 10) <| bd (zsG z5 640 x0 (some (zn z))) fun z6 => bd (zal z6 6 0) fun z9 => bo (fX7_init N (zn z6) z9) fun z13 => gd (x0 < zn z13 ∧ zK z13 x0 = 10) <| bd (zsG z13 641 x0 (some (zn z6))) fun z14 => bd (zal z14 4 0) fun z17 => bo (fX5_init N (zn z14) z17) fun z21 => gd (x0 < zn z21 ∧ zK z21 x0 = 10) <| bd (zsG z21 642 x0 (some (zn z14))) fun z22 => bd (zal z22 9 0) fun z25 => bo (fX10_init N (zn z22) z25) fun z29 => gd (x0 < zn z29 ∧ zK z29 x0 = 10) <| bd (zsG z29 643 x0 (some (zn z22))) fun z30 => bd (zal z30 3 0) fun z33 => bo (fX4_init N (zn z30) z33) fun z37 => gd (x0 < zn z37 ∧ zK z37 x0 = 10) <| bd (zsG z37 644 x0 (some (zn z30))) fun z38 => bd (zal z38 15 8) fun z41 => bd (zsG z41 645 x0 (some (zn z38))) fun z44 => bd (zsF z44 648 x0 (16 : Int32)) fun z48 => bd (zsF z48 649 x0 (1 : Int32)) fun z51 => bd (zsF z51 650 x0 (12 : Int32)) fun z54 => some z54
set_option maxHeartbeats 4000000 in
set_option maxRecDepth 100000 in
theorem tX11_init_0 {n0 : Nat} {D : va_G} {Y : Nat → ClassId} {p : Program} {l : Launch} {e : Env} {s : State} {m : MethodId} {args : Array Value} {below : List Frame} {meth : Method} {c : Code} {N : Nat} {fin : Hp} {x0 : Nat}  {z : Hp} (C : Cx n0 D Y RX11 cX11_init none 1 wsX11_init "<init>" p s m args meth c) {x : (Hp)} (h : fX11_init N x0  z = some x) (hF : (fun x => x = fin) x) {H : Heap} {locs : List Loc} {ls : Array Slot} (hw : Wd n0 D Y z s H locs) (hl : lv_has ls 1 [(0, .ref (n0 + x0))]) : W p l e rmX11_init s m args below meth c H locs 0 0 (MQ below (PosV n0 D Y fin) args s 16 1645 (AA n0)) (F0 m 0 ls []) := by
  unfold fX11_init at h
  refine lv_aload_n C.1 C.2.1 dX11_init_0 rfl (lv_at hl 0 rfl) ?_
  refine W.objInit C.1 C.2.1 C.2.2.2.2.1 (C.2.2.2.2.2.1 (.methodLink RX11 1 objectInit) (by decide +kernel)) (C.2.2.2.2.2.1 (.instanceMethod objectInit) (by decide +kernel)) (C.2.2.2.2.2.1 _ (List.mem_of_getElem? (i := 3) rfl)) rfl (by rw [C.2.2.2.1]; exact hl.1) rfl dX11_init_1 (Nat.le_of_ble_eq_true rfl) (Nat.le_of_ble_eq_true rfl) ?_
  refine W.eq (g2 := F0 m 4 ls []) rfl ?_
  refine lv_aload_n C.1 C.2.1 dX11_init_4 rfl (lv_at hl 0 rfl) ?_
  obtain ⟨z1, e2, h⟩ := bdE h
  refine r_new C hw 2 (by decide) (Cn := RX2) (T := TX2) (N := 7) rfl in_X11_init_X2 tyX2 tyX2_ok (by decide +kernel) (by decide +kernel) (by decide +kernel) (nw_2 n0 z) (by decide) (by decide) dX11_init_5 (fun H hw => ?_)
  rw [← e2] at hw
  have g3 : (zn z) < zn z1 ∧ zK z1 (zn z) = 2 := by rw [e2]; exact ok_new _ _ _
  refine lv_dup C.1 C.2.1 dX11_init_8 rfl ?_
  obtain ⟨z5, e4, h⟩ := boE h
  refine r_aftv hw (r_runI (As := []) (rest := [.ref (n0 + (zn z)), .ref (n0 + x0)]) C hw (kX2_init l n0 D Y N (zn z)  z1 e4) (cwI 0 C.2.2.2.2.2.1 gX11_init_X2_init rfl rfl rfl (C.2.2.2.2.2.1 (.initialized RX2) (by decide +kernel)) (C.2.2.2.2.2.1 (.methodLink RX11 9 yX2_init) (by decide +kernel)) (C.2.2.2.2.2.1 (.instanceMethod yX2_init) (by decide +kernel)) rfl (by decide +kernel) ⟨(Nat.le_of_ble_eq_true rfl), (Nat.le_of_ble_eq_true rfl)⟩) rfl hl.1 rfl (Nat.le_of_ble_eq_true rfl) dX11_init_9 ⟨(Nat.le_of_ble_eq_true rfl), (Nat.le_of_ble_eq_true rfl)⟩) (fun H locs hw => ?_)
  obtain ⟨g8, h⟩ := gdE h
  obtain ⟨z6, e7, h⟩ := bdE h
  refine r_putG C hw g8 (by decide) (Cn := RX11) (T := TX11) (N := 12) rfl in_X11_init_X11 tyX11 tyX11_ok nmX11 0 (by decide) (by decide +kernel) (fun _ h => h) (Or.inr ⟨rfl, rfl, rfl⟩) (ty := .object "BreadLaw$Book") (by decide +kernel) rfl rfl (Nat.le_of_ble_eq_true rfl) (st_10_0 n0 z5 x0 (some (zn z))) e7 dX11_init_12 (fun H locs hw => ?_)
  refine lv_aload_n C.1 C.2.1 dX11_init_15 rfl (lv_at hl 0 rfl) ?_
  obtain ⟨z9, e10, h⟩ := bdE h
  refine r_new C hw 6 (by decide) (Cn := RX7) (T := TX7) (N := 2) rfl in_X11_init_X7 tyX7 tyX7_ok (by decide +kernel) (by decide +kernel) (by decide +kernel) (nw_6 n0 z6) (by decide) (by decide) dX11_init_16 (fun H hw => ?_)
  rw [← e10] at hw
  have g11 : (zn z6) < zn z9 ∧ zK z9 (zn z6) = 6 := by rw [e10]; exact ok_new _ _ _
  refine lv_dup C.1 C.2.1 dX11_init_19 rfl ?_
  obtain ⟨z13, e12, h⟩ := boE h
  refine r_aftv hw (r_runI (As := []) (rest := [.ref (n0 + (zn z6)), .ref (n0 + x0)]) C hw (kX7_init l n0 D Y N (zn z6)  z9 e12) (cwI 0 C.2.2.2.2.2.1 gX11_init_X7_init rfl rfl rfl (C.2.2.2.2.2.1 (.initialized RX7) (by decide +kernel)) (C.2.2.2.2.2.1 (.methodLink RX11 18 yX7_init) (by decide +kernel)) (C.2.2.2.2.2.1 (.instanceMethod yX7_init) (by decide +kernel)) rfl (by decide +kernel) ⟨(Nat.le_of_ble_eq_true rfl), (Nat.le_of_ble_eq_true rfl)⟩) rfl hl.1 rfl (Nat.le_of_ble_eq_true rfl) dX11_init_20 ⟨(Nat.le_of_ble_eq_true rfl), (Nat.le_of_ble_eq_true rfl)⟩) (fun H locs hw => ?_)
  obtain ⟨g16, h⟩ := gdE h
  obtain ⟨z14, e15, h⟩ := bdE h
  refine r_putG C hw g16 (by decide) (Cn := RX11) (T := TX11) (N := 12) rfl in_X11_init_X11 tyX11 tyX11_ok nmX11 1 (by decide) (by decide +kernel) (fun _ h => h) (Or.inr ⟨rfl, rfl, rfl⟩) (ty := .object "BreadLaw$Market") (by decide +kernel) rfl rfl (Nat.le_of_ble_eq_true rfl) (st_10_1 n0 z13 x0 (some (zn z6))) e15 dX11_init_23 (fun H locs hw => ?_)
  refine lv_aload_n C.1 C.2.1 dX11_init_26 rfl (lv_at hl 0 rfl) ?_
  obtain ⟨z17, e18, h⟩ := bdE h
  refine r_new C hw 4 (by decide) (Cn := RX5) (T := TX5) (N := 2) rfl in_X11_init_X5 tyX5 tyX5_ok (by decide +kernel) (by decide +kernel) (by decide +kernel) (nw_4 n0 z14) (by decide) (by decide) dX11_init_27 (fun H hw => ?_)
  rw [← e18] at hw
  have g19 : (zn z14) < zn z17 ∧ zK z17 (zn z14) = 4 := by rw [e18]; exact ok_new _ _ _
  refine lv_dup C.1 C.2.1 dX11_init_30 rfl ?_
  obtain ⟨z21, e20, h⟩ := boE h
  refine r_aftv hw (r_runI (As := []) (rest := [.ref (n0 + (zn z14)), .ref (n0 + x0)]) C hw (kX5_init l n0 D Y N (zn z14)  z17 e20) (cwI 0 C.2.2.2.2.2.1 gX11_init_X5_init rfl rfl rfl (C.2.2.2.2.2.1 (.initialized RX5) (by decide +kernel)) (C.2.2.2.2.2.1 (.methodLink RX11 25 yX5_init) (by decide +kernel)) (C.2.2.2.2.2.1 (.instanceMethod yX5_init) (by decide +kernel)) rfl (by decide +kernel) ⟨(Nat.le_of_ble_eq_true rfl), (Nat.le_of_ble_eq_true rfl)⟩) rfl hl.1 rfl (Nat.le_of_ble_eq_true rfl) dX11_init_31 ⟨(Nat.le_of_ble_eq_true rfl), (Nat.le_of_ble_eq_true rfl)⟩) (fun H locs hw => ?_)
  obtain ⟨g24, h⟩ := gdE h
  obtain ⟨z22, e23, h⟩ := bdE h
  refine r_putG C hw g24 (by decide) (Cn := RX11) (T := TX11) (N := 12) rfl in_X11_init_X11 tyX11 tyX11_ok nmX11 2 (by decide) (by decide +kernel) (fun _ h => h) (Or.inr ⟨rfl, rfl, rfl⟩) (ty := .object "BreadLaw$Law") (by decide +kernel) rfl rfl (Nat.le_of_ble_eq_true rfl) (st_10_2 n0 z21 x0 (some (zn z14))) e23 dX11_init_34 (fun H locs hw => ?_)
  refine lv_aload_n C.1 C.2.1 dX11_init_37 rfl (lv_at hl 0 rfl) ?_
  obtain ⟨z25, e26, h⟩ := bdE h
  refine r_new C hw 9 (by decide) (Cn := RX10) (T := TX10) (N := 4) rfl in_X11_init_X10 tyX10 tyX10_ok (by decide +kernel) (by decide +kernel) (by decide +kernel) (nw_9 n0 z22) (by decide) (by decide) dX11_init_38 (fun H hw => ?_)
  rw [← e26] at hw
  have g27 : (zn z22) < zn z25 ∧ zK z25 (zn z22) = 9 := by rw [e26]; exact ok_new _ _ _
  refine lv_dup C.1 C.2.1 dX11_init_41 rfl ?_
  obtain ⟨z29, e28, h⟩ := boE h
  refine r_aftv hw (r_runI (As := []) (rest := [.ref (n0 + (zn z22)), .ref (n0 + x0)]) C hw (kX10_init l n0 D Y N (zn z22)  z25 e28) (cwI 0 C.2.2.2.2.2.1 gX11_init_X10_init rfl rfl rfl (C.2.2.2.2.2.1 (.initialized RX10) (by decide +kernel)) (C.2.2.2.2.2.1 (.methodLink RX11 32 yX10_init) (by decide +kernel)) (C.2.2.2.2.2.1 (.instanceMethod yX10_init) (by decide +kernel)) rfl (by decide +kernel) ⟨(Nat.le_of_ble_eq_true rfl), (Nat.le_of_ble_eq_true rfl)⟩) rfl hl.1 rfl (Nat.le_of_ble_eq_true rfl) dX11_init_42 ⟨(Nat.le_of_ble_eq_true rfl), (Nat.le_of_ble_eq_true rfl)⟩) (fun H locs hw => ?_)
  obtain ⟨g32, h⟩ := gdE h
  obtain ⟨z30, e31, h⟩ := bdE h
  refine r_putG C hw g32 (by decide) (Cn := RX11) (T := TX11) (N := 12) rfl in_X11_init_X11 tyX11 tyX11_ok nmX11 3 (by decide) (by decide +kernel) (fun _ h => h) (Or.inr ⟨rfl, rfl, rfl⟩) (ty := .object "BreadLaw$Turns") (by decide +kernel) rfl rfl (Nat.le_of_ble_eq_true rfl) (st_10_3 n0 z29 x0 (some (zn z22))) e31 dX11_init_45 (fun H locs hw => ?_)
  refine lv_aload_n C.1 C.2.1 dX11_init_48 rfl (lv_at hl 0 rfl) ?_
  obtain ⟨z33, e34, h⟩ := bdE h
  refine r_new C hw 3 (by decide) (Cn := RX4) (T := TX4) (N := 8) rfl in_X11_init_X4 tyX4 tyX4_ok (by decide +kernel) (by decide +kernel) (by decide +kernel) (nw_3 n0 z30) (by decide) (by decide) dX11_init_49 (fun H hw => ?_)
  rw [← e34] at hw
  have g35 : (zn z30) < zn z33 ∧ zK z33 (zn z30) = 3 := by rw [e34]; exact ok_new _ _ _
  refine lv_dup C.1 C.2.1 dX11_init_52 rfl ?_
  obtain ⟨z37, e36, h⟩ := boE h
  refine r_aftv hw (r_runI (As := []) (rest := [.ref (n0 + (zn z30)), .ref (n0 + x0)]) C hw (kX4_init l n0 D Y N (zn z30)  z33 e36) (cwI 0 C.2.2.2.2.2.1 gX11_init_X4_init rfl rfl rfl (C.2.2.2.2.2.1 (.initialized RX4) (by decide +kernel)) (C.2.2.2.2.2.1 (.methodLink RX11 39 yX4_init) (by decide +kernel)) (C.2.2.2.2.2.1 (.instanceMethod yX4_init) (by decide +kernel)) rfl (by decide +kernel) ⟨(Nat.le_of_ble_eq_true rfl), (Nat.le_of_ble_eq_true rfl)⟩) rfl hl.1 rfl (Nat.le_of_ble_eq_true rfl) dX11_init_53 ⟨(Nat.le_of_ble_eq_true rfl), (Nat.le_of_ble_eq_true rfl)⟩) (fun H locs hw => ?_)
  obtain ⟨g40, h⟩ := gdE h
  obtain ⟨z38, e39, h⟩ := bdE h
  refine r_putG C hw g40 (by decide) (Cn := RX11) (T := TX11) (N := 12) rfl in_X11_init_X11 tyX11 tyX11_ok nmX11 4 (by decide) (by decide +kernel) (fun _ h => h) (Or.inr ⟨rfl, rfl, rfl⟩) (ty := .object "BreadLaw$Granary") (by decide +kernel) rfl rfl (Nat.le_of_ble_eq_true rfl) (st_10_4 n0 z37 x0 (some (zn z30))) e39 dX11_init_56 (fun H locs hw => ?_)
  refine lv_aload_n C.1 C.2.1 dX11_init_59 rfl (lv_at hl 0 rfl) ?_
  refine lv_bipush (v := (8 : Int32)) C.1 C.2.1 dX11_init_60 (by decide) ?_
  obtain ⟨z41, e42, h⟩ := bdE h
  refine r_newq C hw (ki := 15) (t0 := 3) (E := RX0) (by decide) rfl (by decide +kernel) C.2.2.2.2.2.2.2.2.2.1.1 (N' := 8) (by decide) (by decide) (by decide) (by decide) (by decide) dX11_init_62 (fun H hw => ?_)
  rw [← e42] at hw
  have g43 : (zn z38) < zn z41 ∧ zK z41 (zn z38) = 15 := by rw [e42]; exact ok_new _ _ _
  have g46 : x0 < zn z38 ∧ zK z38 x0 = 10 := by rw [e39]; exact g40
  have g47 : x0 < zn z41 ∧ zK z41 x0 = 10 := by rw [e42]; exact ok_al _ _ g46
  obtain ⟨z44, e45, h⟩ := bdE h
  refine r_putG C hw g47 (by decide) (Cn := RX11) (T := TX11) (N := 12) rfl in_X11_init_X11 tyX11 tyX11_ok nmX11 5 (by decide) (by decide +kernel) (fun _ h => h) (Or.inr ⟨rfl, rfl, rfl⟩) (ty := .array (.object "BreadLaw$Baker")) (by decide +kernel) rfl rfl (Nat.le_of_ble_eq_true rfl) (st_10_5 n0 z41 x0 (some (zn z38))) e45 dX11_init_65 (fun H locs hw => ?_)
  refine lv_aload_n C.1 C.2.1 dX11_init_68 rfl (lv_at hl 0 rfl) ?_
  refine lv_bipush (v := (16 : Int32)) C.1 C.2.1 dX11_init_69 (by decide) ?_
  have g50 : x0 < zn z44 ∧ zK z44 x0 = 10 := by rw [e45]; exact g47
  obtain ⟨z48, e49, h⟩ := bdE h
  refine r_putI C hw g50 (by decide) (Cn := RX11) (T := TX11) (N := 12) rfl in_X11_init_X11 tyX11 tyX11_ok nmX11 8 (by decide) (by decide +kernel) (fun _ h => h) (Or.inl rfl) (ty := .int) (by decide +kernel) rfl rfl (Nat.le_of_ble_eq_true rfl) (st_10_8 n0 z44 x0 (16 : Int32)) e49 dX11_init_71 (fun H locs hw => ?_)
  refine lv_aload_n C.1 C.2.1 dX11_init_74 rfl (lv_at hl 0 rfl) ?_
  refine lv_iconst (v := (1 : Int32)) C.1 C.2.1 dX11_init_75 (by decide) ?_
  have g53 : x0 < zn z48 ∧ zK z48 x0 = 10 := by rw [e49]; exact g50
  obtain ⟨z51, e52, h⟩ := bdE h
  refine r_putI C hw g53 (by decide) (Cn := RX11) (T := TX11) (N := 12) rfl in_X11_init_X11 tyX11 tyX11_ok nmX11 9 (by decide) (by decide +kernel) (fun _ h => h) (Or.inl rfl) (ty := .int) (by decide +kernel) rfl rfl (Nat.le_of_ble_eq_true rfl) (st_10_9 n0 z48 x0 (1 : Int32)) e52 dX11_init_76 (fun H locs hw => ?_)
  refine lv_aload_n C.1 C.2.1 dX11_init_79 rfl (lv_at hl 0 rfl) ?_
  refine lv_bipush (v := (12 : Int32)) C.1 C.2.1 dX11_init_80 (by decide) ?_
  have g56 : x0 < zn z51 ∧ zK z51 x0 = 10 := by rw [e52]; exact g53
  obtain ⟨z54, e55, h⟩ := bdE h
  refine r_putI C hw g56 (by decide) (Cn := RX11) (T := TX11) (N := 12) rfl in_X11_init_X11 tyX11 tyX11_ok nmX11 10 (by decide) (by decide +kernel) (fun _ h => h) (Or.inl rfl) (ty := .int) (by decide +kernel) rfl rfl (Nat.le_of_ble_eq_true rfl) (st_10_10 n0 z51 x0 (12 : Int32)) e55 dX11_init_82 (fun H locs hw => ?_)
  cases h
  replace hF : _ = fin := hF
  subst hF
  exact r_vret C hw dX11_init_85
set_option maxRecDepth 100000 in
theorem kX11_init (l : Launch) (n0 : Nat) (D : va_G) (Y : Nat → ClassId) (N : Nat) (x0 : Nat) (z : Hp) {z1 : Hp} (h : fX11_init N x0 z = some z1) : Met l yX11_init wsX11_init rmX11_init (PreC n0 D Y z [.ref (n0 + x0)]) (PosV n0 D Y z1) 16 1645 (AA n0) := by
  refine Met.ofW (cc := cX11_init) (maxL := 1) (ret := none) (by decide) rfl ?_
  intro p e s m args below meth c s₁ B hml hv
  obtain ⟨rfl, hR, hK⟩ := hv
  have C : Cx n0 D Y RX11 cX11_init none 1 wsX11_init "<init>" p s m ([.ref (n0 + x0)] : List Value).toArray meth c := ⟨B.exec, B.bytes, B.returns, hml, findClass_of_methodNamed B.named, atoms_spec (ws := wsX11_init) B.pre, B.notSynchronized, (name_of_methodNamed B.named B.method).1, hK⟩
  have hl := lv_entry ([.ref (n0 + x0)]) (n := 1) (Nat.le_of_ble_eq_true rfl)
  rw [lg_entry_eq]
  generalize (lg_sl ([.ref (n0 + x0)]) ++ List.replicate (1 - (lg_sl ([.ref (n0 + x0)])).length) Slot.unset).toArray = ls at hl ⊢
  have hl : lv_has ls 1 [(0, .ref (n0 + x0))] := hl
  exact tX11_init_0 C h rfl ⟨hR, va_S.rf⟩ hl
abbrev rmX11_isOutside : Room := { frames := 0, cells := 0, slots := 0, locals := 0 }
noncomputable def fX11_isOutside_10 (N : Nat) (z : Hp) : Option (Int32) := some (1 : Int32)
set_option maxHeartbeats 4000000 in
set_option maxRecDepth 100000 in
theorem tX11_isOutside_10 {n0 : Nat} {D : va_G} {Y : Nat → ClassId} {p : Program} {l : Launch} {e : Env} {s : State} {m : MethodId} {args : Array Value} {below : List Frame} {meth : Method} {c : Code} {N : Nat} {fin : Int32}   {z : Hp} (C : Cx n0 D Y RX11 cX11_isOutside (some .boolean) 3 wsX11_isOutside "isOutside" p s m args meth c) {x : (Int32)} (h : fX11_isOutside_10 N   z = some x) (hF : (fun x => x = fin) x) {H : Heap} {locs : List Loc} {ls : Array Slot} (hw : Wd n0 D Y z s H locs) (hl : lv_has ls 3 []) : W p l e rmX11_isOutside s m args below meth c H locs 0 0 (MQ below (PosI n0 D Y z fin) args s 0 0 (AA n0)) (F0 m 10 ls []) := by
  unfold fX11_isOutside_10 at h
  refine lv_iconst (v := (1 : Int32)) C.1 C.2.1 dX11_isOutside_10 (by decide) ?_
  refine lv_goto (tgt := 15) C.1 C.2.1 dX11_isOutside_11 (by decide) ?_
  cases h
  replace hF : _ = fin := hF
  subst hF
  exact r_zret C hw (by decide) dX11_isOutside_15
noncomputable def fX11_isOutside (N : Nat) (x0 : Int32) (x1 : Int32) (x2 : Int32) (z : Hp) : Option (Int32) := br (x0 < x1) (fX11_isOutside_10 N z) (br (x0 ≤ x2) (some (0 : Int32)) (fX11_isOutside_10 N z))
set_option maxHeartbeats 4000000 in
set_option maxRecDepth 100000 in
theorem tX11_isOutside_0 {n0 : Nat} {D : va_G} {Y : Nat → ClassId} {p : Program} {l : Launch} {e : Env} {s : State} {m : MethodId} {args : Array Value} {below : List Frame} {meth : Method} {c : Code} {N : Nat} {fin : Int32} {x0 : Int32} {x1 : Int32} {x2 : Int32}  {z : Hp} (C : Cx n0 D Y RX11 cX11_isOutside (some .boolean) 3 wsX11_isOutside "isOutside" p s m args meth c) {x : (Int32)} (h : fX11_isOutside N x0 x1 x2  z = some x) (hF : (fun x => x = fin) x) {H : Heap} {locs : List Loc} {ls : Array Slot} (hw : Wd n0 D Y z s H locs) (hl : lv_has ls 3 [(0, .int x0), (1, .int x1), (2, .int x2)]) : W p l e rmX11_isOutside s m args below meth c H locs 0 0 (MQ below (PosI n0 D Y z fin) args s 0 0 (AA n0)) (F0 m 0 ls []) := by
  unfold fX11_isOutside at h
  refine lv_iload_n C.1 C.2.1 dX11_isOutside_0 rfl (lv_at hl 0 rfl) ?_
  refine lv_iload_n C.1 C.2.1 dX11_isOutside_1 rfl (lv_at hl 1 rfl) ?_
  refine lv_icmp_lt (tgt := 10) C.1 C.2.1 dX11_isOutside_2 (by decide) (fun c1 => ?_) (fun c1 => ?_)
  · replace h := brT h c1
    exact tX11_isOutside_10 C h hF hw (lv_sub hl [] rfl)
  · replace h := brF h c1
    refine lv_iload_n C.1 C.2.1 dX11_isOutside_5 rfl (lv_at hl 0 rfl) ?_
    refine lv_iload_n C.1 C.2.1 dX11_isOutside_6 rfl (lv_at hl 2 rfl) ?_
    refine lv_icmp_le (tgt := 14) C.1 C.2.1 dX11_isOutside_7 (by decide) (fun c2 => ?_) (fun c2 => ?_)
    · replace h := brT h c2
      refine lv_iconst (v := (0 : Int32)) C.1 C.2.1 dX11_isOutside_14 (by decide) ?_
      cases h
      replace hF : _ = fin := hF
      subst hF
      exact r_zret C hw (by decide) dX11_isOutside_15
    · replace h := brF h c2
      exact tX11_isOutside_10 C h hF hw (lv_sub hl [] rfl)
set_option maxRecDepth 100000 in
theorem kX11_isOutside (l : Launch) (n0 : Nat) (D : va_G) (Y : Nat → ClassId) (N : Nat) (x0 : Int32) (x1 : Int32) (x2 : Int32) (z : Hp) {r : Int32} (h : fX11_isOutside N x0 x1 x2 z = some r) : Met l yX11_isOutside wsX11_isOutside rmX11_isOutside (PreC n0 D Y z [.int x0, .int x1, .int x2]) (PosI n0 D Y z r) 0 0 (AA n0) := by
  refine Met.ofW (cc := cX11_isOutside) (maxL := 3) (ret := (some .boolean)) (by decide) rfl ?_
  intro p e s m args below meth c s₁ B hml hv
  obtain ⟨rfl, hR, hK⟩ := hv
  have C : Cx n0 D Y RX11 cX11_isOutside (some .boolean) 3 wsX11_isOutside "isOutside" p s m ([.int x0, .int x1, .int x2] : List Value).toArray meth c := ⟨B.exec, B.bytes, B.returns, hml, findClass_of_methodNamed B.named, atoms_spec (ws := wsX11_isOutside) B.pre, B.notSynchronized, (name_of_methodNamed B.named B.method).1, hK⟩
  have hl := lv_entry ([.int x0, .int x1, .int x2]) (n := 3) (Nat.le_of_ble_eq_true rfl)
  rw [lg_entry_eq]
  generalize (lg_sl ([.int x0, .int x1, .int x2]) ++ List.replicate (3 - (lg_sl ([.int x0, .int x1, .int x2])).length) Slot.unset).toArray = ls at hl ⊢
  have hl : lv_has ls 3 [(0, .int x0), (1, .int x1), (2, .int x2)] := hl
  exact tX11_isOutside_0 C h rfl ⟨hR, va_S.rf⟩ hl
theorem in_X11_weekNow_X11 : ∀ w ∈ wsX110, w ∈ wsX11_weekNow := by decide +kernel
abbrev rmX11_weekNow : Room := { frames := 0, cells := 0, slots := 0, locals := 0 }
noncomputable def fX11_weekNow (N : Nat) (x0 : Nat) (z : Hp) : Option (Int32) := gd (x0 < zn z ∧ zK z x0 = 10) <| some ((zF z 647 x0) / (168 : Int32))
set_option maxHeartbeats 4000000 in
set_option maxRecDepth 100000 in
theorem tX11_weekNow_0 {n0 : Nat} {D : va_G} {Y : Nat → ClassId} {p : Program} {l : Launch} {e : Env} {s : State} {m : MethodId} {args : Array Value} {below : List Frame} {meth : Method} {c : Code} {N : Nat} {fin : Int32} {x0 : Nat}  {z : Hp} (C : Cx n0 D Y RX11 cX11_weekNow (some .int) 1 wsX11_weekNow "weekNow" p s m args meth c) {x : (Int32)} (h : fX11_weekNow N x0  z = some x) (hF : (fun x => x = fin) x) {H : Heap} {locs : List Loc} {ls : Array Slot} (hw : Wd n0 D Y z s H locs) (hl : lv_has ls 1 [(0, .ref (n0 + x0))]) : W p l e rmX11_weekNow s m args below meth c H locs 0 0 (MQ below (PosI n0 D Y z fin) args s 0 0 (AA n0)) (F0 m 0 ls []) := by
  unfold fX11_weekNow at h
  refine lv_aload_n C.1 C.2.1 dX11_weekNow_0 rfl (lv_at hl 0 rfl) ?_
  obtain ⟨g1, h⟩ := gdE h
  refine r_get (v := .int (zF z 647 x0)) C hw g1 (by decide) (Cn := RX11) (T := TX11) (N := 12) rfl in_X11_weekNow_X11 7 (by decide) (by decide +kernel) (fun _ h => h) rfl dX11_weekNow_1 ?_
  refine lv_sipush (v := (168 : Int32)) C.1 C.2.1 dX11_weekNow_4 (by decide) ?_
  refine lv_idiv C.1 C.2.1 dX11_weekNow_7 (by decide) ?_
  cases h
  replace hF : _ = fin := hF
  subst hF
  exact r_iret C hw dX11_weekNow_8
set_option maxRecDepth 100000 in
theorem kX11_weekNow (l : Launch) (n0 : Nat) (D : va_G) (Y : Nat → ClassId) (N : Nat) (x0 : Nat) (z : Hp) {r : Int32} (h : fX11_weekNow N x0 z = some r) : Met l yX11_weekNow wsX11_weekNow rmX11_weekNow (PreC n0 D Y z [.ref (n0 + x0)]) (PosI n0 D Y z r) 0 0 (AA n0) := by
  refine Met.ofW (cc := cX11_weekNow) (maxL := 1) (ret := (some .int)) (by decide) rfl ?_
  intro p e s m args below meth c s₁ B hml hv
  obtain ⟨rfl, hR, hK⟩ := hv
  have C : Cx n0 D Y RX11 cX11_weekNow (some .int) 1 wsX11_weekNow "weekNow" p s m ([.ref (n0 + x0)] : List Value).toArray meth c := ⟨B.exec, B.bytes, B.returns, hml, findClass_of_methodNamed B.named, atoms_spec (ws := wsX11_weekNow) B.pre, B.notSynchronized, (name_of_methodNamed B.named B.method).1, hK⟩
  have hl := lv_entry ([.ref (n0 + x0)]) (n := 1) (Nat.le_of_ble_eq_true rfl)
  rw [lg_entry_eq]
  generalize (lg_sl ([.ref (n0 + x0)]) ++ List.replicate (1 - (lg_sl ([.ref (n0 + x0)])).length) Slot.unset).toArray = ls at hl ⊢
  have hl : lv_has ls 1 [(0, .ref (n0 + x0))] := hl
  exact tX11_weekNow_0 C h rfl ⟨hR, va_S.rf⟩ hl
theorem in_X11_go_X11 : ∀ w ∈ wsX110, w ∈ wsX11_go := by decide +kernel
abbrev rmX11_go : Room := { frames := 3, cells := 0, slots := 0, locals := 67 }
noncomputable def fX11_go_44 (N : Nat) (x0 : Nat) (x2 : Int32) (x3 : Int32) (x4 : Int32) (z : Hp) : Option ((Int32 × Hp) ⊕ (Int32 × Hp)) := br (x3 < x4) (lf <| gd (x0 < zn z ∧ zK z x0 = 10) <| bd (zsF z 647 x0 x2) fun z3 => some (x3, z3)) (gd (x0 < zn z ∧ zK z x0 = 10) <| bo (zG z 644 x0) fun b8 => gd (b8 < zn z ∧ zK z b8 = 3) <| bo (fX4_endWeek N b8 z) fun z10 => gd (x0 < zn z10 ∧ zK z10 x0 = 10) <| bo (zG z10 644 x0) fun b14 => gd (b14 < zn z10 ∧ zK z10 b14 = 3) <| bo (fX4_beginWeek N b14 x4 z10) fun z16 => bd (x4 + (1 : Int32)) fun v18 => some (.inl (v18, z16)))
set_option maxHeartbeats 4000000 in
set_option maxRecDepth 100000 in
theorem tX11_go_44 {n0 : Nat} {D : va_G} {Y : Nat → ClassId} {p : Program} {l : Launch} {e : Env} {s : State} {m : MethodId} {args : Array Value} {below : List Frame} {meth : Method} {c : Code} {N : Nat} {fin : Int32 × Hp} {x0 : Nat} {x2 : Int32} {x3 : Int32} {x4 : Int32}  {z : Hp} (C : Cx n0 D Y RX11 cX11_go (some .int) 5 wsX11_go "go" p s m args meth c) {P44 : Int32 × Hp → Prop} (hP44 : ∀ u, P44 u → ∀ (H : Heap) (locs : List Loc) (ls : Array Slot), Wd n0 D Y (u.2) s H locs → lv_has ls 5 [(0, .ref (n0 + x0)), (2, .int x2), (3, .int x3), (4, .int u.1)] → W p l e rmX11_go s m args below meth c H locs 0 0 (MQ below (PosI n0 D Y fin.2 fin.1) args s 0 0 (AA n0)) (F0 m 44 ls [])) {x : ((Int32 × Hp) ⊕ (Int32 × Hp))} (h : fX11_go_44 N x0 x2 x3 x4  z = some x) (hF : (Fn P44 (fun x => x = fin)) x) {H : Heap} {locs : List Loc} {ls : Array Slot} (hw : Wd n0 D Y z s H locs) (hl : lv_has ls 5 [(0, .ref (n0 + x0)), (2, .int x2), (3, .int x3), (4, .int x4)]) : W p l e rmX11_go s m args below meth c H locs 0 0 (MQ below (PosI n0 D Y fin.2 fin.1) args s 0 0 (AA n0)) (F0 m 44 ls []) := by
  unfold fX11_go_44 at h
  refine lv_iload C.1 C.2.1 dX11_go_44 (lv_at hl 3 rfl) ?_
  refine lv_iload_n C.1 C.2.1 dX11_go_46 rfl (lv_at hl 2 rfl) ?_
  refine lv_icmp_gt (tgt := 72) C.1 C.2.1 dX11_go_47 (by decide) (fun c1 => ?_) (fun c1 => ?_)
  · replace h := brT h c1
    obtain ⟨y2, h, hF⟩ := lfX h hF
    refine lv_aload_n C.1 C.2.1 dX11_go_72 rfl (lv_at hl 0 rfl) ?_
    refine lv_iload_n C.1 C.2.1 dX11_go_73 rfl (lv_at hl 1 rfl) ?_
    obtain ⟨g5, h⟩ := gdE h
    obtain ⟨z3, e4, h⟩ := bdE h
    refine r_putI C hw g5 (by decide) (Cn := RX11) (T := TX11) (N := 12) rfl in_X11_go_X11 tyX11 tyX11_ok nmX11 7 (by decide) (by decide +kernel) (fun _ h => h) (Or.inl rfl) (ty := .int) (by decide +kernel) rfl rfl (Nat.le_of_ble_eq_true rfl) (st_10_7 n0 z x0 x2) e4 dX11_go_74 (fun H locs hw => ?_)
    refine lv_iload_n C.1 C.2.1 dX11_go_77 rfl (lv_at hl 2 rfl) ?_
    cases h
    replace hF : _ = fin := hF
    subst hF
    exact r_iret C hw dX11_go_78
  · replace h := brF h c1
    refine lv_aload_n C.1 C.2.1 dX11_go_50 rfl (lv_at hl 0 rfl) ?_
    obtain ⟨g6, h⟩ := gdE h
    refine r_get (v := rv n0 (zG z 644 x0)) C hw g6 (by decide) (Cn := RX11) (T := TX11) (N := 12) rfl in_X11_go_X11 4 (by decide) (by decide +kernel) (fun _ h => h) rfl dX11_go_51 ?_
    obtain ⟨b8, e7, h⟩ := boE h
    refine r_topr e7 ?_
    obtain ⟨g11, h⟩ := gdE h
    obtain ⟨z10, e9, h⟩ := boE h
    refine r_aftv hw (r_runV (As := []) (rest := []) C hw (ki := 3) g11 (by decide) rfl (kX4_endWeek l n0 D Y N b8  z e9) (cwV 0 C.2.2.2.2.2.1 gX11_go_X4_endWeek rfl rfl rfl (by decide +kernel) ⟨(Nat.le_of_ble_eq_true rfl), (Nat.le_of_ble_eq_true rfl)⟩) rfl hl.1 rfl (Nat.le_of_ble_eq_true rfl) dX11_go_54 ⟨(Nat.le_of_ble_eq_true rfl), (Nat.le_of_ble_eq_true rfl)⟩) (fun H locs hw => ?_)
    refine lv_aload_n C.1 C.2.1 dX11_go_57 rfl (lv_at hl 0 rfl) ?_
    obtain ⟨g12, h⟩ := gdE h
    refine r_get (v := rv n0 (zG z10 644 x0)) C hw g12 (by decide) (Cn := RX11) (T := TX11) (N := 12) rfl in_X11_go_X11 4 (by decide) (by decide +kernel) (fun _ h => h) rfl dX11_go_58 ?_
    obtain ⟨b14, e13, h⟩ := boE h
    refine r_topr e13 ?_
    refine lv_iload C.1 C.2.1 dX11_go_61 (lv_at hl 3 rfl) ?_
    obtain ⟨g17, h⟩ := gdE h
    obtain ⟨z16, e15, h⟩ := boE h
    refine r_aftv hw (r_runV (As := [.int x4]) (rest := []) C hw (ki := 3) g17 (by decide) rfl (kX4_beginWeek l n0 D Y N b14 x4 z10 e15) (cwV 1 C.2.2.2.2.2.1 gX11_go_X4_beginWeek rfl rfl rfl (by decide +kernel) ⟨(Nat.le_of_ble_eq_true rfl), (Nat.le_of_ble_eq_true rfl)⟩) rfl hl.1 rfl (Nat.le_of_ble_eq_true rfl) dX11_go_63 ⟨(Nat.le_of_ble_eq_true rfl), (Nat.le_of_ble_eq_true rfl)⟩) (fun H locs hw => ?_)
    obtain ⟨v18, e19, h⟩ := bdE h
    refine lv_iinc (v := v18) (lv' := [(4, .int v18), (0, .ref (n0 + x0)), (2, .int x2), (3, .int x3)]) C.1 C.2.1 dX11_go_66 hl (k := 3) rfl (by rw [e19]; rfl) (by decide) rfl (fun ls hl => ?_)
    refine lv_goto (tgt := 44) C.1 C.2.1 dX11_go_69 (by decide) ?_
    cases h
    exact hP44 _ hF _ _ _ hw (lv_sub hl [1, 2, 3, 0] rfl)
set_option maxHeartbeats 4000000 in
set_option maxRecDepth 100000 in
theorem lX11_go_44 {n0 : Nat} {D : va_G} {Y : Nat → ClassId} {p : Program} {l : Launch} {e : Env} {s : State} {m : MethodId} {args : Array Value} {below : List Frame} {meth : Method} {c : Code} {N : Nat} {fin : Int32 × Hp} {x0 : Nat} {x2 : Int32} {x3 : Int32} (C : Cx n0 D Y RX11 cX11_go (some .int) 5 wsX11_go "go" p s m args meth c) {x : (Int32 × Hp)} : ∀ (n : Nat) (u : Int32 × Hp), wh (fun (u : Int32 × Hp) => fX11_go_44 N x0 x2 x3 u.1 u.2) n u = some x → (fun x => x = fin) x → ∀ (H : Heap) (locs : List Loc) (ls : Array Slot), Wd n0 D Y (u.2) s H locs → lv_has ls 5 [(0, .ref (n0 + x0)), (2, .int x2), (3, .int x3), (4, .int u.1)] → W p l e rmX11_go s m args below meth c H locs 0 0 (MQ below (PosI n0 D Y fin.2 fin.1) args s 0 0 (AA n0)) (F0 m 44 ls []) := fun n u h g => wh_ind (P := fun u => ∀ (H : Heap) (locs : List Loc) (ls : Array Slot), Wd n0 D Y (u.2) s H locs → lv_has ls 5 [(0, .ref (n0 + x0)), (2, .int x2), (3, .int x3), (4, .int u.1)] → W p l e rmX11_go s m args below meth c H locs 0 0 (MQ below (PosI n0 D Y fin.2 fin.1) args s 0 0 (AA n0)) (F0 m 44 ls [])) (G := (fun x => x = fin)) (fun u x h hF H locs ls hw hl => tX11_go_44 C (P44 := fun u => ∀ (H : Heap) (locs : List Loc) (ls : Array Slot), Wd n0 D Y (u.2) s H locs → lv_has ls 5 [(0, .ref (n0 + x0)), (2, .int x2), (3, .int x3), (4, .int u.1)] → W p l e rmX11_go s m args below meth c H locs 0 0 (MQ below (PosI n0 D Y fin.2 fin.1) args s 0 0 (AA n0)) (F0 m 44 ls [])) (fun _ h => h) h hF hw hl) n u x h g
noncomputable def fX11_go (N : Nat) (x0 : Nat) (x1 : Int32) (z : Hp) : Option (Int32 × Hp) := bo (fX11_isOutside N x1 (1 : Int32) (5000 : Int32) z) fun r2 => br (r2 = 0) (gd (x0 < zn z ∧ zK z x0 = 10) <| bd ((zF z 647 x0) + x1) fun v5 => br (v5 < (33600 : Int32)) (bd (v5 / (168 : Int32)) fun v8 => bo (fX11_weekNow N x0 z) fun r11 => bd (r11 + (1 : Int32)) fun v12 => wh (fun (u : Int32 × Hp) => fX11_go_44 N x0 v5 v8 u.1 u.2) N (v12, z)) (some ((-3 : Int32), z))) (some ((-2 : Int32), z))
set_option maxHeartbeats 4000000 in
set_option maxRecDepth 100000 in
theorem tX11_go_0 {n0 : Nat} {D : va_G} {Y : Nat → ClassId} {p : Program} {l : Launch} {e : Env} {s : State} {m : MethodId} {args : Array Value} {below : List Frame} {meth : Method} {c : Code} {N : Nat} {fin : Int32 × Hp} {x0 : Nat} {x1 : Int32}  {z : Hp} (C : Cx n0 D Y RX11 cX11_go (some .int) 5 wsX11_go "go" p s m args meth c) {x : (Int32 × Hp)} (h : fX11_go N x0 x1  z = some x) (hF : (fun x => x = fin) x) {H : Heap} {locs : List Loc} {ls : Array Slot} (hw : Wd n0 D Y z s H locs) (hl : lv_has ls 5 [(0, .ref (n0 + x0)), (1, .int x1)]) : W p l e rmX11_go s m args below meth c H locs 0 0 (MQ below (PosI n0 D Y fin.2 fin.1) args s 0 0 (AA n0)) (F0 m 0 ls []) := by
  unfold fX11_go at h
  refine lv_iload_n C.1 C.2.1 dX11_go_0 rfl (lv_at hl 1 rfl) ?_
  refine lv_iconst (v := (1 : Int32)) C.1 C.2.1 dX11_go_1 (by decide) ?_
  refine lv_sipush (v := (5000 : Int32)) C.1 C.2.1 dX11_go_2 (by decide) ?_
  obtain ⟨r2, e1, h⟩ := boE h
  refine r_afti hw (r_runS (As := [.int x1, .int (1 : Int32), .int (5000 : Int32)]) (rest := []) C hw (kX11_isOutside l n0 D Y N x1 (1 : Int32) (5000 : Int32) z e1) (va_cwS 3 C.2.2.2.2.2.1 gX11_go_X11_isOutside rfl rfl rfl (by decide +kernel) ⟨(Nat.le_of_ble_eq_true rfl), (Nat.le_of_ble_eq_true rfl)⟩) rfl hl.1 rfl (Nat.le_of_ble_eq_true rfl) dX11_go_5 ⟨(Nat.le_of_ble_eq_true rfl), (Nat.le_of_ble_eq_true rfl)⟩) (fun H locs hw => ?_)
  refine lv_if_eq (tgt := 14) C.1 C.2.1 dX11_go_8 (by decide) (fun c3 => ?_) (fun c3 => ?_)
  · replace h := brT h c3
    refine lv_aload_n C.1 C.2.1 dX11_go_14 rfl (lv_at hl 0 rfl) ?_
    obtain ⟨g4, h⟩ := gdE h
    refine r_get (v := .int (zF z 647 x0)) C hw g4 (by decide) (Cn := RX11) (T := TX11) (N := 12) rfl in_X11_go_X11 7 (by decide) (by decide +kernel) (fun _ h => h) rfl dX11_go_15 ?_
    refine lv_iload_n C.1 C.2.1 dX11_go_18 rfl (lv_at hl 1 rfl) ?_
    refine lv_iadd C.1 C.2.1 dX11_go_19 ?_
    obtain ⟨v5, e6, h⟩ := bdE h
    refine r_topi e6 ?_
    refine lv_istore_n (i := 2) (lv' := [(2, .int v5), (0, .ref (n0 + x0)), (1, .int x1)]) C.1 C.2.1 dX11_go_20 rfl hl (by decide) rfl (fun ls hl => ?_)
    refine lv_iload_n C.1 C.2.1 dX11_go_21 rfl (lv_at hl 0 rfl) ?_
    refine lv_ldc (v := (33600 : Int32)) C.1 C.2.1 C.2.2.2.2.1 (C.2.2.2.2.2.1 (.constant RX11 67 (33600 : Int32)) (by decide +kernel)) dX11_go_22 ?_
    refine lv_icmp_lt (tgt := 30) C.1 C.2.1 dX11_go_24 (by decide) (fun c7 => ?_) (fun c7 => ?_)
    · replace h := brT h c7
      refine lv_iload_n C.1 C.2.1 dX11_go_30 rfl (lv_at hl 0 rfl) ?_
      refine lv_sipush (v := (168 : Int32)) C.1 C.2.1 dX11_go_31 (by decide) ?_
      refine lv_idiv C.1 C.2.1 dX11_go_34 (by decide) ?_
      obtain ⟨v8, e9, h⟩ := bdE h
      refine r_topi e9 ?_
      refine lv_istore_n (i := 3) (lv' := [(3, .int v8), (2, .int v5), (0, .ref (n0 + x0)), (1, .int x1)]) C.1 C.2.1 dX11_go_35 rfl hl (by decide) rfl (fun ls hl => ?_)
      refine lv_aload_n C.1 C.2.1 dX11_go_36 rfl (lv_at hl 2 rfl) ?_
      obtain ⟨r11, e10, h⟩ := boE h
      refine r_afti hw (r_runV (As := []) (rest := []) C hw (ki := 10) g4 (by decide) rfl (kX11_weekNow l n0 D Y N x0  z e10) (cwV 0 C.2.2.2.2.2.1 gX11_go_X11_weekNow rfl rfl rfl (by decide +kernel) ⟨(Nat.le_of_ble_eq_true rfl), (Nat.le_of_ble_eq_true rfl)⟩) rfl hl.1 rfl (Nat.le_of_ble_eq_true rfl) dX11_go_37 ⟨(Nat.le_of_ble_eq_true rfl), (Nat.le_of_ble_eq_true rfl)⟩) (fun H locs hw => ?_)
      refine lv_iconst (v := (1 : Int32)) C.1 C.2.1 dX11_go_40 (by decide) ?_
      refine lv_iadd C.1 C.2.1 dX11_go_41 ?_
      obtain ⟨v12, e13, h⟩ := bdE h
      refine r_topi e13 ?_
      refine lv_istore (i := 4) (lv' := [(4, .int v12), (3, .int v8), (2, .int v5), (0, .ref (n0 + x0)), (1, .int x1)]) C.1 C.2.1 dX11_go_42 hl (by decide) rfl (fun ls hl => ?_)
      exact lX11_go_44 C _ _ h hF _ _ _ hw (lv_sub hl [3, 2, 1, 0] rfl)
    · replace h := brF h c7
      refine lv_bipush (v := (-3 : Int32)) C.1 C.2.1 dX11_go_27 (by decide) ?_
      cases h
      replace hF : _ = fin := hF
      subst hF
      exact r_iret C hw dX11_go_29
  · replace h := brF h c3
    refine lv_bipush (v := (-2 : Int32)) C.1 C.2.1 dX11_go_11 (by decide) ?_
    cases h
    replace hF : _ = fin := hF
    subst hF
    exact r_iret C hw dX11_go_13
set_option maxRecDepth 100000 in
theorem kX11_go (l : Launch) (n0 : Nat) (D : va_G) (Y : Nat → ClassId) (N : Nat) (x0 : Nat) (x1 : Int32) (z : Hp) {r : Int32} {z1 : Hp} (h : fX11_go N x0 x1 z = some (r, z1)) : Met l yX11_go wsX11_go rmX11_go (PreC n0 D Y z [.ref (n0 + x0), .int x1]) (PosI n0 D Y z1 r) 0 0 (AA n0) := by
  refine Met.ofW (cc := cX11_go) (maxL := 5) (ret := (some .int)) (by decide) rfl ?_
  intro p e s m args below meth c s₁ B hml hv
  obtain ⟨rfl, hR, hK⟩ := hv
  have C : Cx n0 D Y RX11 cX11_go (some .int) 5 wsX11_go "go" p s m ([.ref (n0 + x0), .int x1] : List Value).toArray meth c := ⟨B.exec, B.bytes, B.returns, hml, findClass_of_methodNamed B.named, atoms_spec (ws := wsX11_go) B.pre, B.notSynchronized, (name_of_methodNamed B.named B.method).1, hK⟩
  have hl := lv_entry ([.ref (n0 + x0), .int x1]) (n := 5) (Nat.le_of_ble_eq_true rfl)
  rw [lg_entry_eq]
  generalize (lg_sl ([.ref (n0 + x0), .int x1]) ++ List.replicate (5 - (lg_sl ([.ref (n0 + x0), .int x1])).length) Slot.unset).toArray = ls at hl ⊢
  have hl : lv_has ls 5 [(0, .ref (n0 + x0)), (1, .int x1)] := hl
  exact tX11_go_0 C h rfl ⟨hR, va_S.rf⟩ hl
theorem in_X11_baker_X0 : ∀ w ∈ wsX00, w ∈ wsX11_baker := by decide +kernel
theorem in_X11_baker_X11 : ∀ w ∈ wsX110, w ∈ wsX11_baker := by decide +kernel
abbrev rmX11_baker : Room := { frames := 2, cells := 1, slots := 8, locals := 44 }
noncomputable def fX11_baker (N : Nat) (x0 : Nat) (z : Hp) : Option (Int32 × Hp) := gd (x0 < zn z ∧ zK z x0 = 10) <| br ((zF z 646 x0) < (8 : Int32)) (bo (zG z 645 x0) fun b4 => bd (zal z 0 0) fun z5 => bo (fX0_init N (zn z) z5) fun z9 => gd (b4 < zn z9 ∧ zK z9 b4 = 15) <| gd (¬ ((zF z 646 x0) < 0 ∨ zL z9 b4 ≤ Int32.toNatClampNeg (zF z 646 x0))) <| gd ((zn z) < zn z9 ∧ zK z9 (zn z) = 0) <| bd (zsR z9 b4 (Int32.toNatClampNeg (zF z 646 x0)) (some (zn z))) fun z13 => gd (x0 < zn z13 ∧ zK z13 x0 = 10) <| bd (zsF z13 646 x0 ((zF z13 646 x0) + (1 : Int32))) fun z16 => bo (zG z16 643 x0) fun b20 => gd (b20 < zn z16 ∧ zK z16 b20 = 9) <| bo (fX10_dropRow N b20 z16) fun z22 => gd (x0 < zn z22 ∧ zK z22 x0 = 10) <| some (((zF z22 646 x0) - (1 : Int32)), z22)) (some ((-4 : Int32), z))
set_option maxHeartbeats 4000000 in
set_option maxRecDepth 100000 in
theorem tX11_baker_0 {n0 : Nat} {D : va_G} {Y : Nat → ClassId} {p : Program} {l : Launch} {e : Env} {s : State} {m : MethodId} {args : Array Value} {below : List Frame} {meth : Method} {c : Code} {N : Nat} {fin : Int32 × Hp} {x0 : Nat}  {z : Hp} (C : Cx n0 D Y RX11 cX11_baker (some .int) 1 wsX11_baker "baker" p s m args meth c) {x : (Int32 × Hp)} (h : fX11_baker N x0  z = some x) (hF : (fun x => x = fin) x) {H : Heap} {locs : List Loc} {ls : Array Slot} (hw : Wd n0 D Y z s H locs) (hl : lv_has ls 1 [(0, .ref (n0 + x0))]) : W p l e rmX11_baker s m args below meth c H locs 0 0 (MQ below (PosI n0 D Y fin.2 fin.1) args s 1 8 (AA n0)) (F0 m 0 ls []) := by
  unfold fX11_baker at h
  refine lv_aload_n C.1 C.2.1 dX11_baker_0 rfl (lv_at hl 0 rfl) ?_
  obtain ⟨g1, h⟩ := gdE h
  refine r_get (v := .int (zF z 646 x0)) C hw g1 (by decide) (Cn := RX11) (T := TX11) (N := 12) rfl in_X11_baker_X11 6 (by decide) (by decide +kernel) (fun _ h => h) rfl dX11_baker_1 ?_
  refine lv_bipush (v := (8 : Int32)) C.1 C.2.1 dX11_baker_4 (by decide) ?_
  refine lv_icmp_lt (tgt := 12) C.1 C.2.1 dX11_baker_6 (by decide) (fun c2 => ?_) (fun c2 => ?_)
  · replace h := brT h c2
    refine lv_aload_n C.1 C.2.1 dX11_baker_12 rfl (lv_at hl 0 rfl) ?_
    refine r_get (v := rv n0 (zG z 645 x0)) C hw g1 (by decide) (Cn := RX11) (T := TX11) (N := 12) rfl in_X11_baker_X11 5 (by decide) (by decide +kernel) (fun _ h => h) rfl dX11_baker_13 ?_
    obtain ⟨b4, e3, h⟩ := boE h
    refine r_topr e3 ?_
    refine lv_aload_n C.1 C.2.1 dX11_baker_16 rfl (lv_at hl 0 rfl) ?_
    refine r_get (v := .int (zF z 646 x0)) C hw g1 (by decide) (Cn := RX11) (T := TX11) (N := 12) rfl in_X11_baker_X11 6 (by decide) (by decide +kernel) (fun _ h => h) rfl dX11_baker_17 ?_
    obtain ⟨z5, e6, h⟩ := bdE h
    refine r_new C hw 0 (by decide) (Cn := RX0) (T := TX0) (N := 8) rfl in_X11_baker_X0 tyX0 tyX0_ok (by decide +kernel) (by decide +kernel) (by decide +kernel) (nw_0 n0 z) (by decide) (by decide) dX11_baker_20 (fun H hw => ?_)
    rw [← e6] at hw
    have g7 : (zn z) < zn z5 ∧ zK z5 (zn z) = 0 := by rw [e6]; exact ok_new _ _ _
    refine lv_dup C.1 C.2.1 dX11_baker_23 rfl ?_
    obtain ⟨z9, e8, h⟩ := boE h
    refine r_aftv hw (r_runIN (As := []) (rest := [.ref (n0 + (zn z)), .int (zF z 646 x0), .ref (n0 + b4)]) C hw (kX0_init l n0 D Y N (zn z)  z5 e8) ⟨va_cnB 0 C.2.2.2.2.2.1 gX11_baker_X0_init_n82 rfl rfl rfl C.2.2.2.2.2.2.2.2.2.2.2.2 (C.2.2.2.2.2.1 (.initialized RX0) (by decide +kernel)) (by decide +kernel) ⟨(Nat.le_of_ble_eq_true rfl), (Nat.le_of_ble_eq_true rfl)⟩, rfl, C.2.2.2.2.2.1 (.instanceMethod yX0_init) (by decide +kernel)⟩ rfl hl.1 rfl (Nat.le_of_ble_eq_true rfl) dX11_baker_24 ⟨(Nat.le_of_ble_eq_true rfl), (Nat.le_of_ble_eq_true rfl)⟩) (fun H locs hw => ?_)
    obtain ⟨g10, h⟩ := gdE h
    obtain ⟨i11, h⟩ := gdE h
    obtain ⟨g12, h⟩ := gdE h
    obtain ⟨z13, e14, h⟩ := bdE h
    refine r_aast C hw (ki := 15) (kv := 0) (t0 := 3) (E := RX0) g10 (by decide) rfl g12 (by decide) rfl (asg_self C 0 rfl) i11 e14 dX11_baker_27 (fun H locs hw => ?_)
    refine lv_aload_n C.1 C.2.1 dX11_baker_28 rfl (lv_at hl 0 rfl) ?_
    refine lv_dup C.1 C.2.1 dX11_baker_29 rfl ?_
    obtain ⟨g15, h⟩ := gdE h
    refine r_get (v := .int (zF z13 646 x0)) C hw g15 (by decide) (Cn := RX11) (T := TX11) (N := 12) rfl in_X11_baker_X11 6 (by decide) (by decide +kernel) (fun _ h => h) rfl dX11_baker_30 ?_
    refine lv_iconst (v := (1 : Int32)) C.1 C.2.1 dX11_baker_33 (by decide) ?_
    refine lv_iadd C.1 C.2.1 dX11_baker_34 ?_
    obtain ⟨z16, e17, h⟩ := bdE h
    refine r_putI C hw g15 (by decide) (Cn := RX11) (T := TX11) (N := 12) rfl in_X11_baker_X11 tyX11 tyX11_ok nmX11 6 (by decide) (by decide +kernel) (fun _ h => h) (Or.inl rfl) (ty := .int) (by decide +kernel) rfl rfl (Nat.le_of_ble_eq_true rfl) (st_10_6 n0 z13 x0 ((zF z13 646 x0) + (1 : Int32))) e17 dX11_baker_35 (fun H locs hw => ?_)
    refine lv_aload_n C.1 C.2.1 dX11_baker_38 rfl (lv_at hl 0 rfl) ?_
    have g18 : x0 < zn z16 ∧ zK z16 x0 = 10 := by rw [e17]; exact g15
    refine r_get (v := rv n0 (zG z16 643 x0)) C hw g18 (by decide) (Cn := RX11) (T := TX11) (N := 12) rfl in_X11_baker_X11 3 (by decide) (by decide +kernel) (fun _ h => h) rfl dX11_baker_39 ?_
    obtain ⟨b20, e19, h⟩ := boE h
    refine r_topr e19 ?_
    obtain ⟨g23, h⟩ := gdE h
    obtain ⟨z22, e21, h⟩ := boE h
    refine r_aftv hw (r_runV (As := []) (rest := []) C hw (ki := 9) g23 (by decide) rfl (kX10_dropRow l n0 D Y N b20  z16 e21) (cwV 0 C.2.2.2.2.2.1 gX11_baker_X10_dropRow rfl rfl rfl (by decide +kernel) ⟨(Nat.le_of_ble_eq_true rfl), (Nat.le_of_ble_eq_true rfl)⟩) rfl hl.1 rfl (Nat.le_of_ble_eq_true rfl) dX11_baker_42 ⟨(Nat.le_of_ble_eq_true rfl), (Nat.le_of_ble_eq_true rfl)⟩) (fun H locs hw => ?_)
    refine lv_aload_n C.1 C.2.1 dX11_baker_45 rfl (lv_at hl 0 rfl) ?_
    obtain ⟨g24, h⟩ := gdE h
    refine r_get (v := .int (zF z22 646 x0)) C hw g24 (by decide) (Cn := RX11) (T := TX11) (N := 12) rfl in_X11_baker_X11 6 (by decide) (by decide +kernel) (fun _ h => h) rfl dX11_baker_46 ?_
    refine lv_iconst (v := (1 : Int32)) C.1 C.2.1 dX11_baker_49 (by decide) ?_
    refine lv_isub C.1 C.2.1 dX11_baker_50 ?_
    cases h
    replace hF : _ = fin := hF
    subst hF
    exact r_iret C hw dX11_baker_51
  · replace h := brF h c2
    refine lv_bipush (v := (-4 : Int32)) C.1 C.2.1 dX11_baker_9 (by decide) ?_
    cases h
    replace hF : _ = fin := hF
    subst hF
    refine W.widen (k := 1) (n := 8) (by decide) (by decide) ?_
    exact r_iret C hw dX11_baker_11
set_option maxRecDepth 100000 in
theorem kX11_baker (l : Launch) (n0 : Nat) (D : va_G) (Y : Nat → ClassId) (N : Nat) (x0 : Nat) (z : Hp) {r : Int32} {z1 : Hp} (h : fX11_baker N x0 z = some (r, z1)) : Met l yX11_baker wsX11_baker rmX11_baker (PreC n0 D Y z [.ref (n0 + x0)]) (PosI n0 D Y z1 r) 1 8 (AA n0) := by
  refine Met.ofW (cc := cX11_baker) (maxL := 1) (ret := (some .int)) (by decide) rfl ?_
  intro p e s m args below meth c s₁ B hml hv
  obtain ⟨rfl, hR, hK⟩ := hv
  have C : Cx n0 D Y RX11 cX11_baker (some .int) 1 wsX11_baker "baker" p s m ([.ref (n0 + x0)] : List Value).toArray meth c := ⟨B.exec, B.bytes, B.returns, hml, findClass_of_methodNamed B.named, atoms_spec (ws := wsX11_baker) B.pre, B.notSynchronized, (name_of_methodNamed B.named B.method).1, hK⟩
  have hl := lv_entry ([.ref (n0 + x0)]) (n := 1) (Nat.le_of_ble_eq_true rfl)
  rw [lg_entry_eq]
  generalize (lg_sl ([.ref (n0 + x0)]) ++ List.replicate (1 - (lg_sl ([.ref (n0 + x0)])).length) Slot.unset).toArray = ls at hl ⊢
  have hl : lv_has ls 1 [(0, .ref (n0 + x0))] := hl
  exact tX11_baker_0 C h rfl ⟨hR, va_S.rf⟩ hl
theorem in_X11_bakerAt_X11 : ∀ w ∈ wsX110, w ∈ wsX11_bakerAt := by decide +kernel
abbrev rmX11_bakerAt : Room := { frames := 0, cells := 0, slots := 0, locals := 0 }
noncomputable def fX11_bakerAt_12 (N : Nat) (x0 : Nat) (z : Hp) : Option (Option Nat) := some (none : Option Nat)
set_option maxHeartbeats 4000000 in
set_option maxRecDepth 100000 in
theorem tX11_bakerAt_12 {n0 : Nat} {D : va_G} {Y : Nat → ClassId} {p : Program} {l : Launch} {e : Env} {s : State} {m : MethodId} {args : Array Value} {below : List Frame} {meth : Method} {c : Code} {N : Nat} {fin : Option Nat} {x0 : Nat}  {z : Hp} (C : Cx n0 D Y RX11 cX11_bakerAt (some (.object "BreadLaw$Baker")) 2 wsX11_bakerAt "bakerAt" p s m args meth c) {x : (Option Nat)} (h : fX11_bakerAt_12 N x0  z = some x) (hF : (fun x => x = fin) x) {H : Heap} {locs : List Loc} {ls : Array Slot} (hw : Wd n0 D Y z s H locs) (hl : lv_has ls 2 [(0, .ref (n0 + x0))]) : W p l e rmX11_bakerAt s m args below meth c H locs 0 0 (MQ below (PosQ n0 D Y z fin) args s 0 0 (AA n0)) (F0 m 12 ls []) := by
  unfold fX11_bakerAt_12 at h
  refine lv_null C.1 C.2.1 dX11_bakerAt_12 ?_
  refine lv_goto (tgt := 22) C.1 C.2.1 dX11_bakerAt_13 (by decide) ?_
  cases h
  replace hF : _ = fin := hF
  subst hF
  exact r_aret (r := (none : Option Nat)) C hw dX11_bakerAt_22
noncomputable def fX11_bakerAt (N : Nat) (x0 : Nat) (x1 : Int32) (z : Hp) : Option (Option Nat) := br (x1 < 0) (fX11_bakerAt_12 N x0 z) (gd (x0 < zn z ∧ zK z x0 = 10) <| br (x1 < (zF z 646 x0)) (bo (zG z 645 x0) fun b5 => gd (b5 < zn z ∧ zK z b5 = 15) <| gd (¬ (x1 < 0 ∨ zL z b5 ≤ (x1).toNatClampNeg)) <| bd (zR z b5 (x1).toNatClampNeg) fun q8 => some q8) (fX11_bakerAt_12 N x0 z))
set_option maxHeartbeats 4000000 in
set_option maxRecDepth 100000 in
theorem tX11_bakerAt_0 {n0 : Nat} {D : va_G} {Y : Nat → ClassId} {p : Program} {l : Launch} {e : Env} {s : State} {m : MethodId} {args : Array Value} {below : List Frame} {meth : Method} {c : Code} {N : Nat} {fin : Option Nat} {x0 : Nat} {x1 : Int32}  {z : Hp} (C : Cx n0 D Y RX11 cX11_bakerAt (some (.object "BreadLaw$Baker")) 2 wsX11_bakerAt "bakerAt" p s m args meth c) {x : (Option Nat)} (h : fX11_bakerAt N x0 x1  z = some x) (hF : (fun x => x = fin) x) {H : Heap} {locs : List Loc} {ls : Array Slot} (hw : Wd n0 D Y z s H locs) (hl : lv_has ls 2 [(0, .ref (n0 + x0)), (1, .int x1)]) : W p l e rmX11_bakerAt s m args below meth c H locs 0 0 (MQ below (PosQ n0 D Y z fin) args s 0 0 (AA n0)) (F0 m 0 ls []) := by
  unfold fX11_bakerAt at h
  refine lv_iload_n C.1 C.2.1 dX11_bakerAt_0 rfl (lv_at hl 1 rfl) ?_
  refine lv_if_lt (tgt := 12) C.1 C.2.1 dX11_bakerAt_1 (by decide) (fun c1 => ?_) (fun c1 => ?_)
  · replace h := brT h c1
    exact tX11_bakerAt_12 C h hF hw (lv_sub hl [0] rfl)
  · replace h := brF h c1
    refine lv_iload_n C.1 C.2.1 dX11_bakerAt_4 rfl (lv_at hl 1 rfl) ?_
    refine lv_aload_n C.1 C.2.1 dX11_bakerAt_5 rfl (lv_at hl 0 rfl) ?_
    obtain ⟨g2, h⟩ := gdE h
    refine r_get (v := .int (zF z 646 x0)) C hw g2 (by decide) (Cn := RX11) (T := TX11) (N := 12) rfl in_X11_bakerAt_X11 6 (by decide) (by decide +kernel) (fun _ h => h) rfl dX11_bakerAt_6 ?_
    refine lv_icmp_lt (tgt := 16) C.1 C.2.1 dX11_bakerAt_9 (by decide) (fun c3 => ?_) (fun c3 => ?_)
    · replace h := brT h c3
      refine lv_aload_n C.1 C.2.1 dX11_bakerAt_16 rfl (lv_at hl 0 rfl) ?_
      refine r_get (v := rv n0 (zG z 645 x0)) C hw g2 (by decide) (Cn := RX11) (T := TX11) (N := 12) rfl in_X11_bakerAt_X11 5 (by decide) (by decide +kernel) (fun _ h => h) rfl dX11_bakerAt_17 ?_
      obtain ⟨b5, e4, h⟩ := boE h
      refine r_topr e4 ?_
      refine lv_iload_n C.1 C.2.1 dX11_bakerAt_20 rfl (lv_at hl 1 rfl) ?_
      obtain ⟨g6, h⟩ := gdE h
      obtain ⟨i7, h⟩ := gdE h
      refine r_aald C hw (ki := 15) (t0 := 3) (E := RX0) g6 (by decide) rfl i7 dX11_bakerAt_21 ?_
      obtain ⟨q8, e9, h⟩ := bdE h
      refine r_topq e9 ?_
      cases h
      replace hF : _ = fin := hF
      subst hF
      exact r_aret C hw dX11_bakerAt_22
    · replace h := brF h c3
      exact tX11_bakerAt_12 C h hF hw (lv_sub hl [0] rfl)
set_option maxRecDepth 100000 in
theorem kX11_bakerAt (l : Launch) (n0 : Nat) (D : va_G) (Y : Nat → ClassId) (N : Nat) (x0 : Nat) (x1 : Int32) (z : Hp) {r : Option Nat} (h : fX11_bakerAt N x0 x1 z = some r) : Met l yX11_bakerAt wsX11_bakerAt rmX11_bakerAt (PreC n0 D Y z [.ref (n0 + x0), .int x1]) (PosQ n0 D Y z r) 0 0 (AA n0) := by
  refine Met.ofW (cc := cX11_bakerAt) (maxL := 2) (ret := (some (.object "BreadLaw$Baker"))) (by decide) rfl ?_
  intro p e s m args below meth c s₁ B hml hv
  obtain ⟨rfl, hR, hK⟩ := hv
  have C : Cx n0 D Y RX11 cX11_bakerAt (some (.object "BreadLaw$Baker")) 2 wsX11_bakerAt "bakerAt" p s m ([.ref (n0 + x0), .int x1] : List Value).toArray meth c := ⟨B.exec, B.bytes, B.returns, hml, findClass_of_methodNamed B.named, atoms_spec (ws := wsX11_bakerAt) B.pre, B.notSynchronized, (name_of_methodNamed B.named B.method).1, hK⟩
  have hl := lv_entry ([.ref (n0 + x0), .int x1]) (n := 2) (Nat.le_of_ble_eq_true rfl)
  rw [lg_entry_eq]
  generalize (lg_sl ([.ref (n0 + x0), .int x1]) ++ List.replicate (2 - (lg_sl ([.ref (n0 + x0), .int x1])).length) Slot.unset).toArray = ls at hl ⊢
  have hl : lv_has ls 2 [(0, .ref (n0 + x0)), (1, .int x1)] := hl
  exact tX11_bakerAt_0 C h rfl ⟨hR, va_S.rf⟩ hl
theorem in_X11_buy_X0 : ∀ w ∈ wsX00, w ∈ wsX11_buy := by decide +kernel
theorem in_X11_buy_X11 : ∀ w ∈ wsX110, w ∈ wsX11_buy := by decide +kernel
theorem in_X11_buy_X2 : ∀ w ∈ wsX20, w ∈ wsX11_buy := by decide +kernel
theorem in_X11_buy_X6 : ∀ w ∈ wsX60, w ∈ wsX11_buy := by decide +kernel
abbrev rmX11_buy : Room := { frames := 3, cells := 1, slots := 8, locals := 73 }
noncomputable def fX11_buy_35 (N : Nat) (x0 : Nat) (z : Hp) : Option (Int32 × Hp) := some ((-2 : Int32), z)
set_option maxHeartbeats 4000000 in
set_option maxRecDepth 100000 in
theorem tX11_buy_35 {n0 : Nat} {D : va_G} {Y : Nat → ClassId} {p : Program} {l : Launch} {e : Env} {s : State} {m : MethodId} {args : Array Value} {below : List Frame} {meth : Method} {c : Code} {N : Nat} {fin : Int32 × Hp} {x0 : Nat}  {z : Hp} (C : Cx n0 D Y RX11 cX11_buy (some .int) 6 wsX11_buy "buy" p s m args meth c) {x : (Int32 × Hp)} (h : fX11_buy_35 N x0  z = some x) (hF : (fun x => x = fin) x) {H : Heap} {locs : List Loc} {ls : Array Slot} (hw : Wd n0 D Y z s H locs) (hl : lv_has ls 6 [(0, .ref (n0 + x0))]) : W p l e rmX11_buy s m args below meth c H locs 0 0 (MQ below (PosI n0 D Y fin.2 fin.1) args s 1 8 (AA n0)) (F0 m 35 ls []) := by
  unfold fX11_buy_35 at h
  refine lv_bipush (v := (-2 : Int32)) C.1 C.2.1 dX11_buy_35 (by decide) ?_
  cases h
  replace hF : _ = fin := hF
  subst hF
  refine W.widen (k := 1) (n := 8) (by decide) (by decide) ?_
  exact r_iret C hw dX11_buy_37
noncomputable def fX11_buy (N : Nat) (x0 : Nat) (x1 : Int32) (x2 : Int32) (x3 : Int32) (z : Hp) : Option (Int32 × Hp) := gd (x0 < zn z ∧ zK z x0 = 10) <| bo (fX11_bakerAt N x0 x1 z) fun q2 => cs q2 (some ((-1 : Int32), z)) (fun b4 => bo (fX11_isOutside N x2 (1 : Int32) (100000 : Int32) z) fun r7 => br (r7 = 0) (bo (fX11_isOutside N x3 (1 : Int32) (1000 : Int32) z) fun r10 => br (r10 = 0) (bo (zG z 640 x0) fun b13 => gd (b13 < zn z ∧ zK z b13 = 2) <| bo (fX2_isFull N b13 z) fun r15 => br (r15 = 0) (bd (zal z 5 0) fun z18 => bo (zG z18 640 x0) fun b23 => gd (b23 < zn z18 ∧ zK z18 b23 = 2) <| bo (fX6_init N (zn z) (zF z18 132 b23) (zF z18 647 x0) x1 x2 x3 z18) fun z26 => gd (x0 < zn z26 ∧ zK z26 x0 = 10) <| bo (zG z26 640 x0) fun b29 => gd (b29 < zn z26 ∧ zK z26 b29 = 2) <| bo (fX2_enter N b29 (zn z) z26) fun z31 => gd (x0 < zn z31 ∧ zK z31 x0 = 10) <| bo (zG z31 641 x0) fun b35 => gd (b35 < zn z31 ∧ zK z31 b35 = 6) <| bo (fX7_note N b35 (zn z) z31) fun z37 => gd (b4 < zn z37 ∧ zK z37 b4 = 0) <| bd (zsF z37 1 b4 ((zF z37 1 b4) + (1 : Int32))) fun z40 => gd ((zn z) < zn z40 ∧ zK z40 (zn z) = 5) <| some ((zF z40 769 (zn z)), z40)) (some ((-4 : Int32), z))) (fX11_buy_35 N x0 z)) (fX11_buy_35 N x0 z))
set_option maxHeartbeats 4000000 in
set_option maxRecDepth 100000 in
theorem tX11_buy_0 {n0 : Nat} {D : va_G} {Y : Nat → ClassId} {p : Program} {l : Launch} {e : Env} {s : State} {m : MethodId} {args : Array Value} {below : List Frame} {meth : Method} {c : Code} {N : Nat} {fin : Int32 × Hp} {x0 : Nat} {x1 : Int32} {x2 : Int32} {x3 : Int32}  {z : Hp} (C : Cx n0 D Y RX11 cX11_buy (some .int) 6 wsX11_buy "buy" p s m args meth c) {x : (Int32 × Hp)} (h : fX11_buy N x0 x1 x2 x3  z = some x) (hF : (fun x => x = fin) x) {H : Heap} {locs : List Loc} {ls : Array Slot} (hw : Wd n0 D Y z s H locs) (hl : lv_has ls 6 [(0, .ref (n0 + x0)), (1, .int x1), (2, .int x2), (3, .int x3)]) : W p l e rmX11_buy s m args below meth c H locs 0 0 (MQ below (PosI n0 D Y fin.2 fin.1) args s 1 8 (AA n0)) (F0 m 0 ls []) := by
  unfold fX11_buy at h
  refine lv_aload_n C.1 C.2.1 dX11_buy_0 rfl (lv_at hl 0 rfl) ?_
  refine lv_iload_n C.1 C.2.1 dX11_buy_1 rfl (lv_at hl 1 rfl) ?_
  obtain ⟨g3, h⟩ := gdE h
  obtain ⟨q2, e1, h⟩ := boE h
  refine r_aftq hw (r_runV (As := [.int x1]) (rest := []) C hw (ki := 10) g3 (by decide) rfl (kX11_bakerAt l n0 D Y N x0 x1 z e1) (cwV 1 C.2.2.2.2.2.1 gX11_buy_X11_bakerAt rfl rfl rfl (by decide +kernel) ⟨(Nat.le_of_ble_eq_true rfl), (Nat.le_of_ble_eq_true rfl)⟩) rfl hl.1 rfl (Nat.le_of_ble_eq_true rfl) dX11_buy_2 ⟨(Nat.le_of_ble_eq_true rfl), (Nat.le_of_ble_eq_true rfl)⟩) (fun H locs hw => ?_)
  refine r_astore (i := 4) (r := q2) (lv' := [(4, rv n0 q2), (0, .ref (n0 + x0)), (1, .int x1), (2, .int x2), (3, .int x3)]) C dX11_buy_5 hl (by decide) rfl (fun ls hl => ?_)
  refine r_aload (r := q2) C dX11_buy_7 (lv_at hl 0 rfl) ?_
  refine r_ifnonnull (tgt := 14) C dX11_buy_9 (by decide) (fun c5 => ?_) (fun b4 c5 => ?_)
  · subst c5
    replace h := csN h
    refine lv_iconst (v := (-1 : Int32)) C.1 C.2.1 dX11_buy_12 (by decide) ?_
    cases h
    replace hF : _ = fin := hF
    subst hF
    refine W.widen (k := 1) (n := 8) (by decide) (by decide) ?_
    exact r_iret C hw dX11_buy_13
  · subst c5
    replace h := csS h
    refine lv_iload_n C.1 C.2.1 dX11_buy_14 rfl (lv_at hl 3 rfl) ?_
    refine lv_iconst (v := (1 : Int32)) C.1 C.2.1 dX11_buy_15 (by decide) ?_
    refine lv_ldc (v := (100000 : Int32)) C.1 C.2.1 C.2.2.2.2.1 (C.2.2.2.2.2.1 (.constant RX11 90 (100000 : Int32)) (by decide +kernel)) dX11_buy_16 ?_
    obtain ⟨r7, e6, h⟩ := boE h
    refine r_afti hw (r_runS (As := [.int x2, .int (1 : Int32), .int (100000 : Int32)]) (rest := []) C hw (kX11_isOutside l n0 D Y N x2 (1 : Int32) (100000 : Int32) z e6) (va_cwS 3 C.2.2.2.2.2.1 gX11_buy_X11_isOutside rfl rfl rfl (by decide +kernel) ⟨(Nat.le_of_ble_eq_true rfl), (Nat.le_of_ble_eq_true rfl)⟩) rfl hl.1 rfl (Nat.le_of_ble_eq_true rfl) dX11_buy_18 ⟨(Nat.le_of_ble_eq_true rfl), (Nat.le_of_ble_eq_true rfl)⟩) (fun H locs hw => ?_)
    refine lv_if_ne (tgt := 35) C.1 C.2.1 dX11_buy_21 (by decide) (fun c8 => ?_) (fun c8 => ?_)
    · replace h := brF h c8
      exact tX11_buy_35 C h hF hw (lv_sub hl [1] rfl)
    · replace h := brT h c8
      refine lv_iload_n C.1 C.2.1 dX11_buy_24 rfl (lv_at hl 4 rfl) ?_
      refine lv_iconst (v := (1 : Int32)) C.1 C.2.1 dX11_buy_25 (by decide) ?_
      refine lv_sipush (v := (1000 : Int32)) C.1 C.2.1 dX11_buy_26 (by decide) ?_
      obtain ⟨r10, e9, h⟩ := boE h
      refine r_afti hw (r_runS (As := [.int x3, .int (1 : Int32), .int (1000 : Int32)]) (rest := []) C hw (kX11_isOutside l n0 D Y N x3 (1 : Int32) (1000 : Int32) z e9) (va_cwS 3 C.2.2.2.2.2.1 gX11_buy_X11_isOutside rfl rfl rfl (by decide +kernel) ⟨(Nat.le_of_ble_eq_true rfl), (Nat.le_of_ble_eq_true rfl)⟩) rfl hl.1 rfl (Nat.le_of_ble_eq_true rfl) dX11_buy_29 ⟨(Nat.le_of_ble_eq_true rfl), (Nat.le_of_ble_eq_true rfl)⟩) (fun H locs hw => ?_)
      refine lv_if_eq (tgt := 38) C.1 C.2.1 dX11_buy_32 (by decide) (fun c11 => ?_) (fun c11 => ?_)
      · replace h := brT h c11
        refine lv_aload_n C.1 C.2.1 dX11_buy_38 rfl (lv_at hl 1 rfl) ?_
        refine r_get (v := rv n0 (zG z 640 x0)) C hw g3 (by decide) (Cn := RX11) (T := TX11) (N := 12) rfl in_X11_buy_X11 0 (by decide) (by decide +kernel) (fun _ h => h) rfl dX11_buy_39 ?_
        obtain ⟨b13, e12, h⟩ := boE h
        refine r_topr e12 ?_
        obtain ⟨g16, h⟩ := gdE h
        obtain ⟨r15, e14, h⟩ := boE h
        refine r_afti hw (r_runV (As := []) (rest := []) C hw (ki := 2) g16 (by decide) rfl (kX2_isFull l n0 D Y N b13  z e14) (cwV 0 C.2.2.2.2.2.1 gX11_buy_X2_isFull rfl rfl rfl (by decide +kernel) ⟨(Nat.le_of_ble_eq_true rfl), (Nat.le_of_ble_eq_true rfl)⟩) rfl hl.1 rfl (Nat.le_of_ble_eq_true rfl) dX11_buy_42 ⟨(Nat.le_of_ble_eq_true rfl), (Nat.le_of_ble_eq_true rfl)⟩) (fun H locs hw => ?_)
        refine lv_if_eq (tgt := 51) C.1 C.2.1 dX11_buy_45 (by decide) (fun c17 => ?_) (fun c17 => ?_)
        · replace h := brT h c17
          obtain ⟨z18, e19, h⟩ := bdE h
          refine r_new C hw 5 (by decide) (Cn := RX6) (T := TX6) (N := 8) rfl in_X11_buy_X6 tyX6 tyX6_ok (by decide +kernel) (by decide +kernel) (by decide +kernel) (nw_5 n0 z) (by decide) (by decide) dX11_buy_51 (fun H hw => ?_)
          rw [← e19] at hw
          have g20 : (zn z) < zn z18 ∧ zK z18 (zn z) = 5 := by rw [e19]; exact ok_new _ _ _
          refine lv_dup C.1 C.2.1 dX11_buy_54 rfl ?_
          refine lv_aload_n C.1 C.2.1 dX11_buy_55 rfl (lv_at hl 1 rfl) ?_
          have g21 : x0 < zn z18 ∧ zK z18 x0 = 10 := by rw [e19]; exact ok_al _ _ g3
          refine r_get (v := rv n0 (zG z18 640 x0)) C hw g21 (by decide) (Cn := RX11) (T := TX11) (N := 12) rfl in_X11_buy_X11 0 (by decide) (by decide +kernel) (fun _ h => h) rfl dX11_buy_56 ?_
          obtain ⟨b23, e22, h⟩ := boE h
          refine r_topr e22 ?_
          obtain ⟨g24, h⟩ := gdE h
          refine r_get (v := .int (zF z18 132 b23)) C hw g24 (by decide) (Cn := RX2) (T := TX2) (N := 7) rfl in_X11_buy_X2 4 (by decide) (by decide +kernel) (fun _ h => h) rfl dX11_buy_59 ?_
          refine lv_aload_n C.1 C.2.1 dX11_buy_62 rfl (lv_at hl 1 rfl) ?_
          refine r_get (v := .int (zF z18 647 x0)) C hw g21 (by decide) (Cn := RX11) (T := TX11) (N := 12) rfl in_X11_buy_X11 7 (by decide) (by decide +kernel) (fun _ h => h) rfl dX11_buy_63 ?_
          refine lv_iload_n C.1 C.2.1 dX11_buy_66 rfl (lv_at hl 2 rfl) ?_
          refine lv_iload_n C.1 C.2.1 dX11_buy_67 rfl (lv_at hl 3 rfl) ?_
          refine lv_iload_n C.1 C.2.1 dX11_buy_68 rfl (lv_at hl 4 rfl) ?_
          obtain ⟨z26, e25, h⟩ := boE h
          refine r_aftv hw (r_runI (As := [.int (zF z18 132 b23), .int (zF z18 647 x0), .int x1, .int x2, .int x3]) (rest := [.ref (n0 + (zn z))]) C hw (kX6_init l n0 D Y N (zn z) (zF z18 132 b23) (zF z18 647 x0) x1 x2 x3 z18 e25) (cwI 5 C.2.2.2.2.2.1 gX11_buy_X6_init rfl rfl rfl (C.2.2.2.2.2.1 (.initialized RX6) (by decide +kernel)) (C.2.2.2.2.2.1 (.methodLink RX11 100 yX6_init) (by decide +kernel)) (C.2.2.2.2.2.1 (.instanceMethod yX6_init) (by decide +kernel)) rfl (by decide +kernel) ⟨(Nat.le_of_ble_eq_true rfl), (Nat.le_of_ble_eq_true rfl)⟩) rfl hl.1 rfl (Nat.le_of_ble_eq_true rfl) dX11_buy_69 ⟨(Nat.le_of_ble_eq_true rfl), (Nat.le_of_ble_eq_true rfl)⟩) (fun H locs hw => ?_)
          refine lv_astore (i := 5) (lv' := [(5, .ref (n0 + (zn z))), (4, .ref (n0 + b4)), (0, .ref (n0 + x0)), (1, .int x1), (2, .int x2), (3, .int x3)]) C.1 C.2.1 dX11_buy_72 hl (by decide) rfl (fun ls hl => ?_)
          refine lv_aload_n C.1 C.2.1 dX11_buy_74 rfl (lv_at hl 2 rfl) ?_
          obtain ⟨g27, h⟩ := gdE h
          refine r_get (v := rv n0 (zG z26 640 x0)) C hw g27 (by decide) (Cn := RX11) (T := TX11) (N := 12) rfl in_X11_buy_X11 0 (by decide) (by decide +kernel) (fun _ h => h) rfl dX11_buy_75 ?_
          obtain ⟨b29, e28, h⟩ := boE h
          refine r_topr e28 ?_
          refine lv_aload C.1 C.2.1 dX11_buy_78 (lv_at hl 0 rfl) ?_
          obtain ⟨g32, h⟩ := gdE h
          obtain ⟨z31, e30, h⟩ := boE h
          refine r_aftv hw (r_runV (As := [.ref (n0 + (zn z))]) (rest := []) C hw (ki := 2) g32 (by decide) rfl (kX2_enter l n0 D Y N b29 (zn z) z26 e30) (cwV 1 C.2.2.2.2.2.1 gX11_buy_X2_enter rfl rfl rfl (by decide +kernel) ⟨(Nat.le_of_ble_eq_true rfl), (Nat.le_of_ble_eq_true rfl)⟩) rfl hl.1 rfl (Nat.le_of_ble_eq_true rfl) dX11_buy_80 ⟨(Nat.le_of_ble_eq_true rfl), (Nat.le_of_ble_eq_true rfl)⟩) (fun H locs hw => ?_)
          refine lv_aload_n C.1 C.2.1 dX11_buy_83 rfl (lv_at hl 2 rfl) ?_
          obtain ⟨g33, h⟩ := gdE h
          refine r_get (v := rv n0 (zG z31 641 x0)) C hw g33 (by decide) (Cn := RX11) (T := TX11) (N := 12) rfl in_X11_buy_X11 1 (by decide) (by decide +kernel) (fun _ h => h) rfl dX11_buy_84 ?_
          obtain ⟨b35, e34, h⟩ := boE h
          refine r_topr e34 ?_
          refine lv_aload C.1 C.2.1 dX11_buy_87 (lv_at hl 0 rfl) ?_
          obtain ⟨g38, h⟩ := gdE h
          obtain ⟨z37, e36, h⟩ := boE h
          refine r_aftv hw (r_runV (As := [.ref (n0 + (zn z))]) (rest := []) C hw (ki := 6) g38 (by decide) rfl (kX7_note l n0 D Y N b35 (zn z) z31 e36) (cwV 1 C.2.2.2.2.2.1 gX11_buy_X7_note rfl rfl rfl (by decide +kernel) ⟨(Nat.le_of_ble_eq_true rfl), (Nat.le_of_ble_eq_true rfl)⟩) rfl hl.1 rfl (Nat.le_of_ble_eq_true rfl) dX11_buy_89 ⟨(Nat.le_of_ble_eq_true rfl), (Nat.le_of_ble_eq_true rfl)⟩) (fun H locs hw => ?_)
          refine lv_aload C.1 C.2.1 dX11_buy_92 (lv_at hl 1 rfl) ?_
          refine lv_dup C.1 C.2.1 dX11_buy_94 rfl ?_
          obtain ⟨g39, h⟩ := gdE h
          refine r_get (v := .int (zF z37 1 b4)) C hw g39 (by decide) (Cn := RX0) (T := TX0) (N := 8) rfl in_X11_buy_X0 1 (by decide) (by decide +kernel) (fun _ h => h) rfl dX11_buy_95 ?_
          refine lv_iconst (v := (1 : Int32)) C.1 C.2.1 dX11_buy_98 (by decide) ?_
          refine lv_iadd C.1 C.2.1 dX11_buy_99 ?_
          obtain ⟨z40, e41, h⟩ := bdE h
          refine r_putI C hw g39 (by decide) (Cn := RX0) (T := TX0) (N := 8) rfl in_X11_buy_X0 tyX0 tyX0_ok nmX0 1 (by decide) (by decide +kernel) (fun _ h => h) (Or.inl rfl) (ty := .int) (by decide +kernel) rfl rfl (Nat.le_of_ble_eq_true rfl) (st_0_1 n0 z37 b4 ((zF z37 1 b4) + (1 : Int32))) e41 dX11_buy_100 (fun H locs hw => ?_)
          refine lv_aload C.1 C.2.1 dX11_buy_103 (lv_at hl 0 rfl) ?_
          obtain ⟨g42, h⟩ := gdE h
          refine r_get (v := .int (zF z40 769 (zn z))) C hw g42 (by decide) (Cn := RX6) (T := TX6) (N := 8) rfl in_X11_buy_X6 1 (by decide) (by decide +kernel) (u_same (C.2.2.2.2.2.1 (.sameField "BreadLaw$Lot" "BreadLaw$Entry" "number" "I") (by decide +kernel))) rfl dX11_buy_105 ?_
          cases h
          replace hF : _ = fin := hF
          subst hF
          exact r_iret C hw dX11_buy_108
        · replace h := brF h c17
          refine lv_bipush (v := (-4 : Int32)) C.1 C.2.1 dX11_buy_48 (by decide) ?_
          cases h
          replace hF : _ = fin := hF
          subst hF
          refine W.widen (k := 1) (n := 8) (by decide) (by decide) ?_
          exact r_iret C hw dX11_buy_50
      · replace h := brF h c11
        exact tX11_buy_35 C h hF hw (lv_sub hl [1] rfl)
set_option maxRecDepth 100000 in
theorem kX11_buy (l : Launch) (n0 : Nat) (D : va_G) (Y : Nat → ClassId) (N : Nat) (x0 : Nat) (x1 : Int32) (x2 : Int32) (x3 : Int32) (z : Hp) {r : Int32} {z1 : Hp} (h : fX11_buy N x0 x1 x2 x3 z = some (r, z1)) : Met l yX11_buy wsX11_buy rmX11_buy (PreC n0 D Y z [.ref (n0 + x0), .int x1, .int x2, .int x3]) (PosI n0 D Y z1 r) 1 8 (AA n0) := by
  refine Met.ofW (cc := cX11_buy) (maxL := 6) (ret := (some .int)) (by decide) rfl ?_
  intro p e s m args below meth c s₁ B hml hv
  obtain ⟨rfl, hR, hK⟩ := hv
  have C : Cx n0 D Y RX11 cX11_buy (some .int) 6 wsX11_buy "buy" p s m ([.ref (n0 + x0), .int x1, .int x2, .int x3] : List Value).toArray meth c := ⟨B.exec, B.bytes, B.returns, hml, findClass_of_methodNamed B.named, atoms_spec (ws := wsX11_buy) B.pre, B.notSynchronized, (name_of_methodNamed B.named B.method).1, hK⟩
  have hl := lv_entry ([.ref (n0 + x0), .int x1, .int x2, .int x3]) (n := 6) (Nat.le_of_ble_eq_true rfl)
  rw [lg_entry_eq]
  generalize (lg_sl ([.ref (n0 + x0), .int x1, .int x2, .int x3]) ++ List.replicate (6 - (lg_sl ([.ref (n0 + x0), .int x1, .int x2, .int x3])).length) Slot.unset).toArray = ls at hl ⊢
  have hl : lv_has ls 6 [(0, .ref (n0 + x0)), (1, .int x1), (2, .int x2), (3, .int x3)] := hl
  exact tX11_buy_0 C h rfl ⟨hR, va_S.rf⟩ hl
theorem in_X11_toMill_X0 : ∀ w ∈ wsX00, w ∈ wsX11_toMill := by decide +kernel
theorem in_X11_toMill_X11 : ∀ w ∈ wsX110, w ∈ wsX11_toMill := by decide +kernel
theorem in_X11_toMill_X6 : ∀ w ∈ wsX60, w ∈ wsX11_toMill := by decide +kernel
abbrev rmX11_toMill : Room := { frames := 1, cells := 0, slots := 0, locals := 21 }
noncomputable def fX11_toMill_70 (N : Nat) (x0 : Nat) (x2 : Int32) (z : Hp) : Option (Int32 × Hp) := gd (x0 < zn z ∧ zK z x0 = 10) <| bd (zsF z 651 x0 ((zF z 651 x0) + x2)) fun z2 => some (x2, z2)
set_option maxHeartbeats 4000000 in
set_option maxRecDepth 100000 in
theorem tX11_toMill_70 {n0 : Nat} {D : va_G} {Y : Nat → ClassId} {p : Program} {l : Launch} {e : Env} {s : State} {m : MethodId} {args : Array Value} {below : List Frame} {meth : Method} {c : Code} {N : Nat} {fin : Int32 × Hp} {x0 : Nat} {x2 : Int32}  {z : Hp} (C : Cx n0 D Y RX11 cX11_toMill (some .int) 4 wsX11_toMill "toMill" p s m args meth c) {x : (Int32 × Hp)} (h : fX11_toMill_70 N x0 x2  z = some x) (hF : (fun x => x = fin) x) {H : Heap} {locs : List Loc} {ls : Array Slot} (hw : Wd n0 D Y z s H locs) (hl : lv_has ls 4 [(0, .ref (n0 + x0)), (2, .int x2)]) : W p l e rmX11_toMill s m args below meth c H locs 0 0 (MQ below (PosI n0 D Y fin.2 fin.1) args s 0 0 (AA n0)) (F0 m 70 ls []) := by
  unfold fX11_toMill_70 at h
  refine lv_aload_n C.1 C.2.1 dX11_toMill_70 rfl (lv_at hl 0 rfl) ?_
  refine lv_dup C.1 C.2.1 dX11_toMill_71 rfl ?_
  obtain ⟨g1, h⟩ := gdE h
  refine r_get (v := .int (zF z 651 x0)) C hw g1 (by decide) (Cn := RX11) (T := TX11) (N := 12) rfl in_X11_toMill_X11 11 (by decide) (by decide +kernel) (fun _ h => h) rfl dX11_toMill_72 ?_
  refine lv_iload_n C.1 C.2.1 dX11_toMill_75 rfl (lv_at hl 1 rfl) ?_
  refine lv_iadd C.1 C.2.1 dX11_toMill_76 ?_
  obtain ⟨z2, e3, h⟩ := bdE h
  refine r_putI C hw g1 (by decide) (Cn := RX11) (T := TX11) (N := 12) rfl in_X11_toMill_X11 tyX11 tyX11_ok nmX11 11 (by decide) (by decide +kernel) (fun _ h => h) (Or.inl rfl) (ty := .int) (by decide +kernel) rfl rfl (Nat.le_of_ble_eq_true rfl) (st_10_11 n0 z x0 ((zF z 651 x0) + x2)) e3 dX11_toMill_77 (fun H locs hw => ?_)
  refine lv_iload_n C.1 C.2.1 dX11_toMill_80 rfl (lv_at hl 1 rfl) ?_
  cases h
  replace hF : _ = fin := hF
  subst hF
  exact r_iret C hw dX11_toMill_81
noncomputable def fX11_toMill_20 (N : Nat) (x0 : Nat) (x1 : Nat) (s0 : Int32) (z : Hp) : Option (Int32 × Hp) := gd (x1 < zn z ∧ zK z x1 = 5) <| bd (zsF z 326 x1 (1 : Int32)) fun z1 => bd (zsF z1 327 x1 ((zF z1 324 x1) - s0)) fun z5 => gd (x0 < zn z5 ∧ zK z5 x0 = 10) <| bo (zG z5 640 x0) fun b9 => gd (b9 < zn z5 ∧ zK z5 b9 = 2) <| bo (fX2_queueFlour N b9 x1 z5) fun z11 => gd (x1 < zn z11 ∧ zK z11 x1 = 5) <| gd (x0 < zn z11 ∧ zK z11 x0 = 10) <| bo (fX11_bakerAt N x0 (zF z11 771 x1) z11) fun q15 => cs q15 (fX11_toMill_70 N x0 s0 z11) (fun b17 => gd (b17 < zn z11 ∧ zK z11 b17 = 0) <| bd (zsF z11 0 b17 ((zF z11 0 b17) + (zF z11 327 x1))) fun z20 => fX11_toMill_70 N x0 s0 z20)
set_option maxHeartbeats 4000000 in
set_option maxRecDepth 100000 in
theorem tX11_toMill_20 {n0 : Nat} {D : va_G} {Y : Nat → ClassId} {p : Program} {l : Launch} {e : Env} {s : State} {m : MethodId} {args : Array Value} {below : List Frame} {meth : Method} {c : Code} {N : Nat} {fin : Int32 × Hp} {x0 : Nat} {x1 : Nat} {s0 : Int32} {z : Hp} (C : Cx n0 D Y RX11 cX11_toMill (some .int) 4 wsX11_toMill "toMill" p s m args meth c) {x : (Int32 × Hp)} (h : fX11_toMill_20 N x0 x1 s0 z = some x) (hF : (fun x => x = fin) x) {H : Heap} {locs : List Loc} {ls : Array Slot} (hw : Wd n0 D Y z s H locs) (hl : lv_has ls 4 [(0, .ref (n0 + x0)), (1, .ref (n0 + x1))]) : W p l e rmX11_toMill s m args below meth c H locs 0 0 (MQ below (PosI n0 D Y fin.2 fin.1) args s 0 0 (AA n0)) (F0 m 20 ls [.int s0]) := by
  unfold fX11_toMill_20 at h
  refine lv_istore_n (i := 2) (lv' := [(2, .int s0), (0, .ref (n0 + x0)), (1, .ref (n0 + x1))]) C.1 C.2.1 dX11_toMill_20 rfl hl (by decide) rfl (fun ls hl => ?_)
  refine lv_aload_n C.1 C.2.1 dX11_toMill_21 rfl (lv_at hl 2 rfl) ?_
  refine lv_iconst (v := (1 : Int32)) C.1 C.2.1 dX11_toMill_22 (by decide) ?_
  obtain ⟨g3, h⟩ := gdE h
  obtain ⟨z1, e2, h⟩ := bdE h
  refine r_putI C hw g3 (by decide) (Cn := RX6) (T := TX6) (N := 8) rfl in_X11_toMill_X6 tyX6 tyX6_ok nmX6 6 (by decide) (by decide +kernel) (fun _ h => h) (Or.inl rfl) (ty := .boolean) (by decide +kernel) rfl rfl (Nat.le_of_ble_eq_true rfl) (st_5_6 n0 z x1 (1 : Int32)) e2 dX11_toMill_23 (fun H locs hw => ?_)
  refine lv_aload_n C.1 C.2.1 dX11_toMill_26 rfl (lv_at hl 2 rfl) ?_
  refine lv_aload_n C.1 C.2.1 dX11_toMill_27 rfl (lv_at hl 2 rfl) ?_
  have g4 : x1 < zn z1 ∧ zK z1 x1 = 5 := by rw [e2]; exact g3
  refine r_get (v := .int (zF z1 324 x1)) C hw g4 (by decide) (Cn := RX6) (T := TX6) (N := 8) rfl in_X11_toMill_X6 4 (by decide) (by decide +kernel) (fun _ h => h) rfl dX11_toMill_28 ?_
  refine lv_iload_n C.1 C.2.1 dX11_toMill_31 rfl (lv_at hl 0 rfl) ?_
  refine lv_isub C.1 C.2.1 dX11_toMill_32 ?_
  obtain ⟨z5, e6, h⟩ := bdE h
  refine r_putI C hw g4 (by decide) (Cn := RX6) (T := TX6) (N := 8) rfl in_X11_toMill_X6 tyX6 tyX6_ok nmX6 7 (by decide) (by decide +kernel) (fun _ h => h) (Or.inl rfl) (ty := .int) (by decide +kernel) rfl rfl (Nat.le_of_ble_eq_true rfl) (st_5_7 n0 z1 x1 ((zF z1 324 x1) - s0)) e6 dX11_toMill_33 (fun H locs hw => ?_)
  refine lv_aload_n C.1 C.2.1 dX11_toMill_36 rfl (lv_at hl 1 rfl) ?_
  obtain ⟨g7, h⟩ := gdE h
  refine r_get (v := rv n0 (zG z5 640 x0)) C hw g7 (by decide) (Cn := RX11) (T := TX11) (N := 12) rfl in_X11_toMill_X11 0 (by decide) (by decide +kernel) (fun _ h => h) rfl dX11_toMill_37 ?_
  obtain ⟨b9, e8, h⟩ := boE h
  refine r_topr e8 ?_
  refine lv_aload_n C.1 C.2.1 dX11_toMill_40 rfl (lv_at hl 2 rfl) ?_
  obtain ⟨g12, h⟩ := gdE h
  obtain ⟨z11, e10, h⟩ := boE h
  refine r_aftv hw (r_runV (As := [.ref (n0 + x1)]) (rest := []) C hw (ki := 2) g12 (by decide) rfl (kX2_queueFlour l n0 D Y N b9 x1 z5 e10) (cwV 1 C.2.2.2.2.2.1 gX11_toMill_X2_queueFlour rfl rfl rfl (by decide +kernel) ⟨(Nat.le_of_ble_eq_true rfl), (Nat.le_of_ble_eq_true rfl)⟩) rfl hl.1 rfl (Nat.le_of_ble_eq_true rfl) dX11_toMill_41 ⟨(Nat.le_of_ble_eq_true rfl), (Nat.le_of_ble_eq_true rfl)⟩) (fun H locs hw => ?_)
  refine lv_aload_n C.1 C.2.1 dX11_toMill_44 rfl (lv_at hl 1 rfl) ?_
  refine lv_aload_n C.1 C.2.1 dX11_toMill_45 rfl (lv_at hl 2 rfl) ?_
  obtain ⟨g13, h⟩ := gdE h
  refine r_get (v := .int (zF z11 771 x1)) C hw g13 (by decide) (Cn := RX6) (T := TX6) (N := 8) rfl in_X11_toMill_X6 3 (by decide) (by decide +kernel) (u_same (C.2.2.2.2.2.1 (.sameField "BreadLaw$Lot" "BreadLaw$Entry" "baker" "I") (by decide +kernel))) rfl dX11_toMill_46 ?_
  obtain ⟨g16, h⟩ := gdE h
  obtain ⟨q15, e14, h⟩ := boE h
  refine r_aftq hw (r_runV (As := [.int (zF z11 771 x1)]) (rest := []) C hw (ki := 10) g16 (by decide) rfl (kX11_bakerAt l n0 D Y N x0 (zF z11 771 x1) z11 e14) (cwV 1 C.2.2.2.2.2.1 gX11_toMill_X11_bakerAt rfl rfl rfl (by decide +kernel) ⟨(Nat.le_of_ble_eq_true rfl), (Nat.le_of_ble_eq_true rfl)⟩) rfl hl.1 rfl (Nat.le_of_ble_eq_true rfl) dX11_toMill_49 ⟨(Nat.le_of_ble_eq_true rfl), (Nat.le_of_ble_eq_true rfl)⟩) (fun H locs hw => ?_)
  refine r_astore_n (i := 3) (r := q15) (lv' := [(3, rv n0 q15), (2, .int s0), (0, .ref (n0 + x0)), (1, .ref (n0 + x1))]) C dX11_toMill_52 rfl hl (by decide) rfl (fun ls hl => ?_)
  refine r_aload_n (r := q15) C dX11_toMill_53 rfl (lv_at hl 0 rfl) ?_
  refine r_ifnull (tgt := 70) C dX11_toMill_54 (by decide) (fun c18 => ?_) (fun b17 c18 => ?_)
  · subst c18
    replace h := csN h
    exact tX11_toMill_70 C h hF hw (lv_sub hl [2, 1] rfl)
  · subst c18
    replace h := csS h
    refine lv_aload_n C.1 C.2.1 dX11_toMill_57 rfl (lv_at hl 0 rfl) ?_
    refine lv_dup C.1 C.2.1 dX11_toMill_58 rfl ?_
    obtain ⟨g19, h⟩ := gdE h
    refine r_get (v := .int (zF z11 0 b17)) C hw g19 (by decide) (Cn := RX0) (T := TX0) (N := 8) rfl in_X11_toMill_X0 0 (by decide) (by decide +kernel) (fun _ h => h) rfl dX11_toMill_59 ?_
    refine lv_aload_n C.1 C.2.1 dX11_toMill_62 rfl (lv_at hl 3 rfl) ?_
    refine r_get (v := .int (zF z11 327 x1)) C hw g13 (by decide) (Cn := RX6) (T := TX6) (N := 8) rfl in_X11_toMill_X6 7 (by decide) (by decide +kernel) (fun _ h => h) rfl dX11_toMill_63 ?_
    refine lv_iadd C.1 C.2.1 dX11_toMill_66 ?_
    obtain ⟨z20, e21, h⟩ := bdE h
    refine r_putI C hw g19 (by decide) (Cn := RX0) (T := TX0) (N := 8) rfl in_X11_toMill_X0 tyX0 tyX0_ok nmX0 0 (by decide) (by decide +kernel) (fun _ h => h) (Or.inl rfl) (ty := .int) (by decide +kernel) rfl rfl (Nat.le_of_ble_eq_true rfl) (st_0_0 n0 z11 b17 ((zF z11 0 b17) + (zF z11 327 x1))) e21 dX11_toMill_67 (fun H locs hw => ?_)
    exact tX11_toMill_70 C h hF hw (lv_sub hl [2, 1] rfl)
noncomputable def fX11_toMill (N : Nat) (x0 : Nat) (x1 : Nat) (z : Hp) : Option (Int32 × Hp) := gd (x0 < zn z ∧ zK z x0 = 10) <| br ((zF z 648 x0) ≤ 0) (fX11_toMill_20 N x0 x1 (0 : Int32) z) (gd (x1 < zn z ∧ zK z x1 = 5) <| gd (¬ (zF z 648 x0) = 0) <| fX11_toMill_20 N x0 x1 ((zF z 324 x1) / (zF z 648 x0)) z)
set_option maxHeartbeats 4000000 in
set_option maxRecDepth 100000 in
theorem tX11_toMill_0 {n0 : Nat} {D : va_G} {Y : Nat → ClassId} {p : Program} {l : Launch} {e : Env} {s : State} {m : MethodId} {args : Array Value} {below : List Frame} {meth : Method} {c : Code} {N : Nat} {fin : Int32 × Hp} {x0 : Nat} {x1 : Nat}  {z : Hp} (C : Cx n0 D Y RX11 cX11_toMill (some .int) 4 wsX11_toMill "toMill" p s m args meth c) {x : (Int32 × Hp)} (h : fX11_toMill N x0 x1  z = some x) (hF : (fun x => x = fin) x) {H : Heap} {locs : List Loc} {ls : Array Slot} (hw : Wd n0 D Y z s H locs) (hl : lv_has ls 4 [(0, .ref (n0 + x0)), (1, .ref (n0 + x1))]) : W p l e rmX11_toMill s m args below meth c H locs 0 0 (MQ below (PosI n0 D Y fin.2 fin.1) args s 0 0 (AA n0)) (F0 m 0 ls []) := by
  unfold fX11_toMill at h
  refine lv_aload_n C.1 C.2.1 dX11_toMill_0 rfl (lv_at hl 0 rfl) ?_
  obtain ⟨g1, h⟩ := gdE h
  refine r_get (v := .int (zF z 648 x0)) C hw g1 (by decide) (Cn := RX11) (T := TX11) (N := 12) rfl in_X11_toMill_X11 8 (by decide) (by decide +kernel) (fun _ h => h) rfl dX11_toMill_1 ?_
  refine lv_if_le (tgt := 19) C.1 C.2.1 dX11_toMill_4 (by decide) (fun c2 => ?_) (fun c2 => ?_)
  · replace h := brT h c2
    refine lv_iconst (v := (0 : Int32)) C.1 C.2.1 dX11_toMill_19 (by decide) ?_
    exact tX11_toMill_20 C h hF hw (lv_sub hl [0, 1] rfl)
  · replace h := brF h c2
    refine lv_aload_n C.1 C.2.1 dX11_toMill_7 rfl (lv_at hl 1 rfl) ?_
    obtain ⟨g3, h⟩ := gdE h
    refine r_get (v := .int (zF z 324 x1)) C hw g3 (by decide) (Cn := RX6) (T := TX6) (N := 8) rfl in_X11_toMill_X6 4 (by decide) (by decide +kernel) (fun _ h => h) rfl dX11_toMill_8 ?_
    refine lv_aload_n C.1 C.2.1 dX11_toMill_11 rfl (lv_at hl 0 rfl) ?_
    refine r_get (v := .int (zF z 648 x0)) C hw g1 (by decide) (Cn := RX11) (T := TX11) (N := 12) rfl in_X11_toMill_X11 8 (by decide) (by decide +kernel) (fun _ h => h) rfl dX11_toMill_12 ?_
    obtain ⟨g4, h⟩ := gdE h
    refine lv_idiv C.1 C.2.1 dX11_toMill_15 g4 ?_
    refine lv_goto (tgt := 20) C.1 C.2.1 dX11_toMill_16 (by decide) ?_
    exact tX11_toMill_20 C h hF hw (lv_sub hl [0, 1] rfl)
set_option maxRecDepth 100000 in
theorem kX11_toMill (l : Launch) (n0 : Nat) (D : va_G) (Y : Nat → ClassId) (N : Nat) (x0 : Nat) (x1 : Nat) (z : Hp) {r : Int32} {z1 : Hp} (h : fX11_toMill N x0 x1 z = some (r, z1)) : Met l yX11_toMill wsX11_toMill rmX11_toMill (PreC n0 D Y z [.ref (n0 + x0), .ref (n0 + x1)]) (PosI n0 D Y z1 r) 0 0 (AA n0) := by
  refine Met.ofW (cc := cX11_toMill) (maxL := 4) (ret := (some .int)) (by decide) rfl ?_
  intro p e s m args below meth c s₁ B hml hv
  obtain ⟨rfl, hR, hK⟩ := hv
  have C : Cx n0 D Y RX11 cX11_toMill (some .int) 4 wsX11_toMill "toMill" p s m ([.ref (n0 + x0), .ref (n0 + x1)] : List Value).toArray meth c := ⟨B.exec, B.bytes, B.returns, hml, findClass_of_methodNamed B.named, atoms_spec (ws := wsX11_toMill) B.pre, B.notSynchronized, (name_of_methodNamed B.named B.method).1, hK⟩
  have hl := lv_entry ([.ref (n0 + x0), .ref (n0 + x1)]) (n := 4) (Nat.le_of_ble_eq_true rfl)
  rw [lg_entry_eq]
  generalize (lg_sl ([.ref (n0 + x0), .ref (n0 + x1)]) ++ List.replicate (4 - (lg_sl ([.ref (n0 + x0), .ref (n0 + x1)])).length) Slot.unset).toArray = ls at hl ⊢
  have hl : lv_has ls 4 [(0, .ref (n0 + x0)), (1, .ref (n0 + x1))] := hl
  exact tX11_toMill_0 C h rfl ⟨hR, va_S.rf⟩ hl
theorem in_X11_grind_X11 : ∀ w ∈ wsX110, w ∈ wsX11_grind := by decide +kernel
theorem in_X11_grind_X6 : ∀ w ∈ wsX60, w ∈ wsX11_grind := by decide +kernel
abbrev rmX11_grind : Room := { frames := 2, cells := 0, slots := 0, locals := 44 }
noncomputable def fX11_grind (N : Nat) (x0 : Nat) (x1 : Int32) (z : Hp) : Option (Int32 × Hp) := gd (x0 < zn z ∧ zK z x0 = 10) <| bo (zG z 640 x0) fun b3 => gd (b3 < zn z ∧ zK z b3 = 2) <| bo (fX2_entryAt N b3 x1 z) fun q5 => cs q5 (some ((-1 : Int32), z)) (fun b7 => gd (b7 < zn z ∧ (zK z b7 = 1 ∨ zK z b7 = 5 ∨ zK z b7 = 7)) <| br (zK z b7 = 5) (br ((zF z 326 b7) = 0) (bp (fX11_toMill N x0 b7 z) fun r13 z14 => some (r13, z14)) (some ((-3 : Int32), z))) (some ((-5 : Int32), z)))
set_option maxHeartbeats 4000000 in
set_option maxRecDepth 100000 in
theorem tX11_grind_0 {n0 : Nat} {D : va_G} {Y : Nat → ClassId} {p : Program} {l : Launch} {e : Env} {s : State} {m : MethodId} {args : Array Value} {below : List Frame} {meth : Method} {c : Code} {N : Nat} {fin : Int32 × Hp} {x0 : Nat} {x1 : Int32}  {z : Hp} (C : Cx n0 D Y RX11 cX11_grind (some .int) 4 wsX11_grind "grind" p s m args meth c) {x : (Int32 × Hp)} (h : fX11_grind N x0 x1  z = some x) (hF : (fun x => x = fin) x) {H : Heap} {locs : List Loc} {ls : Array Slot} (hw : Wd n0 D Y z s H locs) (hl : lv_has ls 4 [(0, .ref (n0 + x0)), (1, .int x1)]) : W p l e rmX11_grind s m args below meth c H locs 0 0 (MQ below (PosI n0 D Y fin.2 fin.1) args s 0 0 (AA n0)) (F0 m 0 ls []) := by
  unfold fX11_grind at h
  refine lv_aload_n C.1 C.2.1 dX11_grind_0 rfl (lv_at hl 0 rfl) ?_
  obtain ⟨g1, h⟩ := gdE h
  refine r_get (v := rv n0 (zG z 640 x0)) C hw g1 (by decide) (Cn := RX11) (T := TX11) (N := 12) rfl in_X11_grind_X11 0 (by decide) (by decide +kernel) (fun _ h => h) rfl dX11_grind_1 ?_
  obtain ⟨b3, e2, h⟩ := boE h
  refine r_topr e2 ?_
  refine lv_iload_n C.1 C.2.1 dX11_grind_4 rfl (lv_at hl 1 rfl) ?_
  obtain ⟨g6, h⟩ := gdE h
  obtain ⟨q5, e4, h⟩ := boE h
  refine r_aftq hw (r_runV (As := [.int x1]) (rest := []) C hw (ki := 2) g6 (by decide) rfl (kX2_entryAt l n0 D Y N b3 x1 z e4) (cwV 1 C.2.2.2.2.2.1 gX11_grind_X2_entryAt rfl rfl rfl (by decide +kernel) ⟨(Nat.le_of_ble_eq_true rfl), (Nat.le_of_ble_eq_true rfl)⟩) rfl hl.1 rfl (Nat.le_of_ble_eq_true rfl) dX11_grind_5 ⟨(Nat.le_of_ble_eq_true rfl), (Nat.le_of_ble_eq_true rfl)⟩) (fun H locs hw => ?_)
  refine r_astore_n (i := 2) (r := q5) (lv' := [(2, rv n0 q5), (0, .ref (n0 + x0)), (1, .int x1)]) C dX11_grind_8 rfl hl (by decide) rfl (fun ls hl => ?_)
  refine r_aload_n (r := q5) C dX11_grind_9 rfl (lv_at hl 0 rfl) ?_
  refine r_ifnonnull (tgt := 15) C dX11_grind_10 (by decide) (fun c8 => ?_) (fun b7 c8 => ?_)
  · subst c8
    replace h := csN h
    refine lv_iconst (v := (-1 : Int32)) C.1 C.2.1 dX11_grind_13 (by decide) ?_
    cases h
    replace hF : _ = fin := hF
    subst hF
    exact r_iret C hw dX11_grind_14
  · subst c8
    replace h := csS h
    refine lv_aload_n C.1 C.2.1 dX11_grind_15 rfl (lv_at hl 0 rfl) ?_
    obtain ⟨g9, h⟩ := gdE h
    refine r_inst5 C hw g9 (by decide +kernel) dX11_grind_16 (fun c10 => ?_) (fun c10 => ?_)
    · replace h := brT h c10
      refine lv_if_eq (tgt := 45) C.1 C.2.1 dX11_grind_19 (by decide) (fun q => absurd q (by decide)) (fun _ => ?_)
      refine lv_aload_n C.1 C.2.1 dX11_grind_22 rfl (lv_at hl 0 rfl) ?_
      refine r_cast C hw (ki := 5) ⟨g9.1, c10⟩ (by decide) rfl (by decide +kernel) dX11_grind_23 ?_
      refine lv_astore_n (i := 3) (lv' := [(3, .ref (n0 + b7)), (2, .ref (n0 + b7)), (0, .ref (n0 + x0)), (1, .int x1)]) C.1 C.2.1 dX11_grind_26 rfl hl (by decide) rfl (fun ls hl => ?_)
      refine lv_aload_n C.1 C.2.1 dX11_grind_27 rfl (lv_at hl 0 rfl) ?_
      refine r_get (v := .int (zF z 326 b7)) C hw ⟨g9.1, c10⟩ (by decide) (Cn := RX6) (T := TX6) (N := 8) rfl in_X11_grind_X6 6 (by decide) (by decide +kernel) (fun _ h => h) rfl dX11_grind_28 ?_
      refine lv_if_eq (tgt := 39) C.1 C.2.1 dX11_grind_31 (by decide) (fun c11 => ?_) (fun c11 => ?_)
      · replace h := brT h c11
        refine lv_aload_n C.1 C.2.1 dX11_grind_39 rfl (lv_at hl 2 rfl) ?_
        refine lv_aload_n C.1 C.2.1 dX11_grind_40 rfl (lv_at hl 0 rfl) ?_
        obtain ⟨r13, z14, e12, h⟩ := bpE h
        refine r_afti hw (r_runV (As := [.ref (n0 + b7)]) (rest := []) C hw (ki := 10) g1 (by decide) rfl (kX11_toMill l n0 D Y N x0 b7 z e12) (cwV 1 C.2.2.2.2.2.1 gX11_grind_X11_toMill rfl rfl rfl (by decide +kernel) ⟨(Nat.le_of_ble_eq_true rfl), (Nat.le_of_ble_eq_true rfl)⟩) rfl hl.1 rfl (Nat.le_of_ble_eq_true rfl) dX11_grind_41 ⟨(Nat.le_of_ble_eq_true rfl), (Nat.le_of_ble_eq_true rfl)⟩) (fun H locs hw => ?_)
        cases h
        replace hF : _ = fin := hF
        subst hF
        exact r_iret C hw dX11_grind_44
      · replace h := brF h c11
        refine lv_bipush (v := (-3 : Int32)) C.1 C.2.1 dX11_grind_34 (by decide) ?_
        refine lv_goto (tgt := 44) C.1 C.2.1 dX11_grind_36 (by decide) ?_
        cases h
        replace hF : _ = fin := hF
        subst hF
        exact r_iret C hw dX11_grind_44
    · replace h := brF h c10
      refine lv_if_eq (tgt := 45) C.1 C.2.1 dX11_grind_19 (by decide) (fun _ => ?_) (fun q => absurd rfl q)
      refine lv_bipush (v := (-5 : Int32)) C.1 C.2.1 dX11_grind_45 (by decide) ?_
      cases h
      replace hF : _ = fin := hF
      subst hF
      exact r_iret C hw dX11_grind_47
set_option maxRecDepth 100000 in
theorem kX11_grind (l : Launch) (n0 : Nat) (D : va_G) (Y : Nat → ClassId) (N : Nat) (x0 : Nat) (x1 : Int32) (z : Hp) {r : Int32} {z1 : Hp} (h : fX11_grind N x0 x1 z = some (r, z1)) : Met l yX11_grind wsX11_grind rmX11_grind (PreC n0 D Y z [.ref (n0 + x0), .int x1]) (PosI n0 D Y z1 r) 0 0 (AA n0) := by
  refine Met.ofW (cc := cX11_grind) (maxL := 4) (ret := (some .int)) (by decide) rfl ?_
  intro p e s m args below meth c s₁ B hml hv
  obtain ⟨rfl, hR, hK⟩ := hv
  have C : Cx n0 D Y RX11 cX11_grind (some .int) 4 wsX11_grind "grind" p s m ([.ref (n0 + x0), .int x1] : List Value).toArray meth c := ⟨B.exec, B.bytes, B.returns, hml, findClass_of_methodNamed B.named, atoms_spec (ws := wsX11_grind) B.pre, B.notSynchronized, (name_of_methodNamed B.named B.method).1, hK⟩
  have hl := lv_entry ([.ref (n0 + x0), .int x1]) (n := 4) (Nat.le_of_ble_eq_true rfl)
  rw [lg_entry_eq]
  generalize (lg_sl ([.ref (n0 + x0), .int x1]) ++ List.replicate (4 - (lg_sl ([.ref (n0 + x0), .int x1])).length) Slot.unset).toArray = ls at hl ⊢
  have hl : lv_has ls 4 [(0, .ref (n0 + x0)), (1, .int x1)] := hl
  exact tX11_grind_0 C h rfl ⟨hR, va_S.rf⟩ hl
theorem in_X11_dish_X11 : ∀ w ∈ wsX110, w ∈ wsX11_dish := by decide +kernel
abbrev rmX11_dish : Room := { frames := 1, cells := 0, slots := 0, locals := 22 }
noncomputable def fX11_dish (N : Nat) (x0 : Nat) (x1 : Int32) (z : Hp) : Option (Int32 × Hp) := bo (fX11_isOutside N x1 (2 : Int32) (100 : Int32) z) fun r2 => br (r2 = 0) (gd (x0 < zn z ∧ zK z x0 = 10) <| bd (zF z 648 x0) fun v5 => bd (zsF z 648 x0 x1) fun z7 => some (v5, z7)) (some ((-2 : Int32), z))
set_option maxHeartbeats 4000000 in
set_option maxRecDepth 100000 in
theorem tX11_dish_0 {n0 : Nat} {D : va_G} {Y : Nat → ClassId} {p : Program} {l : Launch} {e : Env} {s : State} {m : MethodId} {args : Array Value} {below : List Frame} {meth : Method} {c : Code} {N : Nat} {fin : Int32 × Hp} {x0 : Nat} {x1 : Int32}  {z : Hp} (C : Cx n0 D Y RX11 cX11_dish (some .int) 3 wsX11_dish "dish" p s m args meth c) {x : (Int32 × Hp)} (h : fX11_dish N x0 x1  z = some x) (hF : (fun x => x = fin) x) {H : Heap} {locs : List Loc} {ls : Array Slot} (hw : Wd n0 D Y z s H locs) (hl : lv_has ls 3 [(0, .ref (n0 + x0)), (1, .int x1)]) : W p l e rmX11_dish s m args below meth c H locs 0 0 (MQ below (PosI n0 D Y fin.2 fin.1) args s 0 0 (AA n0)) (F0 m 0 ls []) := by
  unfold fX11_dish at h
  refine lv_iload_n C.1 C.2.1 dX11_dish_0 rfl (lv_at hl 1 rfl) ?_
  refine lv_iconst (v := (2 : Int32)) C.1 C.2.1 dX11_dish_1 (by decide) ?_
  refine lv_bipush (v := (100 : Int32)) C.1 C.2.1 dX11_dish_2 (by decide) ?_
  obtain ⟨r2, e1, h⟩ := boE h
  refine r_afti hw (r_runS (As := [.int x1, .int (2 : Int32), .int (100 : Int32)]) (rest := []) C hw (kX11_isOutside l n0 D Y N x1 (2 : Int32) (100 : Int32) z e1) (va_cwS 3 C.2.2.2.2.2.1 gX11_dish_X11_isOutside rfl rfl rfl (by decide +kernel) ⟨(Nat.le_of_ble_eq_true rfl), (Nat.le_of_ble_eq_true rfl)⟩) rfl hl.1 rfl (Nat.le_of_ble_eq_true rfl) dX11_dish_4 ⟨(Nat.le_of_ble_eq_true rfl), (Nat.le_of_ble_eq_true rfl)⟩) (fun H locs hw => ?_)
  refine lv_if_eq (tgt := 13) C.1 C.2.1 dX11_dish_7 (by decide) (fun c3 => ?_) (fun c3 => ?_)
  · replace h := brT h c3
    refine lv_aload_n C.1 C.2.1 dX11_dish_13 rfl (lv_at hl 0 rfl) ?_
    obtain ⟨g4, h⟩ := gdE h
    refine r_get (v := .int (zF z 648 x0)) C hw g4 (by decide) (Cn := RX11) (T := TX11) (N := 12) rfl in_X11_dish_X11 8 (by decide) (by decide +kernel) (fun _ h => h) rfl dX11_dish_14 ?_
    obtain ⟨v5, e6, h⟩ := bdE h
    refine r_topi e6 ?_
    refine lv_istore_n (i := 2) (lv' := [(2, .int v5), (0, .ref (n0 + x0)), (1, .int x1)]) C.1 C.2.1 dX11_dish_17 rfl hl (by decide) rfl (fun ls hl => ?_)
    refine lv_aload_n C.1 C.2.1 dX11_dish_18 rfl (lv_at hl 1 rfl) ?_
    refine lv_iload_n C.1 C.2.1 dX11_dish_19 rfl (lv_at hl 2 rfl) ?_
    obtain ⟨z7, e8, h⟩ := bdE h
    refine r_putI C hw g4 (by decide) (Cn := RX11) (T := TX11) (N := 12) rfl in_X11_dish_X11 tyX11 tyX11_ok nmX11 8 (by decide) (by decide +kernel) (fun _ h => h) (Or.inl rfl) (ty := .int) (by decide +kernel) rfl rfl (Nat.le_of_ble_eq_true rfl) (st_10_8 n0 z x0 x1) e8 dX11_dish_20 (fun H locs hw => ?_)
    refine lv_iload_n C.1 C.2.1 dX11_dish_23 rfl (lv_at hl 0 rfl) ?_
    cases h
    replace hF : _ = fin := hF
    subst hF
    exact r_iret C hw dX11_dish_24
  · replace h := brF h c3
    refine lv_bipush (v := (-2 : Int32)) C.1 C.2.1 dX11_dish_10 (by decide) ?_
    cases h
    replace hF : _ = fin := hF
    subst hF
    exact r_iret C hw dX11_dish_12
set_option maxRecDepth 100000 in
theorem kX11_dish (l : Launch) (n0 : Nat) (D : va_G) (Y : Nat → ClassId) (N : Nat) (x0 : Nat) (x1 : Int32) (z : Hp) {r : Int32} {z1 : Hp} (h : fX11_dish N x0 x1 z = some (r, z1)) : Met l yX11_dish wsX11_dish rmX11_dish (PreC n0 D Y z [.ref (n0 + x0), .int x1]) (PosI n0 D Y z1 r) 0 0 (AA n0) := by
  refine Met.ofW (cc := cX11_dish) (maxL := 3) (ret := (some .int)) (by decide) rfl ?_
  intro p e s m args below meth c s₁ B hml hv
  obtain ⟨rfl, hR, hK⟩ := hv
  have C : Cx n0 D Y RX11 cX11_dish (some .int) 3 wsX11_dish "dish" p s m ([.ref (n0 + x0), .int x1] : List Value).toArray meth c := ⟨B.exec, B.bytes, B.returns, hml, findClass_of_methodNamed B.named, atoms_spec (ws := wsX11_dish) B.pre, B.notSynchronized, (name_of_methodNamed B.named B.method).1, hK⟩
  have hl := lv_entry ([.ref (n0 + x0), .int x1]) (n := 3) (Nat.le_of_ble_eq_true rfl)
  rw [lg_entry_eq]
  generalize (lg_sl ([.ref (n0 + x0), .int x1]) ++ List.replicate (3 - (lg_sl ([.ref (n0 + x0), .int x1])).length) Slot.unset).toArray = ls at hl ⊢
  have hl : lv_has ls 3 [(0, .ref (n0 + x0)), (1, .int x1)] := hl
  exact tX11_dish_0 C h rfl ⟨hR, va_S.rf⟩ hl
theorem in_X11_price_X11 : ∀ w ∈ wsX110, w ∈ wsX11_price := by decide +kernel
abbrev rmX11_price : Room := { frames := 2, cells := 0, slots := 0, locals := 46 }
noncomputable def fX11_price (N : Nat) (x0 : Nat) (x1 : Int32) (z : Hp) : Option (Int32) := gd (x0 < zn z ∧ zK z x0 = 10) <| bo (fX11_weekNow N x0 z) fun r2 => bo (fX11_isOutside N x1 (-1 : Int32) r2 z) fun r5 => br (r5 = 0) (bo (zG z 641 x0) fun b8 => gd (b8 < zn z ∧ zK z b8 = 6) <| bo (fX7_priceOf N b8 x1 z) fun r10 => some r10) (some (-1 : Int32))
set_option maxHeartbeats 4000000 in
set_option maxRecDepth 100000 in
theorem tX11_price_0 {n0 : Nat} {D : va_G} {Y : Nat → ClassId} {p : Program} {l : Launch} {e : Env} {s : State} {m : MethodId} {args : Array Value} {below : List Frame} {meth : Method} {c : Code} {N : Nat} {fin : Int32} {x0 : Nat} {x1 : Int32}  {z : Hp} (C : Cx n0 D Y RX11 cX11_price (some .int) 2 wsX11_price "price" p s m args meth c) {x : (Int32)} (h : fX11_price N x0 x1  z = some x) (hF : (fun x => x = fin) x) {H : Heap} {locs : List Loc} {ls : Array Slot} (hw : Wd n0 D Y z s H locs) (hl : lv_has ls 2 [(0, .ref (n0 + x0)), (1, .int x1)]) : W p l e rmX11_price s m args below meth c H locs 0 0 (MQ below (PosI n0 D Y z fin) args s 0 0 (AA n0)) (F0 m 0 ls []) := by
  unfold fX11_price at h
  refine lv_iload_n C.1 C.2.1 dX11_price_0 rfl (lv_at hl 1 rfl) ?_
  refine lv_iconst (v := (-1 : Int32)) C.1 C.2.1 dX11_price_1 (by decide) ?_
  refine lv_aload_n C.1 C.2.1 dX11_price_2 rfl (lv_at hl 0 rfl) ?_
  obtain ⟨g3, h⟩ := gdE h
  obtain ⟨r2, e1, h⟩ := boE h
  refine r_afti hw (r_runV (As := []) (rest := [.int (-1 : Int32), .int x1]) C hw (ki := 10) g3 (by decide) rfl (kX11_weekNow l n0 D Y N x0  z e1) (cwV 0 C.2.2.2.2.2.1 gX11_price_X11_weekNow rfl rfl rfl (by decide +kernel) ⟨(Nat.le_of_ble_eq_true rfl), (Nat.le_of_ble_eq_true rfl)⟩) rfl hl.1 rfl (Nat.le_of_ble_eq_true rfl) dX11_price_3 ⟨(Nat.le_of_ble_eq_true rfl), (Nat.le_of_ble_eq_true rfl)⟩) (fun H locs hw => ?_)
  obtain ⟨r5, e4, h⟩ := boE h
  refine r_afti hw (r_runS (As := [.int x1, .int (-1 : Int32), .int r2]) (rest := []) C hw (kX11_isOutside l n0 D Y N x1 (-1 : Int32) r2 z e4) (va_cwS 3 C.2.2.2.2.2.1 gX11_price_X11_isOutside rfl rfl rfl (by decide +kernel) ⟨(Nat.le_of_ble_eq_true rfl), (Nat.le_of_ble_eq_true rfl)⟩) rfl hl.1 rfl (Nat.le_of_ble_eq_true rfl) dX11_price_6 ⟨(Nat.le_of_ble_eq_true rfl), (Nat.le_of_ble_eq_true rfl)⟩) (fun H locs hw => ?_)
  refine lv_if_eq (tgt := 14) C.1 C.2.1 dX11_price_9 (by decide) (fun c6 => ?_) (fun c6 => ?_)
  · replace h := brT h c6
    refine lv_aload_n C.1 C.2.1 dX11_price_14 rfl (lv_at hl 0 rfl) ?_
    refine r_get (v := rv n0 (zG z 641 x0)) C hw g3 (by decide) (Cn := RX11) (T := TX11) (N := 12) rfl in_X11_price_X11 1 (by decide) (by decide +kernel) (fun _ h => h) rfl dX11_price_15 ?_
    obtain ⟨b8, e7, h⟩ := boE h
    refine r_topr e7 ?_
    refine lv_iload_n C.1 C.2.1 dX11_price_18 rfl (lv_at hl 1 rfl) ?_
    obtain ⟨g11, h⟩ := gdE h
    obtain ⟨r10, e9, h⟩ := boE h
    refine r_afti hw (r_runV (As := [.int x1]) (rest := []) C hw (ki := 6) g11 (by decide) rfl (kX7_priceOf l n0 D Y N b8 x1 z e9) (cwV 1 C.2.2.2.2.2.1 gX11_price_X7_priceOf rfl rfl rfl (by decide +kernel) ⟨(Nat.le_of_ble_eq_true rfl), (Nat.le_of_ble_eq_true rfl)⟩) rfl hl.1 rfl (Nat.le_of_ble_eq_true rfl) dX11_price_19 ⟨(Nat.le_of_ble_eq_true rfl), (Nat.le_of_ble_eq_true rfl)⟩) (fun H locs hw => ?_)
    cases h
    replace hF : _ = fin := hF
    subst hF
    exact r_iret C hw dX11_price_22
  · replace h := brF h c6
    refine lv_iconst (v := (-1 : Int32)) C.1 C.2.1 dX11_price_12 (by decide) ?_
    cases h
    replace hF : _ = fin := hF
    subst hF
    exact r_iret C hw dX11_price_13
set_option maxRecDepth 100000 in
theorem kX11_price (l : Launch) (n0 : Nat) (D : va_G) (Y : Nat → ClassId) (N : Nat) (x0 : Nat) (x1 : Int32) (z : Hp) {r : Int32} (h : fX11_price N x0 x1 z = some r) : Met l yX11_price wsX11_price rmX11_price (PreC n0 D Y z [.ref (n0 + x0), .int x1]) (PosI n0 D Y z r) 0 0 (AA n0) := by
  refine Met.ofW (cc := cX11_price) (maxL := 2) (ret := (some .int)) (by decide) rfl ?_
  intro p e s m args below meth c s₁ B hml hv
  obtain ⟨rfl, hR, hK⟩ := hv
  have C : Cx n0 D Y RX11 cX11_price (some .int) 2 wsX11_price "price" p s m ([.ref (n0 + x0), .int x1] : List Value).toArray meth c := ⟨B.exec, B.bytes, B.returns, hml, findClass_of_methodNamed B.named, atoms_spec (ws := wsX11_price) B.pre, B.notSynchronized, (name_of_methodNamed B.named B.method).1, hK⟩
  have hl := lv_entry ([.ref (n0 + x0), .int x1]) (n := 2) (Nat.le_of_ble_eq_true rfl)
  rw [lg_entry_eq]
  generalize (lg_sl ([.ref (n0 + x0), .int x1]) ++ List.replicate (2 - (lg_sl ([.ref (n0 + x0), .int x1])).length) Slot.unset).toArray = ls at hl ⊢
  have hl : lv_has ls 2 [(0, .ref (n0 + x0)), (1, .int x1)] := hl
  exact tX11_price_0 C h rfl ⟨hR, va_S.rf⟩ hl
theorem in_X11_text_X11 : ∀ w ∈ wsX110, w ∈ wsX11_text := by decide +kernel
theorem in_X11_text_X5 : ∀ w ∈ wsX50, w ∈ wsX11_text := by decide +kernel
theorem in_X11_text_X9 : ∀ w ∈ wsX90, w ∈ wsX11_text := by decide +kernel
abbrev rmX11_text : Room := { frames := 2, cells := 4, slots := 26, locals := 50 }
noncomputable def fX11_text_21 (N : Nat) (x0 : Nat) (z : Hp) : Option (Int32 × Hp) := some ((-2 : Int32), z)
set_option maxHeartbeats 4000000 in
set_option maxRecDepth 100000 in
theorem tX11_text_21 {n0 : Nat} {D : va_G} {Y : Nat → ClassId} {p : Program} {l : Launch} {e : Env} {s : State} {m : MethodId} {args : Array Value} {below : List Frame} {meth : Method} {c : Code} {N : Nat} {fin : Int32 × Hp} {x0 : Nat}  {z : Hp} (C : Cx n0 D Y RX11 cX11_text (some .int) 7 wsX11_text "text" p s m args meth c) {x : (Int32 × Hp)} (h : fX11_text_21 N x0  z = some x) (hF : (fun x => x = fin) x) {H : Heap} {locs : List Loc} {ls : Array Slot} (hw : Wd n0 D Y z s H locs) (hl : lv_has ls 7 [(0, .ref (n0 + x0))]) : W p l e rmX11_text s m args below meth c H locs 0 0 (MQ below (PosI n0 D Y fin.2 fin.1) args s 4 26 (AA n0)) (F0 m 21 ls []) := by
  unfold fX11_text_21 at h
  refine lv_bipush (v := (-2 : Int32)) C.1 C.2.1 dX11_text_21 (by decide) ?_
  cases h
  replace hF : _ = fin := hF
  subst hF
  refine W.widen (k := 4) (n := 26) (by decide) (by decide) ?_
  exact r_iret C hw dX11_text_23
noncomputable def fX11_text_61 (N : Nat) (x0 : Nat) (z : Hp) : Option (Int32 × Hp) := some ((-2 : Int32), z)
set_option maxHeartbeats 4000000 in
set_option maxRecDepth 100000 in
theorem tX11_text_61 {n0 : Nat} {D : va_G} {Y : Nat → ClassId} {p : Program} {l : Launch} {e : Env} {s : State} {m : MethodId} {args : Array Value} {below : List Frame} {meth : Method} {c : Code} {N : Nat} {fin : Int32 × Hp} {x0 : Nat}  {z : Hp} (C : Cx n0 D Y RX11 cX11_text (some .int) 7 wsX11_text "text" p s m args meth c) {x : (Int32 × Hp)} (h : fX11_text_61 N x0  z = some x) (hF : (fun x => x = fin) x) {H : Heap} {locs : List Loc} {ls : Array Slot} (hw : Wd n0 D Y z s H locs) (hl : lv_has ls 7 [(0, .ref (n0 + x0))]) : W p l e rmX11_text s m args below meth c H locs 0 0 (MQ below (PosI n0 D Y fin.2 fin.1) args s 4 26 (AA n0)) (F0 m 61 ls []) := by
  unfold fX11_text_61 at h
  refine lv_bipush (v := (-2 : Int32)) C.1 C.2.1 dX11_text_61 (by decide) ?_
  cases h
  replace hF : _ = fin := hF
  subst hF
  refine W.widen (k := 4) (n := 26) (by decide) (by decide) ?_
  exact r_iret C hw dX11_text_63
noncomputable def fX11_text (N : Nat) (x0 : Nat) (x1 : Int32) (x2 : Int32) (x3 : Int32) (x4 : Int32) (x5 : Int32) (z : Hp) : Option (Int32 × Hp) := bo (fX11_isOutside N x1 (0 : Int32) (199 : Int32) z) fun r2 => br (r2 = 0) (bo (fX11_isOutside N x5 (0 : Int32) (5 : Int32) z) fun r5 => br (r5 = 0) (bo (fX11_isOutside N x2 (10 : Int32) (300 : Int32) z) fun r8 => br (r8 = 0) (bo (fX11_isOutside N x3 (10 : Int32) (300 : Int32) z) fun r11 => br (r11 = 0) (bo (fX11_isOutside N x4 (10 : Int32) (300 : Int32) z) fun r14 => br (r14 = 0) (gd (x0 < zn z ∧ zK z x0 = 10) <| bo (zG z 642 x0) fun b18 => gd (b18 < zn z ∧ zK z b18 = 4) <| bo (fX5_isFull N b18 z) fun r20 => br (r20 = 0) (bd (zal z 8 0) fun z23 => bo (zG z23 642 x0) fun b28 => gd (b28 < zn z23 ∧ zK z23 b28 = 4) <| bo (fX9_init N (zn z) (zF z23 257 b28) x1 x2 x3 x4 x5 z23) fun z31 => gd (x0 < zn z31 ∧ zK z31 x0 = 10) <| bo (zG z31 642 x0) fun b34 => gd (b34 < zn z31 ∧ zK z31 b34 = 4) <| bo (fX5_enact N b34 (zn z) z31) fun z36 => gd ((zn z) < zn z36 ∧ zK z36 (zn z) = 8) <| some ((zF z36 512 (zn z)), z36)) (some ((-4 : Int32), z))) (fX11_text_61 N x0 z)) (fX11_text_61 N x0 z)) (fX11_text_61 N x0 z)) (fX11_text_21 N x0 z)) (fX11_text_21 N x0 z)
set_option maxHeartbeats 4000000 in
set_option maxRecDepth 100000 in
theorem tX11_text_0 {n0 : Nat} {D : va_G} {Y : Nat → ClassId} {p : Program} {l : Launch} {e : Env} {s : State} {m : MethodId} {args : Array Value} {below : List Frame} {meth : Method} {c : Code} {N : Nat} {fin : Int32 × Hp} {x0 : Nat} {x1 : Int32} {x2 : Int32} {x3 : Int32} {x4 : Int32} {x5 : Int32}  {z : Hp} (C : Cx n0 D Y RX11 cX11_text (some .int) 7 wsX11_text "text" p s m args meth c) {x : (Int32 × Hp)} (h : fX11_text N x0 x1 x2 x3 x4 x5  z = some x) (hF : (fun x => x = fin) x) {H : Heap} {locs : List Loc} {ls : Array Slot} (hw : Wd n0 D Y z s H locs) (hl : lv_has ls 7 [(0, .ref (n0 + x0)), (1, .int x1), (2, .int x2), (3, .int x3), (4, .int x4), (5, .int x5)]) : W p l e rmX11_text s m args below meth c H locs 0 0 (MQ below (PosI n0 D Y fin.2 fin.1) args s 4 26 (AA n0)) (F0 m 0 ls []) := by
  unfold fX11_text at h
  refine lv_iload_n C.1 C.2.1 dX11_text_0 rfl (lv_at hl 1 rfl) ?_
  refine lv_iconst (v := (0 : Int32)) C.1 C.2.1 dX11_text_1 (by decide) ?_
  refine lv_sipush (v := (199 : Int32)) C.1 C.2.1 dX11_text_2 (by decide) ?_
  obtain ⟨r2, e1, h⟩ := boE h
  refine r_afti hw (r_runS (As := [.int x1, .int (0 : Int32), .int (199 : Int32)]) (rest := []) C hw (kX11_isOutside l n0 D Y N x1 (0 : Int32) (199 : Int32) z e1) (va_cwS 3 C.2.2.2.2.2.1 gX11_text_X11_isOutside rfl rfl rfl (by decide +kernel) ⟨(Nat.le_of_ble_eq_true rfl), (Nat.le_of_ble_eq_true rfl)⟩) rfl hl.1 rfl (Nat.le_of_ble_eq_true rfl) dX11_text_5 ⟨(Nat.le_of_ble_eq_true rfl), (Nat.le_of_ble_eq_true rfl)⟩) (fun H locs hw => ?_)
  refine lv_if_ne (tgt := 21) C.1 C.2.1 dX11_text_8 (by decide) (fun c3 => ?_) (fun c3 => ?_)
  · replace h := brF h c3
    exact tX11_text_21 C h hF hw (lv_sub hl [0] rfl)
  · replace h := brT h c3
    refine lv_iload C.1 C.2.1 dX11_text_11 (lv_at hl 5 rfl) ?_
    refine lv_iconst (v := (0 : Int32)) C.1 C.2.1 dX11_text_13 (by decide) ?_
    refine lv_iconst (v := (5 : Int32)) C.1 C.2.1 dX11_text_14 (by decide) ?_
    obtain ⟨r5, e4, h⟩ := boE h
    refine r_afti hw (r_runS (As := [.int x5, .int (0 : Int32), .int (5 : Int32)]) (rest := []) C hw (kX11_isOutside l n0 D Y N x5 (0 : Int32) (5 : Int32) z e4) (va_cwS 3 C.2.2.2.2.2.1 gX11_text_X11_isOutside rfl rfl rfl (by decide +kernel) ⟨(Nat.le_of_ble_eq_true rfl), (Nat.le_of_ble_eq_true rfl)⟩) rfl hl.1 rfl (Nat.le_of_ble_eq_true rfl) dX11_text_15 ⟨(Nat.le_of_ble_eq_true rfl), (Nat.le_of_ble_eq_true rfl)⟩) (fun H locs hw => ?_)
    refine lv_if_eq (tgt := 24) C.1 C.2.1 dX11_text_18 (by decide) (fun c6 => ?_) (fun c6 => ?_)
    · replace h := brT h c6
      refine lv_iload_n C.1 C.2.1 dX11_text_24 rfl (lv_at hl 2 rfl) ?_
      refine lv_bipush (v := (10 : Int32)) C.1 C.2.1 dX11_text_25 (by decide) ?_
      refine lv_sipush (v := (300 : Int32)) C.1 C.2.1 dX11_text_27 (by decide) ?_
      obtain ⟨r8, e7, h⟩ := boE h
      refine r_afti hw (r_runS (As := [.int x2, .int (10 : Int32), .int (300 : Int32)]) (rest := []) C hw (kX11_isOutside l n0 D Y N x2 (10 : Int32) (300 : Int32) z e7) (va_cwS 3 C.2.2.2.2.2.1 gX11_text_X11_isOutside rfl rfl rfl (by decide +kernel) ⟨(Nat.le_of_ble_eq_true rfl), (Nat.le_of_ble_eq_true rfl)⟩) rfl hl.1 rfl (Nat.le_of_ble_eq_true rfl) dX11_text_30 ⟨(Nat.le_of_ble_eq_true rfl), (Nat.le_of_ble_eq_true rfl)⟩) (fun H locs hw => ?_)
      refine lv_if_ne (tgt := 61) C.1 C.2.1 dX11_text_33 (by decide) (fun c9 => ?_) (fun c9 => ?_)
      · replace h := brF h c9
        exact tX11_text_61 C h hF hw (lv_sub hl [0] rfl)
      · replace h := brT h c9
        refine lv_iload_n C.1 C.2.1 dX11_text_36 rfl (lv_at hl 3 rfl) ?_
        refine lv_bipush (v := (10 : Int32)) C.1 C.2.1 dX11_text_37 (by decide) ?_
        refine lv_sipush (v := (300 : Int32)) C.1 C.2.1 dX11_text_39 (by decide) ?_
        obtain ⟨r11, e10, h⟩ := boE h
        refine r_afti hw (r_runS (As := [.int x3, .int (10 : Int32), .int (300 : Int32)]) (rest := []) C hw (kX11_isOutside l n0 D Y N x3 (10 : Int32) (300 : Int32) z e10) (va_cwS 3 C.2.2.2.2.2.1 gX11_text_X11_isOutside rfl rfl rfl (by decide +kernel) ⟨(Nat.le_of_ble_eq_true rfl), (Nat.le_of_ble_eq_true rfl)⟩) rfl hl.1 rfl (Nat.le_of_ble_eq_true rfl) dX11_text_42 ⟨(Nat.le_of_ble_eq_true rfl), (Nat.le_of_ble_eq_true rfl)⟩) (fun H locs hw => ?_)
        refine lv_if_ne (tgt := 61) C.1 C.2.1 dX11_text_45 (by decide) (fun c12 => ?_) (fun c12 => ?_)
        · replace h := brF h c12
          exact tX11_text_61 C h hF hw (lv_sub hl [0] rfl)
        · replace h := brT h c12
          refine lv_iload C.1 C.2.1 dX11_text_48 (lv_at hl 4 rfl) ?_
          refine lv_bipush (v := (10 : Int32)) C.1 C.2.1 dX11_text_50 (by decide) ?_
          refine lv_sipush (v := (300 : Int32)) C.1 C.2.1 dX11_text_52 (by decide) ?_
          obtain ⟨r14, e13, h⟩ := boE h
          refine r_afti hw (r_runS (As := [.int x4, .int (10 : Int32), .int (300 : Int32)]) (rest := []) C hw (kX11_isOutside l n0 D Y N x4 (10 : Int32) (300 : Int32) z e13) (va_cwS 3 C.2.2.2.2.2.1 gX11_text_X11_isOutside rfl rfl rfl (by decide +kernel) ⟨(Nat.le_of_ble_eq_true rfl), (Nat.le_of_ble_eq_true rfl)⟩) rfl hl.1 rfl (Nat.le_of_ble_eq_true rfl) dX11_text_55 ⟨(Nat.le_of_ble_eq_true rfl), (Nat.le_of_ble_eq_true rfl)⟩) (fun H locs hw => ?_)
          refine lv_if_eq (tgt := 64) C.1 C.2.1 dX11_text_58 (by decide) (fun c15 => ?_) (fun c15 => ?_)
          · replace h := brT h c15
            refine lv_aload_n C.1 C.2.1 dX11_text_64 rfl (lv_at hl 0 rfl) ?_
            obtain ⟨g16, h⟩ := gdE h
            refine r_get (v := rv n0 (zG z 642 x0)) C hw g16 (by decide) (Cn := RX11) (T := TX11) (N := 12) rfl in_X11_text_X11 2 (by decide) (by decide +kernel) (fun _ h => h) rfl dX11_text_65 ?_
            obtain ⟨b18, e17, h⟩ := boE h
            refine r_topr e17 ?_
            obtain ⟨g21, h⟩ := gdE h
            obtain ⟨r20, e19, h⟩ := boE h
            refine r_afti hw (r_runV (As := []) (rest := []) C hw (ki := 4) g21 (by decide) rfl (kX5_isFull l n0 D Y N b18  z e19) (cwV 0 C.2.2.2.2.2.1 gX11_text_X5_isFull rfl rfl rfl (by decide +kernel) ⟨(Nat.le_of_ble_eq_true rfl), (Nat.le_of_ble_eq_true rfl)⟩) rfl hl.1 rfl (Nat.le_of_ble_eq_true rfl) dX11_text_68 ⟨(Nat.le_of_ble_eq_true rfl), (Nat.le_of_ble_eq_true rfl)⟩) (fun H locs hw => ?_)
            refine lv_if_eq (tgt := 77) C.1 C.2.1 dX11_text_71 (by decide) (fun c22 => ?_) (fun c22 => ?_)
            · replace h := brT h c22
              obtain ⟨z23, e24, h⟩ := bdE h
              refine r_new C hw 8 (by decide) (Cn := RX9) (T := TX9) (N := 7) rfl in_X11_text_X9 tyX9 tyX9_ok (by decide +kernel) (by decide +kernel) (by decide +kernel) (nw_8 n0 z) (by decide) (by decide) dX11_text_77 (fun H hw => ?_)
              rw [← e24] at hw
              have g25 : (zn z) < zn z23 ∧ zK z23 (zn z) = 8 := by rw [e24]; exact ok_new _ _ _
              refine lv_dup C.1 C.2.1 dX11_text_80 rfl ?_
              refine lv_aload_n C.1 C.2.1 dX11_text_81 rfl (lv_at hl 0 rfl) ?_
              have g26 : x0 < zn z23 ∧ zK z23 x0 = 10 := by rw [e24]; exact ok_al _ _ g16
              refine r_get (v := rv n0 (zG z23 642 x0)) C hw g26 (by decide) (Cn := RX11) (T := TX11) (N := 12) rfl in_X11_text_X11 2 (by decide) (by decide +kernel) (fun _ h => h) rfl dX11_text_82 ?_
              obtain ⟨b28, e27, h⟩ := boE h
              refine r_topr e27 ?_
              obtain ⟨g29, h⟩ := gdE h
              refine r_get (v := .int (zF z23 257 b28)) C hw g29 (by decide) (Cn := RX5) (T := TX5) (N := 2) rfl in_X11_text_X5 1 (by decide) (by decide +kernel) (fun _ h => h) rfl dX11_text_85 ?_
              refine lv_iload_n C.1 C.2.1 dX11_text_88 rfl (lv_at hl 1 rfl) ?_
              refine lv_iload_n C.1 C.2.1 dX11_text_89 rfl (lv_at hl 2 rfl) ?_
              refine lv_iload_n C.1 C.2.1 dX11_text_90 rfl (lv_at hl 3 rfl) ?_
              refine lv_iload C.1 C.2.1 dX11_text_91 (lv_at hl 4 rfl) ?_
              refine lv_iload C.1 C.2.1 dX11_text_93 (lv_at hl 5 rfl) ?_
              obtain ⟨z31, e30, h⟩ := boE h
              refine r_aftv hw (r_runI (As := [.int (zF z23 257 b28), .int x1, .int x2, .int x3, .int x4, .int x5]) (rest := [.ref (n0 + (zn z))]) C hw (kX9_init l n0 D Y N (zn z) (zF z23 257 b28) x1 x2 x3 x4 x5 z23 e30) (cwI 6 C.2.2.2.2.2.1 gX11_text_X9_init rfl rfl rfl (C.2.2.2.2.2.1 (.initialized RX9) (by decide +kernel)) (C.2.2.2.2.2.1 (.methodLink RX11 137 yX9_init) (by decide +kernel)) (C.2.2.2.2.2.1 (.instanceMethod yX9_init) (by decide +kernel)) rfl (by decide +kernel) ⟨(Nat.le_of_ble_eq_true rfl), (Nat.le_of_ble_eq_true rfl)⟩) rfl hl.1 rfl (Nat.le_of_ble_eq_true rfl) dX11_text_95 ⟨(Nat.le_of_ble_eq_true rfl), (Nat.le_of_ble_eq_true rfl)⟩) (fun H locs hw => ?_)
              refine lv_astore (i := 6) (lv' := [(6, .ref (n0 + (zn z))), (0, .ref (n0 + x0)), (1, .int x1), (2, .int x2), (3, .int x3), (4, .int x4), (5, .int x5)]) C.1 C.2.1 dX11_text_98 hl (by decide) rfl (fun ls hl => ?_)
              refine lv_aload_n C.1 C.2.1 dX11_text_100 rfl (lv_at hl 1 rfl) ?_
              obtain ⟨g32, h⟩ := gdE h
              refine r_get (v := rv n0 (zG z31 642 x0)) C hw g32 (by decide) (Cn := RX11) (T := TX11) (N := 12) rfl in_X11_text_X11 2 (by decide) (by decide +kernel) (fun _ h => h) rfl dX11_text_101 ?_
              obtain ⟨b34, e33, h⟩ := boE h
              refine r_topr e33 ?_
              refine lv_aload C.1 C.2.1 dX11_text_104 (lv_at hl 0 rfl) ?_
              obtain ⟨g37, h⟩ := gdE h
              obtain ⟨z36, e35, h⟩ := boE h
              refine r_aftv hw (r_runV (As := [.ref (n0 + (zn z))]) (rest := []) C hw (ki := 4) g37 (by decide) rfl (kX5_enact l n0 D Y N b34 (zn z) z31 e35) (cwV 1 C.2.2.2.2.2.1 gX11_text_X5_enact rfl rfl rfl (by decide +kernel) ⟨(Nat.le_of_ble_eq_true rfl), (Nat.le_of_ble_eq_true rfl)⟩) rfl hl.1 rfl (Nat.le_of_ble_eq_true rfl) dX11_text_106 ⟨(Nat.le_of_ble_eq_true rfl), (Nat.le_of_ble_eq_true rfl)⟩) (fun H locs hw => ?_)
              refine lv_aload C.1 C.2.1 dX11_text_109 (lv_at hl 0 rfl) ?_
              obtain ⟨g38, h⟩ := gdE h
              refine r_get (v := .int (zF z36 512 (zn z))) C hw g38 (by decide) (Cn := RX9) (T := TX9) (N := 7) rfl in_X11_text_X9 0 (by decide) (by decide +kernel) (fun _ h => h) rfl dX11_text_111 ?_
              cases h
              replace hF : _ = fin := hF
              subst hF
              exact r_iret C hw dX11_text_114
            · replace h := brF h c22
              refine lv_bipush (v := (-4 : Int32)) C.1 C.2.1 dX11_text_74 (by decide) ?_
              cases h
              replace hF : _ = fin := hF
              subst hF
              refine W.widen (k := 4) (n := 26) (by decide) (by decide) ?_
              exact r_iret C hw dX11_text_76
          · replace h := brF h c15
            exact tX11_text_61 C h hF hw (lv_sub hl [0] rfl)
    · replace h := brF h c6
      exact tX11_text_21 C h hF hw (lv_sub hl [0] rfl)
set_option maxRecDepth 100000 in
theorem kX11_text (l : Launch) (n0 : Nat) (D : va_G) (Y : Nat → ClassId) (N : Nat) (x0 : Nat) (x1 : Int32) (x2 : Int32) (x3 : Int32) (x4 : Int32) (x5 : Int32) (z : Hp) {r : Int32} {z1 : Hp} (h : fX11_text N x0 x1 x2 x3 x4 x5 z = some (r, z1)) : Met l yX11_text wsX11_text rmX11_text (PreC n0 D Y z [.ref (n0 + x0), .int x1, .int x2, .int x3, .int x4, .int x5]) (PosI n0 D Y z1 r) 4 26 (AA n0) := by
  refine Met.ofW (cc := cX11_text) (maxL := 7) (ret := (some .int)) (by decide) rfl ?_
  intro p e s m args below meth c s₁ B hml hv
  obtain ⟨rfl, hR, hK⟩ := hv
  have C : Cx n0 D Y RX11 cX11_text (some .int) 7 wsX11_text "text" p s m ([.ref (n0 + x0), .int x1, .int x2, .int x3, .int x4, .int x5] : List Value).toArray meth c := ⟨B.exec, B.bytes, B.returns, hml, findClass_of_methodNamed B.named, atoms_spec (ws := wsX11_text) B.pre, B.notSynchronized, (name_of_methodNamed B.named B.method).1, hK⟩
  have hl := lv_entry ([.ref (n0 + x0), .int x1, .int x2, .int x3, .int x4, .int x5]) (n := 7) (Nat.le_of_ble_eq_true rfl)
  rw [lg_entry_eq]
  generalize (lg_sl ([.ref (n0 + x0), .int x1, .int x2, .int x3, .int x4, .int x5]) ++ List.replicate (7 - (lg_sl ([.ref (n0 + x0), .int x1, .int x2, .int x3, .int x4, .int x5])).length) Slot.unset).toArray = ls at hl ⊢
  have hl : lv_has ls 7 [(0, .ref (n0 + x0)), (1, .int x1), (2, .int x2), (3, .int x3), (4, .int x4), (5, .int x5)] := hl
  exact tX11_text_0 C h rfl ⟨hR, va_S.rf⟩ hl
theorem in_X11_step_X11 : ∀ w ∈ wsX110, w ∈ wsX11_step := by decide +kernel
theorem in_X11_step_X9 : ∀ w ∈ wsX90, w ∈ wsX11_step := by decide +kernel
abbrev rmX11_step : Room := { frames := 2, cells := 0, slots := 0, locals := 42 }
noncomputable def fX11_step_39 (N : Nat) (x0 : Nat) (z : Hp) : Option (Int32 × Hp) := some ((-2 : Int32), z)
set_option maxHeartbeats 4000000 in
set_option maxRecDepth 100000 in
theorem tX11_step_39 {n0 : Nat} {D : va_G} {Y : Nat → ClassId} {p : Program} {l : Launch} {e : Env} {s : State} {m : MethodId} {args : Array Value} {below : List Frame} {meth : Method} {c : Code} {N : Nat} {fin : Int32 × Hp} {x0 : Nat}  {z : Hp} (C : Cx n0 D Y RX11 cX11_step (some .int) 5 wsX11_step "step" p s m args meth c) {x : (Int32 × Hp)} (h : fX11_step_39 N x0  z = some x) (hF : (fun x => x = fin) x) {H : Heap} {locs : List Loc} {ls : Array Slot} (hw : Wd n0 D Y z s H locs) (hl : lv_has ls 5 [(0, .ref (n0 + x0))]) : W p l e rmX11_step s m args below meth c H locs 0 0 (MQ below (PosI n0 D Y fin.2 fin.1) args s 0 0 (AA n0)) (F0 m 39 ls []) := by
  unfold fX11_step_39 at h
  refine lv_bipush (v := (-2 : Int32)) C.1 C.2.1 dX11_step_39 (by decide) ?_
  cases h
  replace hF : _ = fin := hF
  subst hF
  exact r_iret C hw dX11_step_41
noncomputable def fX11_step (N : Nat) (x0 : Nat) (x1 : Int32) (x2 : Int32) (x3 : Int32) (z : Hp) : Option (Int32 × Hp) := gd (x0 < zn z ∧ zK z x0 = 10) <| bo (zG z 642 x0) fun b3 => gd (b3 < zn z ∧ zK z b3 = 4) <| bo (fX5_textAt N b3 x1 z) fun q5 => cs q5 (some ((-1 : Int32), z)) (fun b7 => bo (fX11_isOutside N x2 (0 : Int32) (1000 : Int32) z) fun r10 => br (r10 = 0) (bo (fX11_isOutside N x3 (1 : Int32) (1000 : Int32) z) fun r13 => br (r13 = 0) (gd (b7 < zn z ∧ zK z b7 = 8) <| bo (fX9_isFull N b7 z) fun r16 => br (r16 = 0) (bo (fX9_addStep N b7 x2 x3 z) fun z20 => gd (b7 < zn z20 ∧ zK z20 b7 = 8) <| some ((zF z20 518 b7), z20)) (some ((-4 : Int32), z))) (fX11_step_39 N x0 z)) (fX11_step_39 N x0 z))
set_option maxHeartbeats 4000000 in
set_option maxRecDepth 100000 in
theorem tX11_step_0 {n0 : Nat} {D : va_G} {Y : Nat → ClassId} {p : Program} {l : Launch} {e : Env} {s : State} {m : MethodId} {args : Array Value} {below : List Frame} {meth : Method} {c : Code} {N : Nat} {fin : Int32 × Hp} {x0 : Nat} {x1 : Int32} {x2 : Int32} {x3 : Int32}  {z : Hp} (C : Cx n0 D Y RX11 cX11_step (some .int) 5 wsX11_step "step" p s m args meth c) {x : (Int32 × Hp)} (h : fX11_step N x0 x1 x2 x3  z = some x) (hF : (fun x => x = fin) x) {H : Heap} {locs : List Loc} {ls : Array Slot} (hw : Wd n0 D Y z s H locs) (hl : lv_has ls 5 [(0, .ref (n0 + x0)), (1, .int x1), (2, .int x2), (3, .int x3)]) : W p l e rmX11_step s m args below meth c H locs 0 0 (MQ below (PosI n0 D Y fin.2 fin.1) args s 0 0 (AA n0)) (F0 m 0 ls []) := by
  unfold fX11_step at h
  refine lv_aload_n C.1 C.2.1 dX11_step_0 rfl (lv_at hl 0 rfl) ?_
  obtain ⟨g1, h⟩ := gdE h
  refine r_get (v := rv n0 (zG z 642 x0)) C hw g1 (by decide) (Cn := RX11) (T := TX11) (N := 12) rfl in_X11_step_X11 2 (by decide) (by decide +kernel) (fun _ h => h) rfl dX11_step_1 ?_
  obtain ⟨b3, e2, h⟩ := boE h
  refine r_topr e2 ?_
  refine lv_iload_n C.1 C.2.1 dX11_step_4 rfl (lv_at hl 1 rfl) ?_
  obtain ⟨g6, h⟩ := gdE h
  obtain ⟨q5, e4, h⟩ := boE h
  refine r_aftq hw (r_runV (As := [.int x1]) (rest := []) C hw (ki := 4) g6 (by decide) rfl (kX5_textAt l n0 D Y N b3 x1 z e4) (cwV 1 C.2.2.2.2.2.1 gX11_step_X5_textAt rfl rfl rfl (by decide +kernel) ⟨(Nat.le_of_ble_eq_true rfl), (Nat.le_of_ble_eq_true rfl)⟩) rfl hl.1 rfl (Nat.le_of_ble_eq_true rfl) dX11_step_5 ⟨(Nat.le_of_ble_eq_true rfl), (Nat.le_of_ble_eq_true rfl)⟩) (fun H locs hw => ?_)
  refine r_astore (i := 4) (r := q5) (lv' := [(4, rv n0 q5), (0, .ref (n0 + x0)), (1, .int x1), (2, .int x2), (3, .int x3)]) C dX11_step_8 hl (by decide) rfl (fun ls hl => ?_)
  refine r_aload (r := q5) C dX11_step_10 (lv_at hl 0 rfl) ?_
  refine r_ifnonnull (tgt := 17) C dX11_step_12 (by decide) (fun c8 => ?_) (fun b7 c8 => ?_)
  · subst c8
    replace h := csN h
    refine lv_iconst (v := (-1 : Int32)) C.1 C.2.1 dX11_step_15 (by decide) ?_
    cases h
    replace hF : _ = fin := hF
    subst hF
    exact r_iret C hw dX11_step_16
  · subst c8
    replace h := csS h
    refine lv_iload_n C.1 C.2.1 dX11_step_17 rfl (lv_at hl 3 rfl) ?_
    refine lv_iconst (v := (0 : Int32)) C.1 C.2.1 dX11_step_18 (by decide) ?_
    refine lv_sipush (v := (1000 : Int32)) C.1 C.2.1 dX11_step_19 (by decide) ?_
    obtain ⟨r10, e9, h⟩ := boE h
    refine r_afti hw (r_runS (As := [.int x2, .int (0 : Int32), .int (1000 : Int32)]) (rest := []) C hw (kX11_isOutside l n0 D Y N x2 (0 : Int32) (1000 : Int32) z e9) (va_cwS 3 C.2.2.2.2.2.1 gX11_step_X11_isOutside rfl rfl rfl (by decide +kernel) ⟨(Nat.le_of_ble_eq_true rfl), (Nat.le_of_ble_eq_true rfl)⟩) rfl hl.1 rfl (Nat.le_of_ble_eq_true rfl) dX11_step_22 ⟨(Nat.le_of_ble_eq_true rfl), (Nat.le_of_ble_eq_true rfl)⟩) (fun H locs hw => ?_)
    refine lv_if_ne (tgt := 39) C.1 C.2.1 dX11_step_25 (by decide) (fun c11 => ?_) (fun c11 => ?_)
    · replace h := brF h c11
      exact tX11_step_39 C h hF hw (lv_sub hl [1] rfl)
    · replace h := brT h c11
      refine lv_iload_n C.1 C.2.1 dX11_step_28 rfl (lv_at hl 4 rfl) ?_
      refine lv_iconst (v := (1 : Int32)) C.1 C.2.1 dX11_step_29 (by decide) ?_
      refine lv_sipush (v := (1000 : Int32)) C.1 C.2.1 dX11_step_30 (by decide) ?_
      obtain ⟨r13, e12, h⟩ := boE h
      refine r_afti hw (r_runS (As := [.int x3, .int (1 : Int32), .int (1000 : Int32)]) (rest := []) C hw (kX11_isOutside l n0 D Y N x3 (1 : Int32) (1000 : Int32) z e12) (va_cwS 3 C.2.2.2.2.2.1 gX11_step_X11_isOutside rfl rfl rfl (by decide +kernel) ⟨(Nat.le_of_ble_eq_true rfl), (Nat.le_of_ble_eq_true rfl)⟩) rfl hl.1 rfl (Nat.le_of_ble_eq_true rfl) dX11_step_33 ⟨(Nat.le_of_ble_eq_true rfl), (Nat.le_of_ble_eq_true rfl)⟩) (fun H locs hw => ?_)
      refine lv_if_eq (tgt := 42) C.1 C.2.1 dX11_step_36 (by decide) (fun c14 => ?_) (fun c14 => ?_)
      · replace h := brT h c14
        refine lv_aload C.1 C.2.1 dX11_step_42 (lv_at hl 0 rfl) ?_
        obtain ⟨g17, h⟩ := gdE h
        obtain ⟨r16, e15, h⟩ := boE h
        refine r_afti hw (r_runV (As := []) (rest := []) C hw (ki := 8) g17 (by decide) rfl (kX9_isFull l n0 D Y N b7  z e15) (cwV 0 C.2.2.2.2.2.1 gX11_step_X9_isFull rfl rfl rfl (by decide +kernel) ⟨(Nat.le_of_ble_eq_true rfl), (Nat.le_of_ble_eq_true rfl)⟩) rfl hl.1 rfl (Nat.le_of_ble_eq_true rfl) dX11_step_44 ⟨(Nat.le_of_ble_eq_true rfl), (Nat.le_of_ble_eq_true rfl)⟩) (fun H locs hw => ?_)
        refine lv_if_eq (tgt := 53) C.1 C.2.1 dX11_step_47 (by decide) (fun c18 => ?_) (fun c18 => ?_)
        · replace h := brT h c18
          refine lv_aload C.1 C.2.1 dX11_step_53 (lv_at hl 0 rfl) ?_
          refine lv_iload_n C.1 C.2.1 dX11_step_55 rfl (lv_at hl 3 rfl) ?_
          refine lv_iload_n C.1 C.2.1 dX11_step_56 rfl (lv_at hl 4 rfl) ?_
          obtain ⟨z20, e19, h⟩ := boE h
          refine r_aftv hw (r_runV (As := [.int x2, .int x3]) (rest := []) C hw (ki := 8) g17 (by decide) rfl (kX9_addStep l n0 D Y N b7 x2 x3 z e19) (cwV 2 C.2.2.2.2.2.1 gX11_step_X9_addStep rfl rfl rfl (by decide +kernel) ⟨(Nat.le_of_ble_eq_true rfl), (Nat.le_of_ble_eq_true rfl)⟩) rfl hl.1 rfl (Nat.le_of_ble_eq_true rfl) dX11_step_57 ⟨(Nat.le_of_ble_eq_true rfl), (Nat.le_of_ble_eq_true rfl)⟩) (fun H locs hw => ?_)
          refine lv_aload C.1 C.2.1 dX11_step_60 (lv_at hl 0 rfl) ?_
          obtain ⟨g21, h⟩ := gdE h
          refine r_get (v := .int (zF z20 518 b7)) C hw g21 (by decide) (Cn := RX9) (T := TX9) (N := 7) rfl in_X11_step_X9 6 (by decide) (by decide +kernel) (fun _ h => h) rfl dX11_step_62 ?_
          cases h
          replace hF : _ = fin := hF
          subst hF
          exact r_iret C hw dX11_step_65
        · replace h := brF h c18
          refine lv_bipush (v := (-4 : Int32)) C.1 C.2.1 dX11_step_50 (by decide) ?_
          cases h
          replace hF : _ = fin := hF
          subst hF
          exact r_iret C hw dX11_step_52
      · replace h := brF h c14
        exact tX11_step_39 C h hF hw (lv_sub hl [1] rfl)
set_option maxRecDepth 100000 in
theorem kX11_step (l : Launch) (n0 : Nat) (D : va_G) (Y : Nat → ClassId) (N : Nat) (x0 : Nat) (x1 : Int32) (x2 : Int32) (x3 : Int32) (z : Hp) {r : Int32} {z1 : Hp} (h : fX11_step N x0 x1 x2 x3 z = some (r, z1)) : Met l yX11_step wsX11_step rmX11_step (PreC n0 D Y z [.ref (n0 + x0), .int x1, .int x2, .int x3]) (PosI n0 D Y z1 r) 0 0 (AA n0) := by
  refine Met.ofW (cc := cX11_step) (maxL := 5) (ret := (some .int)) (by decide) rfl ?_
  intro p e s m args below meth c s₁ B hml hv
  obtain ⟨rfl, hR, hK⟩ := hv
  have C : Cx n0 D Y RX11 cX11_step (some .int) 5 wsX11_step "step" p s m ([.ref (n0 + x0), .int x1, .int x2, .int x3] : List Value).toArray meth c := ⟨B.exec, B.bytes, B.returns, hml, findClass_of_methodNamed B.named, atoms_spec (ws := wsX11_step) B.pre, B.notSynchronized, (name_of_methodNamed B.named B.method).1, hK⟩
  have hl := lv_entry ([.ref (n0 + x0), .int x1, .int x2, .int x3]) (n := 5) (Nat.le_of_ble_eq_true rfl)
  rw [lg_entry_eq]
  generalize (lg_sl ([.ref (n0 + x0), .int x1, .int x2, .int x3]) ++ List.replicate (5 - (lg_sl ([.ref (n0 + x0), .int x1, .int x2, .int x3])).length) Slot.unset).toArray = ls at hl ⊢
  have hl : lv_has ls 5 [(0, .ref (n0 + x0)), (1, .int x1), (2, .int x2), (3, .int x3)] := hl
  exact tX11_step_0 C h rfl ⟨hR, va_S.rf⟩ hl
theorem in_X11_inForce_X11 : ∀ w ∈ wsX110, w ∈ wsX11_inForce := by decide +kernel
theorem in_X11_inForce_X9 : ∀ w ∈ wsX90, w ∈ wsX11_inForce := by decide +kernel
abbrev rmX11_inForce : Room := { frames := 1, cells := 0, slots := 0, locals := 24 }
noncomputable def fX11_inForce (N : Nat) (x0 : Nat) (x1 : Int32) (z : Hp) : Option (Int32) := bo (fX11_isOutside N x1 (0 : Int32) (199 : Int32) z) fun r2 => br (r2 = 0) (gd (x0 < zn z ∧ zK z x0 = 10) <| bo (zG z 642 x0) fun b6 => gd (b6 < zn z ∧ zK z b6 = 4) <| bo (fX5_ruling N b6 x1 z) fun q8 => cs q8 (some (-6 : Int32)) (fun b10 => gd (b10 < zn z ∧ zK z b10 = 8) <| some (zF z 512 b10))) (some (-1 : Int32))
set_option maxHeartbeats 4000000 in
set_option maxRecDepth 100000 in
theorem tX11_inForce_0 {n0 : Nat} {D : va_G} {Y : Nat → ClassId} {p : Program} {l : Launch} {e : Env} {s : State} {m : MethodId} {args : Array Value} {below : List Frame} {meth : Method} {c : Code} {N : Nat} {fin : Int32} {x0 : Nat} {x1 : Int32}  {z : Hp} (C : Cx n0 D Y RX11 cX11_inForce (some .int) 3 wsX11_inForce "inForce" p s m args meth c) {x : (Int32)} (h : fX11_inForce N x0 x1  z = some x) (hF : (fun x => x = fin) x) {H : Heap} {locs : List Loc} {ls : Array Slot} (hw : Wd n0 D Y z s H locs) (hl : lv_has ls 3 [(0, .ref (n0 + x0)), (1, .int x1)]) : W p l e rmX11_inForce s m args below meth c H locs 0 0 (MQ below (PosI n0 D Y z fin) args s 0 0 (AA n0)) (F0 m 0 ls []) := by
  unfold fX11_inForce at h
  refine lv_iload_n C.1 C.2.1 dX11_inForce_0 rfl (lv_at hl 1 rfl) ?_
  refine lv_iconst (v := (0 : Int32)) C.1 C.2.1 dX11_inForce_1 (by decide) ?_
  refine lv_sipush (v := (199 : Int32)) C.1 C.2.1 dX11_inForce_2 (by decide) ?_
  obtain ⟨r2, e1, h⟩ := boE h
  refine r_afti hw (r_runS (As := [.int x1, .int (0 : Int32), .int (199 : Int32)]) (rest := []) C hw (kX11_isOutside l n0 D Y N x1 (0 : Int32) (199 : Int32) z e1) (va_cwS 3 C.2.2.2.2.2.1 gX11_inForce_X11_isOutside rfl rfl rfl (by decide +kernel) ⟨(Nat.le_of_ble_eq_true rfl), (Nat.le_of_ble_eq_true rfl)⟩) rfl hl.1 rfl (Nat.le_of_ble_eq_true rfl) dX11_inForce_5 ⟨(Nat.le_of_ble_eq_true rfl), (Nat.le_of_ble_eq_true rfl)⟩) (fun H locs hw => ?_)
  refine lv_if_eq (tgt := 13) C.1 C.2.1 dX11_inForce_8 (by decide) (fun c3 => ?_) (fun c3 => ?_)
  · replace h := brT h c3
    refine lv_aload_n C.1 C.2.1 dX11_inForce_13 rfl (lv_at hl 0 rfl) ?_
    obtain ⟨g4, h⟩ := gdE h
    refine r_get (v := rv n0 (zG z 642 x0)) C hw g4 (by decide) (Cn := RX11) (T := TX11) (N := 12) rfl in_X11_inForce_X11 2 (by decide) (by decide +kernel) (fun _ h => h) rfl dX11_inForce_14 ?_
    obtain ⟨b6, e5, h⟩ := boE h
    refine r_topr e5 ?_
    refine lv_iload_n C.1 C.2.1 dX11_inForce_17 rfl (lv_at hl 1 rfl) ?_
    obtain ⟨g9, h⟩ := gdE h
    obtain ⟨q8, e7, h⟩ := boE h
    refine r_aftq hw (r_runV (As := [.int x1]) (rest := []) C hw (ki := 4) g9 (by decide) rfl (kX5_ruling l n0 D Y N b6 x1 z e7) (cwV 1 C.2.2.2.2.2.1 gX11_inForce_X5_ruling rfl rfl rfl (by decide +kernel) ⟨(Nat.le_of_ble_eq_true rfl), (Nat.le_of_ble_eq_true rfl)⟩) rfl hl.1 rfl (Nat.le_of_ble_eq_true rfl) dX11_inForce_18 ⟨(Nat.le_of_ble_eq_true rfl), (Nat.le_of_ble_eq_true rfl)⟩) (fun H locs hw => ?_)
    refine r_astore_n (i := 2) (r := q8) (lv' := [(2, rv n0 q8), (0, .ref (n0 + x0)), (1, .int x1)]) C dX11_inForce_21 rfl hl (by decide) rfl (fun ls hl => ?_)
    refine r_aload_n (r := q8) C dX11_inForce_22 rfl (lv_at hl 0 rfl) ?_
    refine r_ifnonnull (tgt := 31) C dX11_inForce_23 (by decide) (fun c11 => ?_) (fun b10 c11 => ?_)
    · subst c11
      replace h := csN h
      refine lv_bipush (v := (-6 : Int32)) C.1 C.2.1 dX11_inForce_26 (by decide) ?_
      refine lv_goto (tgt := 35) C.1 C.2.1 dX11_inForce_28 (by decide) ?_
      cases h
      replace hF : _ = fin := hF
      subst hF
      exact r_iret C hw dX11_inForce_35
    · subst c11
      replace h := csS h
      refine lv_aload_n C.1 C.2.1 dX11_inForce_31 rfl (lv_at hl 0 rfl) ?_
      obtain ⟨g12, h⟩ := gdE h
      refine r_get (v := .int (zF z 512 b10)) C hw g12 (by decide) (Cn := RX9) (T := TX9) (N := 7) rfl in_X11_inForce_X9 0 (by decide) (by decide +kernel) (fun _ h => h) rfl dX11_inForce_32 ?_
      cases h
      replace hF : _ = fin := hF
      subst hF
      exact r_iret C hw dX11_inForce_35
  · replace h := brF h c3
    refine lv_iconst (v := (-1 : Int32)) C.1 C.2.1 dX11_inForce_11 (by decide) ?_
    cases h
    replace hF : _ = fin := hF
    subst hF
    exact r_iret C hw dX11_inForce_12
set_option maxRecDepth 100000 in
theorem kX11_inForce (l : Launch) (n0 : Nat) (D : va_G) (Y : Nat → ClassId) (N : Nat) (x0 : Nat) (x1 : Int32) (z : Hp) {r : Int32} (h : fX11_inForce N x0 x1 z = some r) : Met l yX11_inForce wsX11_inForce rmX11_inForce (PreC n0 D Y z [.ref (n0 + x0), .int x1]) (PosI n0 D Y z r) 0 0 (AA n0) := by
  refine Met.ofW (cc := cX11_inForce) (maxL := 3) (ret := (some .int)) (by decide) rfl ?_
  intro p e s m args below meth c s₁ B hml hv
  obtain ⟨rfl, hR, hK⟩ := hv
  have C : Cx n0 D Y RX11 cX11_inForce (some .int) 3 wsX11_inForce "inForce" p s m ([.ref (n0 + x0), .int x1] : List Value).toArray meth c := ⟨B.exec, B.bytes, B.returns, hml, findClass_of_methodNamed B.named, atoms_spec (ws := wsX11_inForce) B.pre, B.notSynchronized, (name_of_methodNamed B.named B.method).1, hK⟩
  have hl := lv_entry ([.ref (n0 + x0), .int x1]) (n := 3) (Nat.le_of_ble_eq_true rfl)
  rw [lg_entry_eq]
  generalize (lg_sl ([.ref (n0 + x0), .int x1]) ++ List.replicate (3 - (lg_sl ([.ref (n0 + x0), .int x1])).length) Slot.unset).toArray = ls at hl ⊢
  have hl : lv_has ls 3 [(0, .ref (n0 + x0)), (1, .int x1)] := hl
  exact tX11_inForce_0 C h rfl ⟨hR, va_S.rf⟩ hl
theorem in_X11_dueBy_X11 : ∀ w ∈ wsX110, w ∈ wsX11_dueBy := by decide +kernel
abbrev rmX11_dueBy : Room := { frames := 2, cells := 0, slots := 0, locals := 46 }
noncomputable def fX11_dueBy (N : Nat) (x0 : Nat) (x1 : Option Nat) (x2 : Int32) (x3 : Int32) (z : Hp) : Option (Int32) := cs x1 (some (0 : Int32)) (fun b1 => gd (x0 < zn z ∧ zK z x0 = 10) <| bo (zG z 641 x0) fun b5 => gd (b5 < zn z ∧ zK z b5 = 6) <| bo (fX7_priceOf N b5 (x3 - (1 : Int32)) z) fun r7 => gd (b1 < zn z ∧ zK z b1 = 8) <| bo (fX9_loaf N b1 x2 r7 z) fun r10 => some r10)
set_option maxHeartbeats 4000000 in
set_option maxRecDepth 100000 in
theorem tX11_dueBy_0 {n0 : Nat} {D : va_G} {Y : Nat → ClassId} {p : Program} {l : Launch} {e : Env} {s : State} {m : MethodId} {args : Array Value} {below : List Frame} {meth : Method} {c : Code} {N : Nat} {fin : Int32} {x0 : Nat} {x1 : Option Nat} {x2 : Int32} {x3 : Int32}  {z : Hp} (C : Cx n0 D Y RX11 cX11_dueBy (some .int) 4 wsX11_dueBy "dueBy" p s m args meth c) {x : (Int32)} (h : fX11_dueBy N x0 x1 x2 x3  z = some x) (hF : (fun x => x = fin) x) {H : Heap} {locs : List Loc} {ls : Array Slot} (hw : Wd n0 D Y z s H locs) (hl : lv_has ls 4 [(0, .ref (n0 + x0)), (1, rv n0 x1), (2, .int x2), (3, .int x3)]) : W p l e rmX11_dueBy s m args below meth c H locs 0 0 (MQ below (PosI n0 D Y z fin) args s 0 0 (AA n0)) (F0 m 0 ls []) := by
  unfold fX11_dueBy at h
  refine r_aload_n (r := x1) C dX11_dueBy_0 rfl (lv_at hl 1 rfl) ?_
  refine r_ifnonnull (tgt := 8) C dX11_dueBy_1 (by decide) (fun c2 => ?_) (fun b1 c2 => ?_)
  · subst c2
    replace h := csN h
    refine lv_iconst (v := (0 : Int32)) C.1 C.2.1 dX11_dueBy_4 (by decide) ?_
    refine lv_goto (tgt := 23) C.1 C.2.1 dX11_dueBy_5 (by decide) ?_
    cases h
    replace hF : _ = fin := hF
    subst hF
    exact r_iret C hw dX11_dueBy_23
  · subst c2
    replace h := csS h
    refine lv_aload_n C.1 C.2.1 dX11_dueBy_8 rfl (lv_at hl 1 rfl) ?_
    refine lv_iload_n C.1 C.2.1 dX11_dueBy_9 rfl (lv_at hl 2 rfl) ?_
    refine lv_aload_n C.1 C.2.1 dX11_dueBy_10 rfl (lv_at hl 0 rfl) ?_
    obtain ⟨g3, h⟩ := gdE h
    refine r_get (v := rv n0 (zG z 641 x0)) C hw g3 (by decide) (Cn := RX11) (T := TX11) (N := 12) rfl in_X11_dueBy_X11 1 (by decide) (by decide +kernel) (fun _ h => h) rfl dX11_dueBy_11 ?_
    obtain ⟨b5, e4, h⟩ := boE h
    refine r_topr e4 ?_
    refine lv_iload_n C.1 C.2.1 dX11_dueBy_14 rfl (lv_at hl 3 rfl) ?_
    refine lv_iconst (v := (1 : Int32)) C.1 C.2.1 dX11_dueBy_15 (by decide) ?_
    refine lv_isub C.1 C.2.1 dX11_dueBy_16 ?_
    obtain ⟨g8, h⟩ := gdE h
    obtain ⟨r7, e6, h⟩ := boE h
    refine r_afti hw (r_runV (As := [.int (x3 - (1 : Int32))]) (rest := [.int x2, .ref (n0 + b1)]) C hw (ki := 6) g8 (by decide) rfl (kX7_priceOf l n0 D Y N b5 (x3 - (1 : Int32)) z e6) (cwV 1 C.2.2.2.2.2.1 gX11_dueBy_X7_priceOf rfl rfl rfl (by decide +kernel) ⟨(Nat.le_of_ble_eq_true rfl), (Nat.le_of_ble_eq_true rfl)⟩) rfl hl.1 rfl (Nat.le_of_ble_eq_true rfl) dX11_dueBy_17 ⟨(Nat.le_of_ble_eq_true rfl), (Nat.le_of_ble_eq_true rfl)⟩) (fun H locs hw => ?_)
    obtain ⟨g11, h⟩ := gdE h
    obtain ⟨r10, e9, h⟩ := boE h
    refine r_afti hw (r_runV (As := [.int x2, .int r7]) (rest := []) C hw (ki := 8) g11 (by decide) rfl (kX9_loaf l n0 D Y N b1 x2 r7 z e9) (cwV 2 C.2.2.2.2.2.1 gX11_dueBy_X9_loaf rfl rfl rfl (by decide +kernel) ⟨(Nat.le_of_ble_eq_true rfl), (Nat.le_of_ble_eq_true rfl)⟩) rfl hl.1 rfl (Nat.le_of_ble_eq_true rfl) dX11_dueBy_20 ⟨(Nat.le_of_ble_eq_true rfl), (Nat.le_of_ble_eq_true rfl)⟩) (fun H locs hw => ?_)
    cases h
    replace hF : _ = fin := hF
    subst hF
    exact r_iret C hw dX11_dueBy_23
set_option maxRecDepth 100000 in
theorem kX11_dueBy (l : Launch) (n0 : Nat) (D : va_G) (Y : Nat → ClassId) (N : Nat) (x0 : Nat) (x1 : Option Nat) (x2 : Int32) (x3 : Int32) (z : Hp) {r : Int32} (h : fX11_dueBy N x0 x1 x2 x3 z = some r) : Met l yX11_dueBy wsX11_dueBy rmX11_dueBy (PreC n0 D Y z [.ref (n0 + x0), rv n0 x1, .int x2, .int x3]) (PosI n0 D Y z r) 0 0 (AA n0) := by
  obtain _ | a1 := x1
  · refine Met.ofW (cc := cX11_dueBy) (maxL := 4) (ret := (some .int)) (by decide) rfl ?_
    intro p e s m args below meth c s₁ B hml hv
    obtain ⟨rfl, hR, hK⟩ := hv
    have C : Cx n0 D Y RX11 cX11_dueBy (some .int) 4 wsX11_dueBy "dueBy" p s m ([.ref (n0 + x0), rv n0 (none : Option Nat), .int x2, .int x3] : List Value).toArray meth c := ⟨B.exec, B.bytes, B.returns, hml, findClass_of_methodNamed B.named, atoms_spec (ws := wsX11_dueBy) B.pre, B.notSynchronized, (name_of_methodNamed B.named B.method).1, hK⟩
    have hl := lv_entry ([.ref (n0 + x0), rv n0 (none : Option Nat), .int x2, .int x3]) (n := 4) (Nat.le_of_ble_eq_true rfl)
    rw [lg_entry_eq]
    generalize (lg_sl ([.ref (n0 + x0), rv n0 (none : Option Nat), .int x2, .int x3]) ++ List.replicate (4 - (lg_sl ([.ref (n0 + x0), rv n0 (none : Option Nat), .int x2, .int x3])).length) Slot.unset).toArray = ls at hl ⊢
    have hl : lv_has ls 4 [(0, .ref (n0 + x0)), (1, rv n0 (none : Option Nat)), (2, .int x2), (3, .int x3)] := hl
    exact tX11_dueBy_0 C h rfl ⟨hR, va_S.rf⟩ hl
  · refine Met.ofW (cc := cX11_dueBy) (maxL := 4) (ret := (some .int)) (by decide) rfl ?_
    intro p e s m args below meth c s₁ B hml hv
    obtain ⟨rfl, hR, hK⟩ := hv
    have C : Cx n0 D Y RX11 cX11_dueBy (some .int) 4 wsX11_dueBy "dueBy" p s m ([.ref (n0 + x0), rv n0 (some a1), .int x2, .int x3] : List Value).toArray meth c := ⟨B.exec, B.bytes, B.returns, hml, findClass_of_methodNamed B.named, atoms_spec (ws := wsX11_dueBy) B.pre, B.notSynchronized, (name_of_methodNamed B.named B.method).1, hK⟩
    have hl := lv_entry ([.ref (n0 + x0), rv n0 (some a1), .int x2, .int x3]) (n := 4) (Nat.le_of_ble_eq_true rfl)
    rw [lg_entry_eq]
    generalize (lg_sl ([.ref (n0 + x0), rv n0 (some a1), .int x2, .int x3]) ++ List.replicate (4 - (lg_sl ([.ref (n0 + x0), rv n0 (some a1), .int x2, .int x3])).length) Slot.unset).toArray = ls at hl ⊢
    have hl : lv_has ls 4 [(0, .ref (n0 + x0)), (1, rv n0 (some a1)), (2, .int x2), (3, .int x3)] := hl
    exact tX11_dueBy_0 C h rfl ⟨hR, va_S.rf⟩ hl
theorem in_X11_due_X11 : ∀ w ∈ wsX110, w ∈ wsX11_due := by decide +kernel
abbrev rmX11_due : Room := { frames := 3, cells := 0, slots := 0, locals := 69 }
noncomputable def fX11_due (N : Nat) (x0 : Nat) (x1 : Int32) (x2 : Int32) (z : Hp) : Option (Int32) := gd (x0 < zn z ∧ zK z x0 = 10) <| bo (fX11_weekNow N x0 z) fun r2 => bo (fX11_isOutside N x2 (0 : Int32) r2 z) fun r5 => br (r5 = 0) (bo (fX11_isOutside N x1 (0 : Int32) (2 : Int32) z) fun r8 => br (r8 = 0) (bo (zG z 642 x0) fun b11 => gd (b11 < zn z ∧ zK z b11 = 4) <| bo (fX5_ruling N b11 x2 z) fun q13 => bo (fX11_dueBy N x0 q13 x1 x2 z) fun r16 => some r16) (some (-2 : Int32))) (some (-1 : Int32))
set_option maxHeartbeats 4000000 in
set_option maxRecDepth 100000 in
theorem tX11_due_0 {n0 : Nat} {D : va_G} {Y : Nat → ClassId} {p : Program} {l : Launch} {e : Env} {s : State} {m : MethodId} {args : Array Value} {below : List Frame} {meth : Method} {c : Code} {N : Nat} {fin : Int32} {x0 : Nat} {x1 : Int32} {x2 : Int32}  {z : Hp} (C : Cx n0 D Y RX11 cX11_due (some .int) 3 wsX11_due "due" p s m args meth c) {x : (Int32)} (h : fX11_due N x0 x1 x2  z = some x) (hF : (fun x => x = fin) x) {H : Heap} {locs : List Loc} {ls : Array Slot} (hw : Wd n0 D Y z s H locs) (hl : lv_has ls 3 [(0, .ref (n0 + x0)), (1, .int x1), (2, .int x2)]) : W p l e rmX11_due s m args below meth c H locs 0 0 (MQ below (PosI n0 D Y z fin) args s 0 0 (AA n0)) (F0 m 0 ls []) := by
  unfold fX11_due at h
  refine lv_iload_n C.1 C.2.1 dX11_due_0 rfl (lv_at hl 2 rfl) ?_
  refine lv_iconst (v := (0 : Int32)) C.1 C.2.1 dX11_due_1 (by decide) ?_
  refine lv_aload_n C.1 C.2.1 dX11_due_2 rfl (lv_at hl 0 rfl) ?_
  obtain ⟨g3, h⟩ := gdE h
  obtain ⟨r2, e1, h⟩ := boE h
  refine r_afti hw (r_runV (As := []) (rest := [.int (0 : Int32), .int x2]) C hw (ki := 10) g3 (by decide) rfl (kX11_weekNow l n0 D Y N x0  z e1) (cwV 0 C.2.2.2.2.2.1 gX11_due_X11_weekNow rfl rfl rfl (by decide +kernel) ⟨(Nat.le_of_ble_eq_true rfl), (Nat.le_of_ble_eq_true rfl)⟩) rfl hl.1 rfl (Nat.le_of_ble_eq_true rfl) dX11_due_3 ⟨(Nat.le_of_ble_eq_true rfl), (Nat.le_of_ble_eq_true rfl)⟩) (fun H locs hw => ?_)
  obtain ⟨r5, e4, h⟩ := boE h
  refine r_afti hw (r_runS (As := [.int x2, .int (0 : Int32), .int r2]) (rest := []) C hw (kX11_isOutside l n0 D Y N x2 (0 : Int32) r2 z e4) (va_cwS 3 C.2.2.2.2.2.1 gX11_due_X11_isOutside rfl rfl rfl (by decide +kernel) ⟨(Nat.le_of_ble_eq_true rfl), (Nat.le_of_ble_eq_true rfl)⟩) rfl hl.1 rfl (Nat.le_of_ble_eq_true rfl) dX11_due_6 ⟨(Nat.le_of_ble_eq_true rfl), (Nat.le_of_ble_eq_true rfl)⟩) (fun H locs hw => ?_)
  refine lv_if_eq (tgt := 14) C.1 C.2.1 dX11_due_9 (by decide) (fun c6 => ?_) (fun c6 => ?_)
  · replace h := brT h c6
    refine lv_iload_n C.1 C.2.1 dX11_due_14 rfl (lv_at hl 1 rfl) ?_
    refine lv_iconst (v := (0 : Int32)) C.1 C.2.1 dX11_due_15 (by decide) ?_
    refine lv_iconst (v := (2 : Int32)) C.1 C.2.1 dX11_due_16 (by decide) ?_
    obtain ⟨r8, e7, h⟩ := boE h
    refine r_afti hw (r_runS (As := [.int x1, .int (0 : Int32), .int (2 : Int32)]) (rest := []) C hw (kX11_isOutside l n0 D Y N x1 (0 : Int32) (2 : Int32) z e7) (va_cwS 3 C.2.2.2.2.2.1 gX11_due_X11_isOutside rfl rfl rfl (by decide +kernel) ⟨(Nat.le_of_ble_eq_true rfl), (Nat.le_of_ble_eq_true rfl)⟩) rfl hl.1 rfl (Nat.le_of_ble_eq_true rfl) dX11_due_17 ⟨(Nat.le_of_ble_eq_true rfl), (Nat.le_of_ble_eq_true rfl)⟩) (fun H locs hw => ?_)
    refine lv_if_eq (tgt := 26) C.1 C.2.1 dX11_due_20 (by decide) (fun c9 => ?_) (fun c9 => ?_)
    · replace h := brT h c9
      refine lv_aload_n C.1 C.2.1 dX11_due_26 rfl (lv_at hl 0 rfl) ?_
      refine lv_aload_n C.1 C.2.1 dX11_due_27 rfl (lv_at hl 0 rfl) ?_
      refine r_get (v := rv n0 (zG z 642 x0)) C hw g3 (by decide) (Cn := RX11) (T := TX11) (N := 12) rfl in_X11_due_X11 2 (by decide) (by decide +kernel) (fun _ h => h) rfl dX11_due_28 ?_
      obtain ⟨b11, e10, h⟩ := boE h
      refine r_topr e10 ?_
      refine lv_iload_n C.1 C.2.1 dX11_due_31 rfl (lv_at hl 2 rfl) ?_
      obtain ⟨g14, h⟩ := gdE h
      obtain ⟨q13, e12, h⟩ := boE h
      refine r_aftq hw (r_runV (As := [.int x2]) (rest := [.ref (n0 + x0)]) C hw (ki := 4) g14 (by decide) rfl (kX5_ruling l n0 D Y N b11 x2 z e12) (cwV 1 C.2.2.2.2.2.1 gX11_due_X5_ruling rfl rfl rfl (by decide +kernel) ⟨(Nat.le_of_ble_eq_true rfl), (Nat.le_of_ble_eq_true rfl)⟩) rfl hl.1 rfl (Nat.le_of_ble_eq_true rfl) dX11_due_32 ⟨(Nat.le_of_ble_eq_true rfl), (Nat.le_of_ble_eq_true rfl)⟩) (fun H locs hw => ?_)
      refine lv_iload_n C.1 C.2.1 dX11_due_35 rfl (lv_at hl 1 rfl) ?_
      refine lv_iload_n C.1 C.2.1 dX11_due_36 rfl (lv_at hl 2 rfl) ?_
      obtain ⟨r16, e15, h⟩ := boE h
      refine r_afti hw (r_runV (As := [rv n0 q13, .int x1, .int x2]) (rest := []) C hw (ki := 10) g3 (by decide) rfl (kX11_dueBy l n0 D Y N x0 q13 x1 x2 z e15) (cwV 3 C.2.2.2.2.2.1 gX11_due_X11_dueBy rfl rfl rfl (by decide +kernel) ⟨(Nat.le_of_ble_eq_true rfl), (Nat.le_of_ble_eq_true rfl)⟩) rfl hl.1 rfl (Nat.le_of_ble_eq_true rfl) dX11_due_37 ⟨(Nat.le_of_ble_eq_true rfl), (Nat.le_of_ble_eq_true rfl)⟩) (fun H locs hw => ?_)
      cases h
      replace hF : _ = fin := hF
      subst hF
      exact r_iret C hw dX11_due_40
    · replace h := brF h c9
      refine lv_bipush (v := (-2 : Int32)) C.1 C.2.1 dX11_due_23 (by decide) ?_
      cases h
      replace hF : _ = fin := hF
      subst hF
      exact r_iret C hw dX11_due_25
  · replace h := brF h c6
    refine lv_iconst (v := (-1 : Int32)) C.1 C.2.1 dX11_due_12 (by decide) ?_
    cases h
    replace hF : _ = fin := hF
    subst hF
    exact r_iret C hw dX11_due_13
set_option maxRecDepth 100000 in
theorem kX11_due (l : Launch) (n0 : Nat) (D : va_G) (Y : Nat → ClassId) (N : Nat) (x0 : Nat) (x1 : Int32) (x2 : Int32) (z : Hp) {r : Int32} (h : fX11_due N x0 x1 x2 z = some r) : Met l yX11_due wsX11_due rmX11_due (PreC n0 D Y z [.ref (n0 + x0), .int x1, .int x2]) (PosI n0 D Y z r) 0 0 (AA n0) := by
  refine Met.ofW (cc := cX11_due) (maxL := 3) (ret := (some .int)) (by decide) rfl ?_
  intro p e s m args below meth c s₁ B hml hv
  obtain ⟨rfl, hR, hK⟩ := hv
  have C : Cx n0 D Y RX11 cX11_due (some .int) 3 wsX11_due "due" p s m ([.ref (n0 + x0), .int x1, .int x2] : List Value).toArray meth c := ⟨B.exec, B.bytes, B.returns, hml, findClass_of_methodNamed B.named, atoms_spec (ws := wsX11_due) B.pre, B.notSynchronized, (name_of_methodNamed B.named B.method).1, hK⟩
  have hl := lv_entry ([.ref (n0 + x0), .int x1, .int x2]) (n := 3) (Nat.le_of_ble_eq_true rfl)
  rw [lg_entry_eq]
  generalize (lg_sl ([.ref (n0 + x0), .int x1, .int x2]) ++ List.replicate (3 - (lg_sl ([.ref (n0 + x0), .int x1, .int x2])).length) Slot.unset).toArray = ls at hl ⊢
  have hl : lv_has ls 3 [(0, .ref (n0 + x0)), (1, .int x1), (2, .int x2)] := hl
  exact tX11_due_0 C h rfl ⟨hR, va_S.rf⟩ hl
theorem in_X11_bake_X0 : ∀ w ∈ wsX00, w ∈ wsX11_bake := by decide +kernel
theorem in_X11_bake_X1 : ∀ w ∈ wsX10, w ∈ wsX11_bake := by decide +kernel
theorem in_X11_bake_X11 : ∀ w ∈ wsX110, w ∈ wsX11_bake := by decide +kernel
theorem in_X11_bake_X2 : ∀ w ∈ wsX20, w ∈ wsX11_bake := by decide +kernel
abbrev rmX11_bake : Room := { frames := 3, cells := 1, slots := 9, locals := 74 }
noncomputable def fX11_bake_46 (N : Nat) (x0 : Nat) (z : Hp) : Option (Int32 × Hp) := some ((-2 : Int32), z)
set_option maxHeartbeats 4000000 in
set_option maxRecDepth 100000 in
theorem tX11_bake_46 {n0 : Nat} {D : va_G} {Y : Nat → ClassId} {p : Program} {l : Launch} {e : Env} {s : State} {m : MethodId} {args : Array Value} {below : List Frame} {meth : Method} {c : Code} {N : Nat} {fin : Int32 × Hp} {x0 : Nat}  {z : Hp} (C : Cx n0 D Y RX11 cX11_bake (some .int) 7 wsX11_bake "bake" p s m args meth c) {x : (Int32 × Hp)} (h : fX11_bake_46 N x0  z = some x) (hF : (fun x => x = fin) x) {H : Heap} {locs : List Loc} {ls : Array Slot} (hw : Wd n0 D Y z s H locs) (hl : lv_has ls 7 [(0, .ref (n0 + x0))]) : W p l e rmX11_bake s m args below meth c H locs 0 0 (MQ below (PosI n0 D Y fin.2 fin.1) args s 1 9 (AA n0)) (F0 m 46 ls []) := by
  unfold fX11_bake_46 at h
  refine lv_bipush (v := (-2 : Int32)) C.1 C.2.1 dX11_bake_46 (by decide) ?_
  cases h
  replace hF : _ = fin := hF
  subst hF
  refine W.widen (k := 1) (n := 9) (by decide) (by decide) ?_
  exact r_iret C hw dX11_bake_48
noncomputable def fX11_bake (N : Nat) (x0 : Nat) (x1 : Int32) (x2 : Int32) (x3 : Int32) (x4 : Int32) (z : Hp) : Option (Int32 × Hp) := gd (x0 < zn z ∧ zK z x0 = 10) <| bo (fX11_bakerAt N x0 x1 z) fun q2 => cs q2 (some ((-1 : Int32), z)) (fun b4 => bo (fX11_isOutside N x2 (0 : Int32) (2 : Int32) z) fun r7 => br (r7 = 0) (bo (fX11_isOutside N x3 (1 : Int32) (500 : Int32) z) fun r10 => br (r10 = 0) (bo (fX11_isOutside N x4 (1 : Int32) (2000 : Int32) z) fun r13 => br (r13 = 0) (bo (fX11_weekNow N x0 z) fun r16 => gd (b4 < zn z ∧ zK z b4 = 0) <| br ((zF z 6 b4) ≤ r16) (bo (zG z 640 x0) fun b20 => gd (b20 < zn z ∧ zK z b20 = 2) <| bo (fX2_isFull N b20 z) fun r22 => br (r22 = 0) (br ((x3 * x4) ≤ (zF z 0 b4)) (bd (zal z 1 0) fun z26 => bo (zG z26 640 x0) fun b31 => gd (b31 < zn z26 ∧ zK z26 b31 = 2) <| bo (fX1_init N (zn z) (zF z26 132 b31) (zF z26 647 x0) x1 x2 x3 x4 z26) fun z34 => gd (x0 < zn z34 ∧ zK z34 x0 = 10) <| bo (zG z34 640 x0) fun b37 => gd (b37 < zn z34 ∧ zK z34 b37 = 2) <| bo (fX2_enter N b37 (zn z) z34) fun z39 => gd (x0 < zn z39 ∧ zK z39 x0 = 10) <| bo (zG z39 640 x0) fun b43 => gd (b43 < zn z39 ∧ zK z39 b43 = 2) <| bo (fX2_takeFlour N b43 (zn z) z39) fun z45 => gd (b4 < zn z45 ∧ zK z45 b4 = 0) <| bd (zsF z45 0 b4 ((zF z45 0 b4) - (x3 * x4))) fun z48 => bd (zsF z48 2 b4 ((zF z48 2 b4) + (1 : Int32))) fun z51 => bd (zsG z51 7 b4 (some (zn z))) fun z53 => gd ((zn z) < zn z53 ∧ zK z53 (zn z) = 1) <| some ((zF z53 769 (zn z)), z53)) (some ((-5 : Int32), z))) (some ((-4 : Int32), z))) (some ((-3 : Int32), z))) (fX11_bake_46 N x0 z)) (fX11_bake_46 N x0 z)) (fX11_bake_46 N x0 z))
set_option maxHeartbeats 4000000 in
set_option maxRecDepth 100000 in
theorem tX11_bake_0 {n0 : Nat} {D : va_G} {Y : Nat → ClassId} {p : Program} {l : Launch} {e : Env} {s : State} {m : MethodId} {args : Array Value} {below : List Frame} {meth : Method} {c : Code} {N : Nat} {fin : Int32 × Hp} {x0 : Nat} {x1 : Int32} {x2 : Int32} {x3 : Int32} {x4 : Int32}  {z : Hp} (C : Cx n0 D Y RX11 cX11_bake (some .int) 7 wsX11_bake "bake" p s m args meth c) {x : (Int32 × Hp)} (h : fX11_bake N x0 x1 x2 x3 x4  z = some x) (hF : (fun x => x = fin) x) {H : Heap} {locs : List Loc} {ls : Array Slot} (hw : Wd n0 D Y z s H locs) (hl : lv_has ls 7 [(0, .ref (n0 + x0)), (1, .int x1), (2, .int x2), (3, .int x3), (4, .int x4)]) : W p l e rmX11_bake s m args below meth c H locs 0 0 (MQ below (PosI n0 D Y fin.2 fin.1) args s 1 9 (AA n0)) (F0 m 0 ls []) := by
  unfold fX11_bake at h
  refine lv_aload_n C.1 C.2.1 dX11_bake_0 rfl (lv_at hl 0 rfl) ?_
  refine lv_iload_n C.1 C.2.1 dX11_bake_1 rfl (lv_at hl 1 rfl) ?_
  obtain ⟨g3, h⟩ := gdE h
  obtain ⟨q2, e1, h⟩ := boE h
  refine r_aftq hw (r_runV (As := [.int x1]) (rest := []) C hw (ki := 10) g3 (by decide) rfl (kX11_bakerAt l n0 D Y N x0 x1 z e1) (cwV 1 C.2.2.2.2.2.1 gX11_bake_X11_bakerAt rfl rfl rfl (by decide +kernel) ⟨(Nat.le_of_ble_eq_true rfl), (Nat.le_of_ble_eq_true rfl)⟩) rfl hl.1 rfl (Nat.le_of_ble_eq_true rfl) dX11_bake_2 ⟨(Nat.le_of_ble_eq_true rfl), (Nat.le_of_ble_eq_true rfl)⟩) (fun H locs hw => ?_)
  refine r_astore (i := 5) (r := q2) (lv' := [(5, rv n0 q2), (0, .ref (n0 + x0)), (1, .int x1), (2, .int x2), (3, .int x3), (4, .int x4)]) C dX11_bake_5 hl (by decide) rfl (fun ls hl => ?_)
  refine r_aload (r := q2) C dX11_bake_7 (lv_at hl 0 rfl) ?_
  refine r_ifnonnull (tgt := 14) C dX11_bake_9 (by decide) (fun c5 => ?_) (fun b4 c5 => ?_)
  · subst c5
    replace h := csN h
    refine lv_iconst (v := (-1 : Int32)) C.1 C.2.1 dX11_bake_12 (by decide) ?_
    cases h
    replace hF : _ = fin := hF
    subst hF
    refine W.widen (k := 1) (n := 9) (by decide) (by decide) ?_
    exact r_iret C hw dX11_bake_13
  · subst c5
    replace h := csS h
    refine lv_iload_n C.1 C.2.1 dX11_bake_14 rfl (lv_at hl 3 rfl) ?_
    refine lv_iconst (v := (0 : Int32)) C.1 C.2.1 dX11_bake_15 (by decide) ?_
    refine lv_iconst (v := (2 : Int32)) C.1 C.2.1 dX11_bake_16 (by decide) ?_
    obtain ⟨r7, e6, h⟩ := boE h
    refine r_afti hw (r_runS (As := [.int x2, .int (0 : Int32), .int (2 : Int32)]) (rest := []) C hw (kX11_isOutside l n0 D Y N x2 (0 : Int32) (2 : Int32) z e6) (va_cwS 3 C.2.2.2.2.2.1 gX11_bake_X11_isOutside rfl rfl rfl (by decide +kernel) ⟨(Nat.le_of_ble_eq_true rfl), (Nat.le_of_ble_eq_true rfl)⟩) rfl hl.1 rfl (Nat.le_of_ble_eq_true rfl) dX11_bake_17 ⟨(Nat.le_of_ble_eq_true rfl), (Nat.le_of_ble_eq_true rfl)⟩) (fun H locs hw => ?_)
    refine lv_if_ne (tgt := 46) C.1 C.2.1 dX11_bake_20 (by decide) (fun c8 => ?_) (fun c8 => ?_)
    · replace h := brF h c8
      exact tX11_bake_46 C h hF hw (lv_sub hl [1] rfl)
    · replace h := brT h c8
      refine lv_iload_n C.1 C.2.1 dX11_bake_23 rfl (lv_at hl 4 rfl) ?_
      refine lv_iconst (v := (1 : Int32)) C.1 C.2.1 dX11_bake_24 (by decide) ?_
      refine lv_sipush (v := (500 : Int32)) C.1 C.2.1 dX11_bake_25 (by decide) ?_
      obtain ⟨r10, e9, h⟩ := boE h
      refine r_afti hw (r_runS (As := [.int x3, .int (1 : Int32), .int (500 : Int32)]) (rest := []) C hw (kX11_isOutside l n0 D Y N x3 (1 : Int32) (500 : Int32) z e9) (va_cwS 3 C.2.2.2.2.2.1 gX11_bake_X11_isOutside rfl rfl rfl (by decide +kernel) ⟨(Nat.le_of_ble_eq_true rfl), (Nat.le_of_ble_eq_true rfl)⟩) rfl hl.1 rfl (Nat.le_of_ble_eq_true rfl) dX11_bake_28 ⟨(Nat.le_of_ble_eq_true rfl), (Nat.le_of_ble_eq_true rfl)⟩) (fun H locs hw => ?_)
      refine lv_if_ne (tgt := 46) C.1 C.2.1 dX11_bake_31 (by decide) (fun c11 => ?_) (fun c11 => ?_)
      · replace h := brF h c11
        exact tX11_bake_46 C h hF hw (lv_sub hl [1] rfl)
      · replace h := brT h c11
        refine lv_iload C.1 C.2.1 dX11_bake_34 (lv_at hl 5 rfl) ?_
        refine lv_iconst (v := (1 : Int32)) C.1 C.2.1 dX11_bake_36 (by decide) ?_
        refine lv_sipush (v := (2000 : Int32)) C.1 C.2.1 dX11_bake_37 (by decide) ?_
        obtain ⟨r13, e12, h⟩ := boE h
        refine r_afti hw (r_runS (As := [.int x4, .int (1 : Int32), .int (2000 : Int32)]) (rest := []) C hw (kX11_isOutside l n0 D Y N x4 (1 : Int32) (2000 : Int32) z e12) (va_cwS 3 C.2.2.2.2.2.1 gX11_bake_X11_isOutside rfl rfl rfl (by decide +kernel) ⟨(Nat.le_of_ble_eq_true rfl), (Nat.le_of_ble_eq_true rfl)⟩) rfl hl.1 rfl (Nat.le_of_ble_eq_true rfl) dX11_bake_40 ⟨(Nat.le_of_ble_eq_true rfl), (Nat.le_of_ble_eq_true rfl)⟩) (fun H locs hw => ?_)
        refine lv_if_eq (tgt := 49) C.1 C.2.1 dX11_bake_43 (by decide) (fun c14 => ?_) (fun c14 => ?_)
        · replace h := brT h c14
          refine lv_aload_n C.1 C.2.1 dX11_bake_49 rfl (lv_at hl 1 rfl) ?_
          obtain ⟨r16, e15, h⟩ := boE h
          refine r_afti hw (r_runV (As := []) (rest := []) C hw (ki := 10) g3 (by decide) rfl (kX11_weekNow l n0 D Y N x0  z e15) (cwV 0 C.2.2.2.2.2.1 gX11_bake_X11_weekNow rfl rfl rfl (by decide +kernel) ⟨(Nat.le_of_ble_eq_true rfl), (Nat.le_of_ble_eq_true rfl)⟩) rfl hl.1 rfl (Nat.le_of_ble_eq_true rfl) dX11_bake_50 ⟨(Nat.le_of_ble_eq_true rfl), (Nat.le_of_ble_eq_true rfl)⟩) (fun H locs hw => ?_)
          refine lv_aload C.1 C.2.1 dX11_bake_53 (lv_at hl 0 rfl) ?_
          obtain ⟨g17, h⟩ := gdE h
          refine r_get (v := .int (zF z 6 b4)) C hw g17 (by decide) (Cn := RX0) (T := TX0) (N := 8) rfl in_X11_bake_X0 6 (by decide) (by decide +kernel) (fun _ h => h) rfl dX11_bake_55 ?_
          refine lv_icmp_ge (tgt := 64) C.1 C.2.1 dX11_bake_58 (by decide) (fun c18 => ?_) (fun c18 => ?_)
          · replace h := brT h c18
            refine lv_aload_n C.1 C.2.1 dX11_bake_64 rfl (lv_at hl 1 rfl) ?_
            refine r_get (v := rv n0 (zG z 640 x0)) C hw g3 (by decide) (Cn := RX11) (T := TX11) (N := 12) rfl in_X11_bake_X11 0 (by decide) (by decide +kernel) (fun _ h => h) rfl dX11_bake_65 ?_
            obtain ⟨b20, e19, h⟩ := boE h
            refine r_topr e19 ?_
            obtain ⟨g23, h⟩ := gdE h
            obtain ⟨r22, e21, h⟩ := boE h
            refine r_afti hw (r_runV (As := []) (rest := []) C hw (ki := 2) g23 (by decide) rfl (kX2_isFull l n0 D Y N b20  z e21) (cwV 0 C.2.2.2.2.2.1 gX11_bake_X2_isFull rfl rfl rfl (by decide +kernel) ⟨(Nat.le_of_ble_eq_true rfl), (Nat.le_of_ble_eq_true rfl)⟩) rfl hl.1 rfl (Nat.le_of_ble_eq_true rfl) dX11_bake_68 ⟨(Nat.le_of_ble_eq_true rfl), (Nat.le_of_ble_eq_true rfl)⟩) (fun H locs hw => ?_)
            refine lv_if_eq (tgt := 77) C.1 C.2.1 dX11_bake_71 (by decide) (fun c24 => ?_) (fun c24 => ?_)
            · replace h := brT h c24
              refine lv_aload C.1 C.2.1 dX11_bake_77 (lv_at hl 0 rfl) ?_
              refine r_get (v := .int (zF z 0 b4)) C hw g17 (by decide) (Cn := RX0) (T := TX0) (N := 8) rfl in_X11_bake_X0 0 (by decide) (by decide +kernel) (fun _ h => h) rfl dX11_bake_79 ?_
              refine lv_iload_n C.1 C.2.1 dX11_bake_82 rfl (lv_at hl 4 rfl) ?_
              refine lv_iload C.1 C.2.1 dX11_bake_83 (lv_at hl 5 rfl) ?_
              refine lv_imul C.1 C.2.1 dX11_bake_85 ?_
              refine lv_icmp_ge (tgt := 92) C.1 C.2.1 dX11_bake_86 (by decide) (fun c25 => ?_) (fun c25 => ?_)
              · replace h := brT h c25
                obtain ⟨z26, e27, h⟩ := bdE h
                refine r_new C hw 1 (by decide) (Cn := RX1) (T := TX1) (N := 9) rfl in_X11_bake_X1 tyX1 tyX1_ok (by decide +kernel) (by decide +kernel) (by decide +kernel) (nw_1 n0 z) (by decide) (by decide) dX11_bake_92 (fun H hw => ?_)
                rw [← e27] at hw
                have g28 : (zn z) < zn z26 ∧ zK z26 (zn z) = 1 := by rw [e27]; exact ok_new _ _ _
                refine lv_dup C.1 C.2.1 dX11_bake_95 rfl ?_
                refine lv_aload_n C.1 C.2.1 dX11_bake_96 rfl (lv_at hl 1 rfl) ?_
                have g29 : x0 < zn z26 ∧ zK z26 x0 = 10 := by rw [e27]; exact ok_al _ _ g3
                refine r_get (v := rv n0 (zG z26 640 x0)) C hw g29 (by decide) (Cn := RX11) (T := TX11) (N := 12) rfl in_X11_bake_X11 0 (by decide) (by decide +kernel) (fun _ h => h) rfl dX11_bake_97 ?_
                obtain ⟨b31, e30, h⟩ := boE h
                refine r_topr e30 ?_
                obtain ⟨g32, h⟩ := gdE h
                refine r_get (v := .int (zF z26 132 b31)) C hw g32 (by decide) (Cn := RX2) (T := TX2) (N := 7) rfl in_X11_bake_X2 4 (by decide) (by decide +kernel) (fun _ h => h) rfl dX11_bake_100 ?_
                refine lv_aload_n C.1 C.2.1 dX11_bake_103 rfl (lv_at hl 1 rfl) ?_
                refine r_get (v := .int (zF z26 647 x0)) C hw g29 (by decide) (Cn := RX11) (T := TX11) (N := 12) rfl in_X11_bake_X11 7 (by decide) (by decide +kernel) (fun _ h => h) rfl dX11_bake_104 ?_
                refine lv_iload_n C.1 C.2.1 dX11_bake_107 rfl (lv_at hl 2 rfl) ?_
                refine lv_iload_n C.1 C.2.1 dX11_bake_108 rfl (lv_at hl 3 rfl) ?_
                refine lv_iload_n C.1 C.2.1 dX11_bake_109 rfl (lv_at hl 4 rfl) ?_
                refine lv_iload C.1 C.2.1 dX11_bake_110 (lv_at hl 5 rfl) ?_
                obtain ⟨z34, e33, h⟩ := boE h
                refine r_aftv hw (r_runI (As := [.int (zF z26 132 b31), .int (zF z26 647 x0), .int x1, .int x2, .int x3, .int x4]) (rest := [.ref (n0 + (zn z))]) C hw (kX1_init l n0 D Y N (zn z) (zF z26 132 b31) (zF z26 647 x0) x1 x2 x3 x4 z26 e33) (cwI 6 C.2.2.2.2.2.1 gX11_bake_X1_init rfl rfl rfl (C.2.2.2.2.2.1 (.initialized RX1) (by decide +kernel)) (C.2.2.2.2.2.1 (.methodLink RX11 172 yX1_init) (by decide +kernel)) (C.2.2.2.2.2.1 (.instanceMethod yX1_init) (by decide +kernel)) rfl (by decide +kernel) ⟨(Nat.le_of_ble_eq_true rfl), (Nat.le_of_ble_eq_true rfl)⟩) rfl hl.1 rfl (Nat.le_of_ble_eq_true rfl) dX11_bake_112 ⟨(Nat.le_of_ble_eq_true rfl), (Nat.le_of_ble_eq_true rfl)⟩) (fun H locs hw => ?_)
                refine lv_astore (i := 6) (lv' := [(6, .ref (n0 + (zn z))), (5, .ref (n0 + b4)), (0, .ref (n0 + x0)), (1, .int x1), (2, .int x2), (3, .int x3), (4, .int x4)]) C.1 C.2.1 dX11_bake_115 hl (by decide) rfl (fun ls hl => ?_)
                refine lv_aload_n C.1 C.2.1 dX11_bake_117 rfl (lv_at hl 2 rfl) ?_
                obtain ⟨g35, h⟩ := gdE h
                refine r_get (v := rv n0 (zG z34 640 x0)) C hw g35 (by decide) (Cn := RX11) (T := TX11) (N := 12) rfl in_X11_bake_X11 0 (by decide) (by decide +kernel) (fun _ h => h) rfl dX11_bake_118 ?_
                obtain ⟨b37, e36, h⟩ := boE h
                refine r_topr e36 ?_
                refine lv_aload C.1 C.2.1 dX11_bake_121 (lv_at hl 0 rfl) ?_
                obtain ⟨g40, h⟩ := gdE h
                obtain ⟨z39, e38, h⟩ := boE h
                refine r_aftv hw (r_runV (As := [.ref (n0 + (zn z))]) (rest := []) C hw (ki := 2) g40 (by decide) rfl (kX2_enter l n0 D Y N b37 (zn z) z34 e38) (cwV 1 C.2.2.2.2.2.1 gX11_bake_X2_enter rfl rfl rfl (by decide +kernel) ⟨(Nat.le_of_ble_eq_true rfl), (Nat.le_of_ble_eq_true rfl)⟩) rfl hl.1 rfl (Nat.le_of_ble_eq_true rfl) dX11_bake_123 ⟨(Nat.le_of_ble_eq_true rfl), (Nat.le_of_ble_eq_true rfl)⟩) (fun H locs hw => ?_)
                refine lv_aload_n C.1 C.2.1 dX11_bake_126 rfl (lv_at hl 2 rfl) ?_
                obtain ⟨g41, h⟩ := gdE h
                refine r_get (v := rv n0 (zG z39 640 x0)) C hw g41 (by decide) (Cn := RX11) (T := TX11) (N := 12) rfl in_X11_bake_X11 0 (by decide) (by decide +kernel) (fun _ h => h) rfl dX11_bake_127 ?_
                obtain ⟨b43, e42, h⟩ := boE h
                refine r_topr e42 ?_
                refine lv_aload C.1 C.2.1 dX11_bake_130 (lv_at hl 0 rfl) ?_
                obtain ⟨g46, h⟩ := gdE h
                obtain ⟨z45, e44, h⟩ := boE h
                refine r_aftv hw (r_runV (As := [.ref (n0 + (zn z))]) (rest := []) C hw (ki := 2) g46 (by decide) rfl (kX2_takeFlour l n0 D Y N b43 (zn z) z39 e44) (cwV 1 C.2.2.2.2.2.1 gX11_bake_X2_takeFlour rfl rfl rfl (by decide +kernel) ⟨(Nat.le_of_ble_eq_true rfl), (Nat.le_of_ble_eq_true rfl)⟩) rfl hl.1 rfl (Nat.le_of_ble_eq_true rfl) dX11_bake_132 ⟨(Nat.le_of_ble_eq_true rfl), (Nat.le_of_ble_eq_true rfl)⟩) (fun H locs hw => ?_)
                refine lv_aload C.1 C.2.1 dX11_bake_135 (lv_at hl 1 rfl) ?_
                refine lv_dup C.1 C.2.1 dX11_bake_137 rfl ?_
                obtain ⟨g47, h⟩ := gdE h
                refine r_get (v := .int (zF z45 0 b4)) C hw g47 (by decide) (Cn := RX0) (T := TX0) (N := 8) rfl in_X11_bake_X0 0 (by decide) (by decide +kernel) (fun _ h => h) rfl dX11_bake_138 ?_
                refine lv_iload_n C.1 C.2.1 dX11_bake_141 rfl (lv_at hl 5 rfl) ?_
                refine lv_iload C.1 C.2.1 dX11_bake_142 (lv_at hl 6 rfl) ?_
                refine lv_imul C.1 C.2.1 dX11_bake_144 ?_
                refine lv_isub C.1 C.2.1 dX11_bake_145 ?_
                obtain ⟨z48, e49, h⟩ := bdE h
                refine r_putI C hw g47 (by decide) (Cn := RX0) (T := TX0) (N := 8) rfl in_X11_bake_X0 tyX0 tyX0_ok nmX0 0 (by decide) (by decide +kernel) (fun _ h => h) (Or.inl rfl) (ty := .int) (by decide +kernel) rfl rfl (Nat.le_of_ble_eq_true rfl) (st_0_0 n0 z45 b4 ((zF z45 0 b4) - (x3 * x4))) e49 dX11_bake_146 (fun H locs hw => ?_)
                refine lv_aload C.1 C.2.1 dX11_bake_149 (lv_at hl 1 rfl) ?_
                refine lv_dup C.1 C.2.1 dX11_bake_151 rfl ?_
                have g50 : b4 < zn z48 ∧ zK z48 b4 = 0 := by rw [e49]; exact g47
                refine r_get (v := .int (zF z48 2 b4)) C hw g50 (by decide) (Cn := RX0) (T := TX0) (N := 8) rfl in_X11_bake_X0 2 (by decide) (by decide +kernel) (fun _ h => h) rfl dX11_bake_152 ?_
                refine lv_iconst (v := (1 : Int32)) C.1 C.2.1 dX11_bake_155 (by decide) ?_
                refine lv_iadd C.1 C.2.1 dX11_bake_156 ?_
                obtain ⟨z51, e52, h⟩ := bdE h
                refine r_putI C hw g50 (by decide) (Cn := RX0) (T := TX0) (N := 8) rfl in_X11_bake_X0 tyX0 tyX0_ok nmX0 2 (by decide) (by decide +kernel) (fun _ h => h) (Or.inl rfl) (ty := .int) (by decide +kernel) rfl rfl (Nat.le_of_ble_eq_true rfl) (st_0_2 n0 z48 b4 ((zF z48 2 b4) + (1 : Int32))) e52 dX11_bake_157 (fun H locs hw => ?_)
                refine lv_aload C.1 C.2.1 dX11_bake_160 (lv_at hl 1 rfl) ?_
                refine lv_aload C.1 C.2.1 dX11_bake_162 (lv_at hl 0 rfl) ?_
                have g55 : b4 < zn z51 ∧ zK z51 b4 = 0 := by rw [e52]; exact g50
                obtain ⟨z53, e54, h⟩ := bdE h
                refine r_putG C hw g55 (by decide) (Cn := RX0) (T := TX0) (N := 8) rfl in_X11_bake_X0 tyX0 tyX0_ok nmX0 7 (by decide) (by decide +kernel) (fun _ h => h) (Or.inl rfl) (ty := .object "BreadLaw$Batch") (by decide +kernel) rfl rfl (Nat.le_of_ble_eq_true rfl) (st_0_7 n0 z51 b4 (some (zn z))) e54 dX11_bake_164 (fun H locs hw => ?_)
                refine lv_aload C.1 C.2.1 dX11_bake_167 (lv_at hl 0 rfl) ?_
                obtain ⟨g56, h⟩ := gdE h
                refine r_get (v := .int (zF z53 769 (zn z))) C hw g56 (by decide) (Cn := RX1) (T := TX1) (N := 9) rfl in_X11_bake_X1 1 (by decide) (by decide +kernel) (u_same (C.2.2.2.2.2.1 (.sameField "BreadLaw$Batch" "BreadLaw$Entry" "number" "I") (by decide +kernel))) rfl dX11_bake_169 ?_
                cases h
                replace hF : _ = fin := hF
                subst hF
                exact r_iret C hw dX11_bake_172
              · replace h := brF h c25
                refine lv_bipush (v := (-5 : Int32)) C.1 C.2.1 dX11_bake_89 (by decide) ?_
                cases h
                replace hF : _ = fin := hF
                subst hF
                refine W.widen (k := 1) (n := 9) (by decide) (by decide) ?_
                exact r_iret C hw dX11_bake_91
            · replace h := brF h c24
              refine lv_bipush (v := (-4 : Int32)) C.1 C.2.1 dX11_bake_74 (by decide) ?_
              cases h
              replace hF : _ = fin := hF
              subst hF
              refine W.widen (k := 1) (n := 9) (by decide) (by decide) ?_
              exact r_iret C hw dX11_bake_76
          · replace h := brF h c18
            refine lv_bipush (v := (-3 : Int32)) C.1 C.2.1 dX11_bake_61 (by decide) ?_
            cases h
            replace hF : _ = fin := hF
            subst hF
            refine W.widen (k := 1) (n := 9) (by decide) (by decide) ?_
            exact r_iret C hw dX11_bake_63
        · replace h := brF h c14
          exact tX11_bake_46 C h hF hw (lv_sub hl [1] rfl)
set_option maxRecDepth 100000 in
theorem kX11_bake (l : Launch) (n0 : Nat) (D : va_G) (Y : Nat → ClassId) (N : Nat) (x0 : Nat) (x1 : Int32) (x2 : Int32) (x3 : Int32) (x4 : Int32) (z : Hp) {r : Int32} {z1 : Hp} (h : fX11_bake N x0 x1 x2 x3 x4 z = some (r, z1)) : Met l yX11_bake wsX11_bake rmX11_bake (PreC n0 D Y z [.ref (n0 + x0), .int x1, .int x2, .int x3, .int x4]) (PosI n0 D Y z1 r) 1 9 (AA n0) := by
  refine Met.ofW (cc := cX11_bake) (maxL := 7) (ret := (some .int)) (by decide) rfl ?_
  intro p e s m args below meth c s₁ B hml hv
  obtain ⟨rfl, hR, hK⟩ := hv
  have C : Cx n0 D Y RX11 cX11_bake (some .int) 7 wsX11_bake "bake" p s m ([.ref (n0 + x0), .int x1, .int x2, .int x3, .int x4] : List Value).toArray meth c := ⟨B.exec, B.bytes, B.returns, hml, findClass_of_methodNamed B.named, atoms_spec (ws := wsX11_bake) B.pre, B.notSynchronized, (name_of_methodNamed B.named B.method).1, hK⟩
  have hl := lv_entry ([.ref (n0 + x0), .int x1, .int x2, .int x3, .int x4]) (n := 7) (Nat.le_of_ble_eq_true rfl)
  rw [lg_entry_eq]
  generalize (lg_sl ([.ref (n0 + x0), .int x1, .int x2, .int x3, .int x4]) ++ List.replicate (7 - (lg_sl ([.ref (n0 + x0), .int x1, .int x2, .int x3, .int x4])).length) Slot.unset).toArray = ls at hl ⊢
  have hl : lv_has ls 7 [(0, .ref (n0 + x0)), (1, .int x1), (2, .int x2), (3, .int x3), (4, .int x4)] := hl
  exact tX11_bake_0 C h rfl ⟨hR, va_S.rf⟩ hl
abbrev rmX11_lessened : Room := { frames := 1, cells := 0, slots := 0, locals := 24 }
noncomputable def fX11_lessened (N : Nat) (x0 : Int32) (x1 : Int32) (x2 : Int32) (z : Hp) : Option (Int32) := some (if (0 : Int32) < ((x0 * ((1000 : Int32) - (x1 * x2))) / (1000 : Int32)) then ((x0 * ((1000 : Int32) - (x1 * x2))) / (1000 : Int32)) else (0 : Int32))
set_option maxHeartbeats 4000000 in
set_option maxRecDepth 100000 in
theorem tX11_lessened_0 {n0 : Nat} {D : va_G} {Y : Nat → ClassId} {p : Program} {l : Launch} {e : Env} {s : State} {m : MethodId} {args : Array Value} {below : List Frame} {meth : Method} {c : Code} {N : Nat} {fin : Int32} {x0 : Int32} {x1 : Int32} {x2 : Int32}  {z : Hp} (C : Cx n0 D Y RX11 cX11_lessened (some .int) 3 wsX11_lessened "lessened" p s m args meth c) {x : (Int32)} (h : fX11_lessened N x0 x1 x2  z = some x) (hF : (fun x => x = fin) x) {H : Heap} {locs : List Loc} {ls : Array Slot} (hw : Wd n0 D Y z s H locs) (hl : lv_has ls 3 [(0, .int x0), (1, .int x1), (2, .int x2)]) : W p l e rmX11_lessened s m args below meth c H locs 0 0 (MQ below (PosI n0 D Y z fin) args s 0 0 (AA n0)) (F0 m 0 ls []) := by
  unfold fX11_lessened at h
  refine lv_iconst (v := (0 : Int32)) C.1 C.2.1 dX11_lessened_0 (by decide) ?_
  refine lv_iload_n C.1 C.2.1 dX11_lessened_1 rfl (lv_at hl 0 rfl) ?_
  refine lv_sipush (v := (1000 : Int32)) C.1 C.2.1 dX11_lessened_2 (by decide) ?_
  refine lv_iload_n C.1 C.2.1 dX11_lessened_5 rfl (lv_at hl 1 rfl) ?_
  refine lv_iload_n C.1 C.2.1 dX11_lessened_6 rfl (lv_at hl 2 rfl) ?_
  refine lv_imul C.1 C.2.1 dX11_lessened_7 ?_
  refine lv_isub C.1 C.2.1 dX11_lessened_8 ?_
  refine lv_imul C.1 C.2.1 dX11_lessened_9 ?_
  refine lv_sipush (v := (1000 : Int32)) C.1 C.2.1 dX11_lessened_10 (by decide) ?_
  refine lv_idiv C.1 C.2.1 dX11_lessened_13 (by decide) ?_
  refine va_mmax C.1 C.2.1 (C.2.2.2.1.trans hl.1.symm) C.2.2.2.2.1 (C.2.2.2.2.2.1 (.methodLink RX11 303 Lib.Math.max.name) (by decide +kernel)) (C.2.2.2.2.2.1 (.static Lib.Math.max.name) (by decide +kernel)) (C.2.2.2.2.2.1 (.initialized "java/lang/Math") (by decide +kernel)) (C.2.2.2.2.2.1 _ (List.mem_of_getElem? (i := 4) rfl)) (Nat.le_of_ble_eq_true rfl) (Nat.le_of_ble_eq_true rfl) (Nat.le_of_ble_eq_true rfl) (Nat.le_of_ble_eq_true rfl) dX11_lessened_14 ?_
  cases h
  replace hF : _ = fin := hF
  subst hF
  exact r_iret C hw dX11_lessened_17
set_option maxRecDepth 100000 in
theorem kX11_lessened (l : Launch) (n0 : Nat) (D : va_G) (Y : Nat → ClassId) (N : Nat) (x0 : Int32) (x1 : Int32) (x2 : Int32) (z : Hp) {r : Int32} (h : fX11_lessened N x0 x1 x2 z = some r) : Met l yX11_lessened wsX11_lessened rmX11_lessened (PreC n0 D Y z [.int x0, .int x1, .int x2]) (PosI n0 D Y z r) 0 0 (AA n0) := by
  refine Met.ofW (cc := cX11_lessened) (maxL := 3) (ret := (some .int)) (by decide) rfl ?_
  intro p e s m args below meth c s₁ B hml hv
  obtain ⟨rfl, hR, hK⟩ := hv
  have C : Cx n0 D Y RX11 cX11_lessened (some .int) 3 wsX11_lessened "lessened" p s m ([.int x0, .int x1, .int x2] : List Value).toArray meth c := ⟨B.exec, B.bytes, B.returns, hml, findClass_of_methodNamed B.named, atoms_spec (ws := wsX11_lessened) B.pre, B.notSynchronized, (name_of_methodNamed B.named B.method).1, hK⟩
  have hl := lv_entry ([.int x0, .int x1, .int x2]) (n := 3) (Nat.le_of_ble_eq_true rfl)
  rw [lg_entry_eq]
  generalize (lg_sl ([.int x0, .int x1, .int x2]) ++ List.replicate (3 - (lg_sl ([.int x0, .int x1, .int x2])).length) Slot.unset).toArray = ls at hl ⊢
  have hl : lv_has ls 3 [(0, .int x0), (1, .int x1), (2, .int x2)] := hl
  exact tX11_lessened_0 C h rfl ⟨hR, va_S.rf⟩ hl
theorem in_X11_weighLatest_X0 : ∀ w ∈ wsX00, w ∈ wsX11_weighLatest := by decide +kernel
theorem in_X11_weighLatest_X1 : ∀ w ∈ wsX10, w ∈ wsX11_weighLatest := by decide +kernel
theorem in_X11_weighLatest_X11 : ∀ w ∈ wsX110, w ∈ wsX11_weighLatest := by decide +kernel
theorem in_X11_weighLatest_X8 : ∀ w ∈ wsX80, w ∈ wsX11_weighLatest := by decide +kernel
theorem in_X11_weighLatest_X9 : ∀ w ∈ wsX90, w ∈ wsX11_weighLatest := by decide +kernel
abbrev rmX11_weighLatest : Room := { frames := 3, cells := 0, slots := 0, locals := 69 }
noncomputable def fX11_weighLatest_123 (N : Nat) (x0 : Nat) (s0 : Int32) (s1 : Nat) (z : Hp) : Option (Hp) := gd (s1 < zn z ∧ zK z s1 = 7) <| gd (s0 = 0 ∨ s0 = 1) <| bd (zsF z 456 s1 s0) fun z1 => some z1
set_option maxHeartbeats 4000000 in
set_option maxRecDepth 100000 in
theorem tX11_weighLatest_123 {n0 : Nat} {D : va_G} {Y : Nat → ClassId} {p : Program} {l : Launch} {e : Env} {s : State} {m : MethodId} {args : Array Value} {below : List Frame} {meth : Method} {c : Code} {N : Nat} {fin : Hp} {x0 : Nat} {s0 : Int32} {s1 : Nat} {z : Hp} (C : Cx n0 D Y RX11 cX11_weighLatest none 6 wsX11_weighLatest "weighLatest" p s m args meth c) {x : (Hp)} (h : fX11_weighLatest_123 N x0 s0 s1 z = some x) (hF : (fun x => x = fin) x) {H : Heap} {locs : List Loc} {ls : Array Slot} (hw : Wd n0 D Y z s H locs) (hl : lv_has ls 6 [(0, .ref (n0 + x0))]) : W p l e rmX11_weighLatest s m args below meth c H locs 0 0 (MQ below (PosV n0 D Y fin) args s 0 0 (AA n0)) (F0 m 123 ls [.int s0, .ref (n0 + s1)]) := by
  unfold fX11_weighLatest_123 at h
  obtain ⟨g3, h⟩ := gdE h
  obtain ⟨g4, h⟩ := gdE h
  obtain ⟨z1, e2, h⟩ := bdE h
  refine r_putI C hw g3 (by decide) (Cn := RX8) (T := TX8) (N := 10) rfl in_X11_weighLatest_X8 tyX8 tyX8_ok nmX8 8 (by decide) (by decide +kernel) (fun _ h => h) (Or.inl rfl) (ty := .boolean) (by decide +kernel) (by rcases g4 with q | q <;> rw [q] <;> rfl) (by rcases g4 with q | q <;> rw [q] <;> rfl) (Nat.le_of_ble_eq_true rfl) (st_7_8 n0 z s1 s0) e2 dX11_weighLatest_123 (fun H locs hw => ?_)
  cases h
  replace hF : _ = fin := hF
  subst hF
  exact r_vret C hw dX11_weighLatest_126
noncomputable def fX11_weighLatest_37 (N : Nat) (x0 : Nat) (x1 : Nat) (x3 : Nat) (x4 : Option Nat) (s0 : Int32) (z : Hp) : Option (Hp) := gd (x3 < zn z ∧ zK z x3 = 1) <| gd (x1 < zn z ∧ zK z x1 = 7) <| bd (zsF z 452 x1 (zF z 769 x3)) fun z2 => gd (x0 < zn z2 ∧ zK z2 x0 = 10) <| bd (zsF z2 453 x1 ((zF z2 647 x0) - (zF z2 770 x3))) fun z7 => bo (fX11_lessened N (zF z7 70 x3) (zF z7 649 x0) (zF z7 453 x1) z7) fun r14 => bd (zsF z7 454 x1 r14) fun z15 => bo (fX3_week N x3 z15) fun r19 => bo (fX11_dueBy N x0 x4 (zF z15 68 x3) r19 z15) fun r21 => bo (fX11_lessened N r21 s0 (zF z15 453 x1) z15) fun r25 => bd (zsF z15 455 x1 r25) fun z26 => br ((zF z26 455 x1) ≤ (zF z26 454 x1)) (fX11_weighLatest_123 N x0 (0 : Int32) x1 z26) (fX11_weighLatest_123 N x0 (1 : Int32) x1 z26)
set_option maxHeartbeats 4000000 in
set_option maxRecDepth 100000 in
theorem tX11_weighLatest_37 {n0 : Nat} {D : va_G} {Y : Nat → ClassId} {p : Program} {l : Launch} {e : Env} {s : State} {m : MethodId} {args : Array Value} {below : List Frame} {meth : Method} {c : Code} {N : Nat} {fin : Hp} {x0 : Nat} {x1 : Nat} {x3 : Nat} {x4 : Option Nat} {s0 : Int32} {z : Hp} (C : Cx n0 D Y RX11 cX11_weighLatest none 6 wsX11_weighLatest "weighLatest" p s m args meth c) {x : (Hp)} (h : fX11_weighLatest_37 N x0 x1 x3 x4 s0 z = some x) (hF : (fun x => x = fin) x) {H : Heap} {locs : List Loc} {ls : Array Slot} (hw : Wd n0 D Y z s H locs) (hl : lv_has ls 6 [(0, .ref (n0 + x0)), (1, .ref (n0 + x1)), (3, .ref (n0 + x3)), (4, rv n0 x4)]) : W p l e rmX11_weighLatest s m args below meth c H locs 0 0 (MQ below (PosV n0 D Y fin) args s 0 0 (AA n0)) (F0 m 37 ls [.int s0]) := by
  unfold fX11_weighLatest_37 at h
  refine lv_istore (i := 5) (lv' := [(5, .int s0), (0, .ref (n0 + x0)), (1, .ref (n0 + x1)), (3, .ref (n0 + x3)), (4, rv n0 x4)]) C.1 C.2.1 dX11_weighLatest_37 hl (by decide) (by simp [List.filter, rv_cat]) (fun ls hl => ?_)
  refine lv_aload_n C.1 C.2.1 dX11_weighLatest_39 rfl (lv_at hl 2 rfl) ?_
  refine lv_aload_n C.1 C.2.1 dX11_weighLatest_40 rfl (lv_at hl 3 rfl) ?_
  obtain ⟨g1, h⟩ := gdE h
  refine r_get (v := .int (zF z 769 x3)) C hw g1 (by decide) (Cn := RX1) (T := TX1) (N := 9) rfl in_X11_weighLatest_X1 1 (by decide) (by decide +kernel) (u_same (C.2.2.2.2.2.1 (.sameField "BreadLaw$Batch" "BreadLaw$Entry" "number" "I") (by decide +kernel))) rfl dX11_weighLatest_41 ?_
  obtain ⟨g4, h⟩ := gdE h
  obtain ⟨z2, e3, h⟩ := bdE h
  refine r_putI C hw g4 (by decide) (Cn := RX8) (T := TX8) (N := 10) rfl in_X11_weighLatest_X8 tyX8 tyX8_ok nmX8 4 (by decide) (by decide +kernel) (fun _ h => h) (Or.inl rfl) (ty := .int) (by decide +kernel) rfl rfl (Nat.le_of_ble_eq_true rfl) (st_7_4 n0 z x1 (zF z 769 x3)) e3 dX11_weighLatest_44 (fun H locs hw => ?_)
  refine lv_aload_n C.1 C.2.1 dX11_weighLatest_47 rfl (lv_at hl 2 rfl) ?_
  refine lv_aload_n C.1 C.2.1 dX11_weighLatest_48 rfl (lv_at hl 1 rfl) ?_
  obtain ⟨g5, h⟩ := gdE h
  refine r_get (v := .int (zF z2 647 x0)) C hw g5 (by decide) (Cn := RX11) (T := TX11) (N := 12) rfl in_X11_weighLatest_X11 7 (by decide) (by decide +kernel) (fun _ h => h) rfl dX11_weighLatest_49 ?_
  refine lv_aload_n C.1 C.2.1 dX11_weighLatest_52 rfl (lv_at hl 3 rfl) ?_
  have g6 : x3 < zn z2 ∧ zK z2 x3 = 1 := by rw [e3]; exact g1
  refine r_get (v := .int (zF z2 770 x3)) C hw g6 (by decide) (Cn := RX1) (T := TX1) (N := 9) rfl in_X11_weighLatest_X1 2 (by decide) (by decide +kernel) (u_same (C.2.2.2.2.2.1 (.sameField "BreadLaw$Batch" "BreadLaw$Entry" "at" "I") (by decide +kernel))) rfl dX11_weighLatest_53 ?_
  refine lv_isub C.1 C.2.1 dX11_weighLatest_56 ?_
  have g9 : x1 < zn z2 ∧ zK z2 x1 = 7 := by rw [e3]; exact g4
  obtain ⟨z7, e8, h⟩ := bdE h
  refine r_putI C hw g9 (by decide) (Cn := RX8) (T := TX8) (N := 10) rfl in_X11_weighLatest_X8 tyX8 tyX8_ok nmX8 5 (by decide) (by decide +kernel) (fun _ h => h) (Or.inl rfl) (ty := .int) (by decide +kernel) rfl rfl (Nat.le_of_ble_eq_true rfl) (st_7_5 n0 z2 x1 ((zF z2 647 x0) - (zF z2 770 x3))) e8 dX11_weighLatest_57 (fun H locs hw => ?_)
  refine lv_aload_n C.1 C.2.1 dX11_weighLatest_60 rfl (lv_at hl 2 rfl) ?_
  refine lv_aload_n C.1 C.2.1 dX11_weighLatest_61 rfl (lv_at hl 3 rfl) ?_
  have g10 : x3 < zn z7 ∧ zK z7 x3 = 1 := by rw [e8]; exact g6
  refine r_get (v := .int (zF z7 70 x3)) C hw g10 (by decide) (Cn := RX1) (T := TX1) (N := 9) rfl in_X11_weighLatest_X1 6 (by decide) (by decide +kernel) (fun _ h => h) rfl dX11_weighLatest_62 ?_
  refine lv_aload_n C.1 C.2.1 dX11_weighLatest_65 rfl (lv_at hl 1 rfl) ?_
  have g11 : x0 < zn z7 ∧ zK z7 x0 = 10 := by rw [e8]; exact g5
  refine r_get (v := .int (zF z7 649 x0)) C hw g11 (by decide) (Cn := RX11) (T := TX11) (N := 12) rfl in_X11_weighLatest_X11 9 (by decide) (by decide +kernel) (fun _ h => h) rfl dX11_weighLatest_66 ?_
  refine lv_aload_n C.1 C.2.1 dX11_weighLatest_69 rfl (lv_at hl 2 rfl) ?_
  have g12 : x1 < zn z7 ∧ zK z7 x1 = 7 := by rw [e8]; exact g9
  refine r_get (v := .int (zF z7 453 x1)) C hw g12 (by decide) (Cn := RX8) (T := TX8) (N := 10) rfl in_X11_weighLatest_X8 5 (by decide) (by decide +kernel) (fun _ h => h) rfl dX11_weighLatest_70 ?_
  obtain ⟨r14, e13, h⟩ := boE h
  refine r_afti hw (r_runS (As := [.int (zF z7 70 x3), .int (zF z7 649 x0), .int (zF z7 453 x1)]) (rest := [.ref (n0 + x1)]) C hw (kX11_lessened l n0 D Y N (zF z7 70 x3) (zF z7 649 x0) (zF z7 453 x1) z7 e13) (va_cwS 3 C.2.2.2.2.2.1 gX11_weighLatest_X11_lessened rfl rfl rfl (by decide +kernel) ⟨(Nat.le_of_ble_eq_true rfl), (Nat.le_of_ble_eq_true rfl)⟩) rfl hl.1 rfl (Nat.le_of_ble_eq_true rfl) dX11_weighLatest_73 ⟨(Nat.le_of_ble_eq_true rfl), (Nat.le_of_ble_eq_true rfl)⟩) (fun H locs hw => ?_)
  obtain ⟨z15, e16, h⟩ := bdE h
  refine r_putI C hw g12 (by decide) (Cn := RX8) (T := TX8) (N := 10) rfl in_X11_weighLatest_X8 tyX8 tyX8_ok nmX8 6 (by decide) (by decide +kernel) (fun _ h => h) (Or.inl rfl) (ty := .int) (by decide +kernel) rfl rfl (Nat.le_of_ble_eq_true rfl) (st_7_6 n0 z7 x1 r14) e16 dX11_weighLatest_76 (fun H locs hw => ?_)
  refine lv_aload_n C.1 C.2.1 dX11_weighLatest_79 rfl (lv_at hl 2 rfl) ?_
  refine lv_aload_n C.1 C.2.1 dX11_weighLatest_80 rfl (lv_at hl 1 rfl) ?_
  refine r_aload (r := x4) C dX11_weighLatest_81 (lv_at hl 4 rfl) ?_
  refine lv_aload_n C.1 C.2.1 dX11_weighLatest_83 rfl (lv_at hl 3 rfl) ?_
  have g17 : x3 < zn z15 ∧ zK z15 x3 = 1 := by rw [e16]; exact g10
  refine r_get (v := .int (zF z15 68 x3)) C hw g17 (by decide) (Cn := RX1) (T := TX1) (N := 9) rfl in_X11_weighLatest_X1 4 (by decide) (by decide +kernel) (fun _ h => h) rfl dX11_weighLatest_84 ?_
  refine lv_aload_n C.1 C.2.1 dX11_weighLatest_87 rfl (lv_at hl 3 rfl) ?_
  obtain ⟨r19, e18, h⟩ := boE h
  refine r_afti hw (r_runU (As := []) (rest := [.int (zF z15 68 x3), rv n0 x4, .ref (n0 + x0), .ref (n0 + x1)]) C hw (ki := 1) g17 (by decide) rfl (kX3_week l n0 D Y N x3  z15 e18) (va_cwU (owner := "BreadLaw$Entry") (x := ⟨"BreadLaw$Batch", "week", "()I"⟩) 0 C.2.2.2.2.2.1 gX11_weighLatest_X3_week_u277X1 rfl rfl rfl rfl (by decide +kernel) ⟨(Nat.le_of_ble_eq_true rfl), (Nat.le_of_ble_eq_true rfl)⟩) rfl hl.1 rfl (by simp only [List.map, rv_cat]; exact Nat.le_of_ble_eq_true rfl) dX11_weighLatest_88 ⟨(Nat.le_of_ble_eq_true rfl), (Nat.le_of_ble_eq_true rfl)⟩) (fun H locs hw => ?_)
  obtain ⟨r21, e20, h⟩ := boE h
  have g22 : x0 < zn z15 ∧ zK z15 x0 = 10 := by rw [e16]; exact g11
  refine r_afti hw (r_runV (As := [rv n0 x4, .int (zF z15 68 x3), .int r19]) (rest := [.ref (n0 + x1)]) C hw (ki := 10) g22 (by decide) rfl (kX11_dueBy l n0 D Y N x0 x4 (zF z15 68 x3) r19 z15 e20) (cwV 3 C.2.2.2.2.2.1 gX11_weighLatest_X11_dueBy rfl rfl rfl (by decide +kernel) ⟨(Nat.le_of_ble_eq_true rfl), (Nat.le_of_ble_eq_true rfl)⟩) rfl hl.1 rfl (Nat.le_of_ble_eq_true rfl) dX11_weighLatest_91 ⟨(Nat.le_of_ble_eq_true rfl), (Nat.le_of_ble_eq_true rfl)⟩) (fun H locs hw => ?_)
  refine lv_iload C.1 C.2.1 dX11_weighLatest_94 (lv_at hl 0 rfl) ?_
  refine lv_aload_n C.1 C.2.1 dX11_weighLatest_96 rfl (lv_at hl 2 rfl) ?_
  have g23 : x1 < zn z15 ∧ zK z15 x1 = 7 := by rw [e16]; exact g12
  refine r_get (v := .int (zF z15 453 x1)) C hw g23 (by decide) (Cn := RX8) (T := TX8) (N := 10) rfl in_X11_weighLatest_X8 5 (by decide) (by decide +kernel) (fun _ h => h) rfl dX11_weighLatest_97 ?_
  obtain ⟨r25, e24, h⟩ := boE h
  refine r_afti hw (r_runS (As := [.int r21, .int s0, .int (zF z15 453 x1)]) (rest := [.ref (n0 + x1)]) C hw (kX11_lessened l n0 D Y N r21 s0 (zF z15 453 x1) z15 e24) (va_cwS 3 C.2.2.2.2.2.1 gX11_weighLatest_X11_lessened rfl rfl rfl (by decide +kernel) ⟨(Nat.le_of_ble_eq_true rfl), (Nat.le_of_ble_eq_true rfl)⟩) rfl hl.1 rfl (Nat.le_of_ble_eq_true rfl) dX11_weighLatest_100 ⟨(Nat.le_of_ble_eq_true rfl), (Nat.le_of_ble_eq_true rfl)⟩) (fun H locs hw => ?_)
  obtain ⟨z26, e27, h⟩ := bdE h
  refine r_putI C hw g23 (by decide) (Cn := RX8) (T := TX8) (N := 10) rfl in_X11_weighLatest_X8 tyX8 tyX8_ok nmX8 7 (by decide) (by decide +kernel) (fun _ h => h) (Or.inl rfl) (ty := .int) (by decide +kernel) rfl rfl (Nat.le_of_ble_eq_true rfl) (st_7_7 n0 z15 x1 r25) e27 dX11_weighLatest_103 (fun H locs hw => ?_)
  refine lv_aload_n C.1 C.2.1 dX11_weighLatest_106 rfl (lv_at hl 2 rfl) ?_
  refine lv_aload_n C.1 C.2.1 dX11_weighLatest_107 rfl (lv_at hl 2 rfl) ?_
  have g28 : x1 < zn z26 ∧ zK z26 x1 = 7 := by rw [e27]; exact g23
  refine r_get (v := .int (zF z26 454 x1)) C hw g28 (by decide) (Cn := RX8) (T := TX8) (N := 10) rfl in_X11_weighLatest_X8 6 (by decide) (by decide +kernel) (fun _ h => h) rfl dX11_weighLatest_108 ?_
  refine lv_aload_n C.1 C.2.1 dX11_weighLatest_111 rfl (lv_at hl 2 rfl) ?_
  refine r_get (v := .int (zF z26 455 x1)) C hw g28 (by decide) (Cn := RX8) (T := TX8) (N := 10) rfl in_X11_weighLatest_X8 7 (by decide) (by decide +kernel) (fun _ h => h) rfl dX11_weighLatest_112 ?_
  refine lv_icmp_ge (tgt := 122) C.1 C.2.1 dX11_weighLatest_115 (by decide) (fun c29 => ?_) (fun c29 => ?_)
  · replace h := brT h c29
    refine lv_iconst (v := (0 : Int32)) C.1 C.2.1 dX11_weighLatest_122 (by decide) ?_
    exact tX11_weighLatest_123 C h hF hw (lv_sub hl [1] rfl)
  · replace h := brF h c29
    refine lv_iconst (v := (1 : Int32)) C.1 C.2.1 dX11_weighLatest_118 (by decide) ?_
    refine lv_goto (tgt := 123) C.1 C.2.1 dX11_weighLatest_119 (by decide) ?_
    exact tX11_weighLatest_123 C h hF hw (lv_sub hl [1] rfl)
noncomputable def fX11_weighLatest (N : Nat) (x0 : Nat) (x1 : Nat) (x2 : Nat) (z : Hp) : Option (Hp) := gd (x2 < zn z ∧ zK z x2 = 0) <| bd (zG z 7 x2) fun q3 => cs q3 (some z) (fun b4 => gd (x0 < zn z ∧ zK z x0 = 10) <| bo (zG z 642 x0) fun b8 => gd (b4 < zn z ∧ zK z b4 = 1) <| bo (fX3_week N b4 z) fun r10 => gd (b8 < zn z ∧ zK z b8 = 4) <| bo (fX5_ruling N b8 r10 z) fun q13 => cs q13 (fX11_weighLatest_37 N x0 x1 b4 (none : Option Nat) (0 : Int32) z) (fun b15 => gd (b15 < zn z ∧ zK z b15 = 8) <| fX11_weighLatest_37 N x0 x1 b4 (some b15) (zF z 514 b15) z))
set_option maxHeartbeats 4000000 in
set_option maxRecDepth 100000 in
theorem tX11_weighLatest_0 {n0 : Nat} {D : va_G} {Y : Nat → ClassId} {p : Program} {l : Launch} {e : Env} {s : State} {m : MethodId} {args : Array Value} {below : List Frame} {meth : Method} {c : Code} {N : Nat} {fin : Hp} {x0 : Nat} {x1 : Nat} {x2 : Nat}  {z : Hp} (C : Cx n0 D Y RX11 cX11_weighLatest none 6 wsX11_weighLatest "weighLatest" p s m args meth c) {x : (Hp)} (h : fX11_weighLatest N x0 x1 x2  z = some x) (hF : (fun x => x = fin) x) {H : Heap} {locs : List Loc} {ls : Array Slot} (hw : Wd n0 D Y z s H locs) (hl : lv_has ls 6 [(0, .ref (n0 + x0)), (1, .ref (n0 + x1)), (2, .ref (n0 + x2))]) : W p l e rmX11_weighLatest s m args below meth c H locs 0 0 (MQ below (PosV n0 D Y fin) args s 0 0 (AA n0)) (F0 m 0 ls []) := by
  unfold fX11_weighLatest at h
  refine lv_aload_n C.1 C.2.1 dX11_weighLatest_0 rfl (lv_at hl 2 rfl) ?_
  obtain ⟨g1, h⟩ := gdE h
  refine r_get (v := rv n0 (zG z 7 x2)) C hw g1 (by decide) (Cn := RX0) (T := TX0) (N := 8) rfl in_X11_weighLatest_X0 7 (by decide) (by decide +kernel) (fun _ h => h) rfl dX11_weighLatest_1 ?_
  obtain ⟨q3, e2, h⟩ := bdE h
  refine r_topq e2 ?_
  refine r_astore_n (i := 3) (r := q3) (lv' := [(3, rv n0 q3), (0, .ref (n0 + x0)), (1, .ref (n0 + x1)), (2, .ref (n0 + x2))]) C dX11_weighLatest_4 rfl hl (by decide) rfl (fun ls hl => ?_)
  refine r_aload_n (r := q3) C dX11_weighLatest_5 rfl (lv_at hl 0 rfl) ?_
  refine r_ifnonnull (tgt := 10) C dX11_weighLatest_6 (by decide) (fun c5 => ?_) (fun b4 c5 => ?_)
  · subst c5
    replace h := csN h
    cases h
    replace hF : _ = fin := hF
    subst hF
    exact r_vret C hw dX11_weighLatest_9
  · subst c5
    replace h := csS h
    refine lv_aload_n C.1 C.2.1 dX11_weighLatest_10 rfl (lv_at hl 1 rfl) ?_
    obtain ⟨g6, h⟩ := gdE h
    refine r_get (v := rv n0 (zG z 642 x0)) C hw g6 (by decide) (Cn := RX11) (T := TX11) (N := 12) rfl in_X11_weighLatest_X11 2 (by decide) (by decide +kernel) (fun _ h => h) rfl dX11_weighLatest_11 ?_
    obtain ⟨b8, e7, h⟩ := boE h
    refine r_topr e7 ?_
    refine lv_aload_n C.1 C.2.1 dX11_weighLatest_14 rfl (lv_at hl 0 rfl) ?_
    obtain ⟨g11, h⟩ := gdE h
    obtain ⟨r10, e9, h⟩ := boE h
    refine r_afti hw (r_runU (As := []) (rest := [.ref (n0 + b8)]) C hw (ki := 1) g11 (by decide) rfl (kX3_week l n0 D Y N b4  z e9) (va_cwU (owner := "BreadLaw$Entry") (x := ⟨"BreadLaw$Batch", "week", "()I"⟩) 0 C.2.2.2.2.2.1 gX11_weighLatest_X3_week_u277X1 rfl rfl rfl rfl (by decide +kernel) ⟨(Nat.le_of_ble_eq_true rfl), (Nat.le_of_ble_eq_true rfl)⟩) rfl hl.1 rfl (Nat.le_of_ble_eq_true rfl) dX11_weighLatest_15 ⟨(Nat.le_of_ble_eq_true rfl), (Nat.le_of_ble_eq_true rfl)⟩) (fun H locs hw => ?_)
    obtain ⟨g14, h⟩ := gdE h
    obtain ⟨q13, e12, h⟩ := boE h
    refine r_aftq hw (r_runV (As := [.int r10]) (rest := []) C hw (ki := 4) g14 (by decide) rfl (kX5_ruling l n0 D Y N b8 r10 z e12) (cwV 1 C.2.2.2.2.2.1 gX11_weighLatest_X5_ruling rfl rfl rfl (by decide +kernel) ⟨(Nat.le_of_ble_eq_true rfl), (Nat.le_of_ble_eq_true rfl)⟩) rfl hl.1 rfl (Nat.le_of_ble_eq_true rfl) dX11_weighLatest_18 ⟨(Nat.le_of_ble_eq_true rfl), (Nat.le_of_ble_eq_true rfl)⟩) (fun H locs hw => ?_)
    refine r_astore (i := 4) (r := q13) (lv' := [(4, rv n0 q13), (3, .ref (n0 + b4)), (0, .ref (n0 + x0)), (1, .ref (n0 + x1)), (2, .ref (n0 + x2))]) C dX11_weighLatest_21 hl (by decide) rfl (fun ls hl => ?_)
    refine r_aload (r := q13) C dX11_weighLatest_23 (lv_at hl 0 rfl) ?_
    refine r_ifnonnull (tgt := 32) C dX11_weighLatest_25 (by decide) (fun c16 => ?_) (fun b15 c16 => ?_)
    · subst c16
      replace h := csN h
      refine lv_iconst (v := (0 : Int32)) C.1 C.2.1 dX11_weighLatest_28 (by decide) ?_
      refine lv_goto (tgt := 37) C.1 C.2.1 dX11_weighLatest_29 (by decide) ?_
      exact tX11_weighLatest_37 C h hF hw (lv_sub hl [2, 3, 1, 0] rfl)
    · subst c16
      replace h := csS h
      refine lv_aload C.1 C.2.1 dX11_weighLatest_32 (lv_at hl 0 rfl) ?_
      obtain ⟨g17, h⟩ := gdE h
      refine r_get (v := .int (zF z 514 b15)) C hw g17 (by decide) (Cn := RX9) (T := TX9) (N := 7) rfl in_X11_weighLatest_X9 2 (by decide) (by decide +kernel) (fun _ h => h) rfl dX11_weighLatest_34 ?_
      exact tX11_weighLatest_37 C h hF hw (lv_sub hl [2, 3, 1, 0] rfl)
set_option maxRecDepth 100000 in
theorem kX11_weighLatest (l : Launch) (n0 : Nat) (D : va_G) (Y : Nat → ClassId) (N : Nat) (x0 : Nat) (x1 : Nat) (x2 : Nat) (z : Hp) {z1 : Hp} (h : fX11_weighLatest N x0 x1 x2 z = some z1) : Met l yX11_weighLatest wsX11_weighLatest rmX11_weighLatest (PreC n0 D Y z [.ref (n0 + x0), .ref (n0 + x1), .ref (n0 + x2)]) (PosV n0 D Y z1) 0 0 (AA n0) := by
  refine Met.ofW (cc := cX11_weighLatest) (maxL := 6) (ret := none) (by decide) rfl ?_
  intro p e s m args below meth c s₁ B hml hv
  obtain ⟨rfl, hR, hK⟩ := hv
  have C : Cx n0 D Y RX11 cX11_weighLatest none 6 wsX11_weighLatest "weighLatest" p s m ([.ref (n0 + x0), .ref (n0 + x1), .ref (n0 + x2)] : List Value).toArray meth c := ⟨B.exec, B.bytes, B.returns, hml, findClass_of_methodNamed B.named, atoms_spec (ws := wsX11_weighLatest) B.pre, B.notSynchronized, (name_of_methodNamed B.named B.method).1, hK⟩
  have hl := lv_entry ([.ref (n0 + x0), .ref (n0 + x1), .ref (n0 + x2)]) (n := 6) (Nat.le_of_ble_eq_true rfl)
  rw [lg_entry_eq]
  generalize (lg_sl ([.ref (n0 + x0), .ref (n0 + x1), .ref (n0 + x2)]) ++ List.replicate (6 - (lg_sl ([.ref (n0 + x0), .ref (n0 + x1), .ref (n0 + x2)])).length) Slot.unset).toArray = ls at hl ⊢
  have hl : lv_has ls 6 [(0, .ref (n0 + x0)), (1, .ref (n0 + x1)), (2, .ref (n0 + x2))] := hl
  exact tX11_weighLatest_0 C h rfl ⟨hR, va_S.rf⟩ hl
theorem in_X11_punish_X0 : ∀ w ∈ wsX00, w ∈ wsX11_punish := by decide +kernel
theorem in_X11_punish_X11 : ∀ w ∈ wsX110, w ∈ wsX11_punish := by decide +kernel
theorem in_X11_punish_X8 : ∀ w ∈ wsX80, w ∈ wsX11_punish := by decide +kernel
abbrev rmX11_punish : Room := { frames := 1, cells := 0, slots := 0, locals := 24 }
noncomputable def fX11_punish_58 (N : Nat) (x0 : Nat) (z : Hp) : Option (Hp) := some z
set_option maxHeartbeats 4000000 in
set_option maxRecDepth 100000 in
theorem tX11_punish_58 {n0 : Nat} {D : va_G} {Y : Nat → ClassId} {p : Program} {l : Launch} {e : Env} {s : State} {m : MethodId} {args : Array Value} {below : List Frame} {meth : Method} {c : Code} {N : Nat} {fin : Hp} {x0 : Nat}  {z : Hp} (C : Cx n0 D Y RX11 cX11_punish none 3 wsX11_punish "punish" p s m args meth c) {x : (Hp)} (h : fX11_punish_58 N x0  z = some x) (hF : (fun x => x = fin) x) {H : Heap} {locs : List Loc} {ls : Array Slot} (hw : Wd n0 D Y z s H locs) (hl : lv_has ls 3 [(0, .ref (n0 + x0))]) : W p l e rmX11_punish s m args below meth c H locs 0 0 (MQ below (PosV n0 D Y fin) args s 0 0 (AA n0)) (F0 m 58 ls []) := by
  unfold fX11_punish_58 at h
  cases h
  replace hF : _ = fin := hF
  subst hF
  exact r_vret C hw dX11_punish_58
noncomputable def fX11_punish (N : Nat) (x0 : Nat) (x1 : Nat) (x2 : Nat) (z : Hp) : Option (Hp) := gd (x2 < zn z ∧ zK z x2 = 0) <| bd (zsF z 4 x2 ((zF z 4 x2) + (1 : Int32))) fun z2 => gd (x0 < zn z2 ∧ zK z2 x0 = 10) <| gd (x1 < zn z2 ∧ zK z2 x1 = 7) <| bd (zsF z2 457 x1 ((zF z2 650 x0) * (if (4 : Int32) < (zF z2 4 x2) then (4 : Int32) else (zF z2 4 x2)))) fun z6 => bd (zsF z6 5 x2 ((zF z6 5 x2) + (zF z6 457 x1))) fun z11 => br ((zF z11 4 x2) < (4 : Int32)) (fX11_punish_58 N x0 z11) (bo (fX11_weekNow N x0 z11) fun r16 => bd (zsF z11 6 x2 (r16 + (2 : Int32))) fun z19 => fX11_punish_58 N x0 z19)
set_option maxHeartbeats 4000000 in
set_option maxRecDepth 100000 in
theorem tX11_punish_0 {n0 : Nat} {D : va_G} {Y : Nat → ClassId} {p : Program} {l : Launch} {e : Env} {s : State} {m : MethodId} {args : Array Value} {below : List Frame} {meth : Method} {c : Code} {N : Nat} {fin : Hp} {x0 : Nat} {x1 : Nat} {x2 : Nat}  {z : Hp} (C : Cx n0 D Y RX11 cX11_punish none 3 wsX11_punish "punish" p s m args meth c) {x : (Hp)} (h : fX11_punish N x0 x1 x2  z = some x) (hF : (fun x => x = fin) x) {H : Heap} {locs : List Loc} {ls : Array Slot} (hw : Wd n0 D Y z s H locs) (hl : lv_has ls 3 [(0, .ref (n0 + x0)), (1, .ref (n0 + x1)), (2, .ref (n0 + x2))]) : W p l e rmX11_punish s m args below meth c H locs 0 0 (MQ below (PosV n0 D Y fin) args s 0 0 (AA n0)) (F0 m 0 ls []) := by
  unfold fX11_punish at h
  refine lv_aload_n C.1 C.2.1 dX11_punish_0 rfl (lv_at hl 2 rfl) ?_
  refine lv_dup C.1 C.2.1 dX11_punish_1 rfl ?_
  obtain ⟨g1, h⟩ := gdE h
  refine r_get (v := .int (zF z 4 x2)) C hw g1 (by decide) (Cn := RX0) (T := TX0) (N := 8) rfl in_X11_punish_X0 4 (by decide) (by decide +kernel) (fun _ h => h) rfl dX11_punish_2 ?_
  refine lv_iconst (v := (1 : Int32)) C.1 C.2.1 dX11_punish_5 (by decide) ?_
  refine lv_iadd C.1 C.2.1 dX11_punish_6 ?_
  obtain ⟨z2, e3, h⟩ := bdE h
  refine r_putI C hw g1 (by decide) (Cn := RX0) (T := TX0) (N := 8) rfl in_X11_punish_X0 tyX0 tyX0_ok nmX0 4 (by decide) (by decide +kernel) (fun _ h => h) (Or.inl rfl) (ty := .int) (by decide +kernel) rfl rfl (Nat.le_of_ble_eq_true rfl) (st_0_4 n0 z x2 ((zF z 4 x2) + (1 : Int32))) e3 dX11_punish_7 (fun H locs hw => ?_)
  refine lv_aload_n C.1 C.2.1 dX11_punish_10 rfl (lv_at hl 1 rfl) ?_
  refine lv_aload_n C.1 C.2.1 dX11_punish_11 rfl (lv_at hl 0 rfl) ?_
  obtain ⟨g4, h⟩ := gdE h
  refine r_get (v := .int (zF z2 650 x0)) C hw g4 (by decide) (Cn := RX11) (T := TX11) (N := 12) rfl in_X11_punish_X11 10 (by decide) (by decide +kernel) (fun _ h => h) rfl dX11_punish_12 ?_
  refine lv_aload_n C.1 C.2.1 dX11_punish_15 rfl (lv_at hl 2 rfl) ?_
  have g5 : x2 < zn z2 ∧ zK z2 x2 = 0 := by rw [e3]; exact g1
  refine r_get (v := .int (zF z2 4 x2)) C hw g5 (by decide) (Cn := RX0) (T := TX0) (N := 8) rfl in_X11_punish_X0 4 (by decide) (by decide +kernel) (fun _ h => h) rfl dX11_punish_16 ?_
  refine lv_iconst (v := (4 : Int32)) C.1 C.2.1 dX11_punish_19 (by decide) ?_
  refine va_mmin C.1 C.2.1 (C.2.2.2.1.trans hl.1.symm) C.2.2.2.2.1 (C.2.2.2.2.2.1 (.methodLink RX11 311 Lib.Math.min.name) (by decide +kernel)) (C.2.2.2.2.2.1 (.static Lib.Math.min.name) (by decide +kernel)) (C.2.2.2.2.2.1 (.initialized "java/lang/Math") (by decide +kernel)) (C.2.2.2.2.2.1 _ (List.mem_of_getElem? (i := 6) rfl)) (Nat.le_of_ble_eq_true rfl) (Nat.le_of_ble_eq_true rfl) (Nat.le_of_ble_eq_true rfl) (Nat.le_of_ble_eq_true rfl) dX11_punish_20 ?_
  refine lv_imul C.1 C.2.1 dX11_punish_23 ?_
  obtain ⟨g8, h⟩ := gdE h
  obtain ⟨z6, e7, h⟩ := bdE h
  refine r_putI C hw g8 (by decide) (Cn := RX8) (T := TX8) (N := 10) rfl in_X11_punish_X8 tyX8 tyX8_ok nmX8 9 (by decide) (by decide +kernel) (fun _ h => h) (Or.inl rfl) (ty := .int) (by decide +kernel) rfl rfl (Nat.le_of_ble_eq_true rfl) (st_7_9 n0 z2 x1 ((zF z2 650 x0) * (if (4 : Int32) < (zF z2 4 x2) then (4 : Int32) else (zF z2 4 x2)))) e7 dX11_punish_24 (fun H locs hw => ?_)
  refine lv_aload_n C.1 C.2.1 dX11_punish_27 rfl (lv_at hl 2 rfl) ?_
  refine lv_dup C.1 C.2.1 dX11_punish_28 rfl ?_
  have g9 : x2 < zn z6 ∧ zK z6 x2 = 0 := by rw [e7]; exact g5
  refine r_get (v := .int (zF z6 5 x2)) C hw g9 (by decide) (Cn := RX0) (T := TX0) (N := 8) rfl in_X11_punish_X0 5 (by decide) (by decide +kernel) (fun _ h => h) rfl dX11_punish_29 ?_
  refine lv_aload_n C.1 C.2.1 dX11_punish_32 rfl (lv_at hl 1 rfl) ?_
  have g10 : x1 < zn z6 ∧ zK z6 x1 = 7 := by rw [e7]; exact g8
  refine r_get (v := .int (zF z6 457 x1)) C hw g10 (by decide) (Cn := RX8) (T := TX8) (N := 10) rfl in_X11_punish_X8 9 (by decide) (by decide +kernel) (fun _ h => h) rfl dX11_punish_33 ?_
  refine lv_iadd C.1 C.2.1 dX11_punish_36 ?_
  obtain ⟨z11, e12, h⟩ := bdE h
  refine r_putI C hw g9 (by decide) (Cn := RX0) (T := TX0) (N := 8) rfl in_X11_punish_X0 tyX0 tyX0_ok nmX0 5 (by decide) (by decide +kernel) (fun _ h => h) (Or.inl rfl) (ty := .int) (by decide +kernel) rfl rfl (Nat.le_of_ble_eq_true rfl) (st_0_5 n0 z6 x2 ((zF z6 5 x2) + (zF z6 457 x1))) e12 dX11_punish_37 (fun H locs hw => ?_)
  refine lv_aload_n C.1 C.2.1 dX11_punish_40 rfl (lv_at hl 2 rfl) ?_
  have g13 : x2 < zn z11 ∧ zK z11 x2 = 0 := by rw [e12]; exact g9
  refine r_get (v := .int (zF z11 4 x2)) C hw g13 (by decide) (Cn := RX0) (T := TX0) (N := 8) rfl in_X11_punish_X0 4 (by decide) (by decide +kernel) (fun _ h => h) rfl dX11_punish_41 ?_
  refine lv_iconst (v := (4 : Int32)) C.1 C.2.1 dX11_punish_44 (by decide) ?_
  refine lv_icmp_lt (tgt := 58) C.1 C.2.1 dX11_punish_45 (by decide) (fun c14 => ?_) (fun c14 => ?_)
  · replace h := brT h c14
    exact tX11_punish_58 C h hF hw (lv_sub hl [0] rfl)
  · replace h := brF h c14
    refine lv_aload_n C.1 C.2.1 dX11_punish_48 rfl (lv_at hl 2 rfl) ?_
    refine lv_aload_n C.1 C.2.1 dX11_punish_49 rfl (lv_at hl 0 rfl) ?_
    obtain ⟨r16, e15, h⟩ := boE h
    have g17 : x0 < zn z6 ∧ zK z6 x0 = 10 := by rw [e7]; exact g4
    have g18 : x0 < zn z11 ∧ zK z11 x0 = 10 := by rw [e12]; exact g17
    refine r_afti hw (r_runV (As := []) (rest := [.ref (n0 + x2)]) C hw (ki := 10) g18 (by decide) rfl (kX11_weekNow l n0 D Y N x0  z11 e15) (cwV 0 C.2.2.2.2.2.1 gX11_punish_X11_weekNow rfl rfl rfl (by decide +kernel) ⟨(Nat.le_of_ble_eq_true rfl), (Nat.le_of_ble_eq_true rfl)⟩) rfl hl.1 rfl (Nat.le_of_ble_eq_true rfl) dX11_punish_50 ⟨(Nat.le_of_ble_eq_true rfl), (Nat.le_of_ble_eq_true rfl)⟩) (fun H locs hw => ?_)
    refine lv_iconst (v := (2 : Int32)) C.1 C.2.1 dX11_punish_53 (by decide) ?_
    refine lv_iadd C.1 C.2.1 dX11_punish_54 ?_
    obtain ⟨z19, e20, h⟩ := bdE h
    refine r_putI C hw g13 (by decide) (Cn := RX0) (T := TX0) (N := 8) rfl in_X11_punish_X0 tyX0 tyX0_ok nmX0 6 (by decide) (by decide +kernel) (fun _ h => h) (Or.inl rfl) (ty := .int) (by decide +kernel) rfl rfl (Nat.le_of_ble_eq_true rfl) (st_0_6 n0 z11 x2 (r16 + (2 : Int32))) e20 dX11_punish_55 (fun H locs hw => ?_)
    exact tX11_punish_58 C h hF hw (lv_sub hl [0] rfl)
set_option maxRecDepth 100000 in
theorem kX11_punish (l : Launch) (n0 : Nat) (D : va_G) (Y : Nat → ClassId) (N : Nat) (x0 : Nat) (x1 : Nat) (x2 : Nat) (z : Hp) {z1 : Hp} (h : fX11_punish N x0 x1 x2 z = some z1) : Met l yX11_punish wsX11_punish rmX11_punish (PreC n0 D Y z [.ref (n0 + x0), .ref (n0 + x1), .ref (n0 + x2)]) (PosV n0 D Y z1) 0 0 (AA n0) := by
  refine Met.ofW (cc := cX11_punish) (maxL := 3) (ret := none) (by decide) rfl ?_
  intro p e s m args below meth c s₁ B hml hv
  obtain ⟨rfl, hR, hK⟩ := hv
  have C : Cx n0 D Y RX11 cX11_punish none 3 wsX11_punish "punish" p s m ([.ref (n0 + x0), .ref (n0 + x1), .ref (n0 + x2)] : List Value).toArray meth c := ⟨B.exec, B.bytes, B.returns, hml, findClass_of_methodNamed B.named, atoms_spec (ws := wsX11_punish) B.pre, B.notSynchronized, (name_of_methodNamed B.named B.method).1, hK⟩
  have hl := lv_entry ([.ref (n0 + x0), .ref (n0 + x1), .ref (n0 + x2)]) (n := 3) (Nat.le_of_ble_eq_true rfl)
  rw [lg_entry_eq]
  generalize (lg_sl ([.ref (n0 + x0), .ref (n0 + x1), .ref (n0 + x2)]) ++ List.replicate (3 - (lg_sl ([.ref (n0 + x0), .ref (n0 + x1), .ref (n0 + x2)])).length) Slot.unset).toArray = ls at hl ⊢
  have hl : lv_has ls 3 [(0, .ref (n0 + x0)), (1, .ref (n0 + x1)), (2, .ref (n0 + x2))] := hl
  exact tX11_punish_0 C h rfl ⟨hR, va_S.rf⟩ hl
theorem in_X11_search_X0 : ∀ w ∈ wsX00, w ∈ wsX11_search := by decide +kernel
theorem in_X11_search_X11 : ∀ w ∈ wsX110, w ∈ wsX11_search := by decide +kernel
theorem in_X11_search_X2 : ∀ w ∈ wsX20, w ∈ wsX11_search := by decide +kernel
theorem in_X11_search_X8 : ∀ w ∈ wsX80, w ∈ wsX11_search := by decide +kernel
abbrev rmX11_search : Room := { frames := 4, cells := 1, slots := 10, locals := 94 }
noncomputable def fX11_search_112 (N : Nat) (x0 : Nat) (x3 : Nat) (z : Hp) : Option (Int32 × Hp) := gd (x3 < zn z ∧ zK z x3 = 7) <| some ((zF z 769 x3), z)
set_option maxHeartbeats 4000000 in
set_option maxRecDepth 100000 in
theorem tX11_search_112 {n0 : Nat} {D : va_G} {Y : Nat → ClassId} {p : Program} {l : Launch} {e : Env} {s : State} {m : MethodId} {args : Array Value} {below : List Frame} {meth : Method} {c : Code} {N : Nat} {fin : Int32 × Hp} {x0 : Nat} {x3 : Nat}  {z : Hp} (C : Cx n0 D Y RX11 cX11_search (some .int) 4 wsX11_search "search" p s m args meth c) {x : (Int32 × Hp)} (h : fX11_search_112 N x0 x3  z = some x) (hF : (fun x => x = fin) x) {H : Heap} {locs : List Loc} {ls : Array Slot} (hw : Wd n0 D Y z s H locs) (hl : lv_has ls 4 [(0, .ref (n0 + x0)), (3, .ref (n0 + x3))]) : W p l e rmX11_search s m args below meth c H locs 1 10 (MQ below (PosI n0 D Y fin.2 fin.1) args s 1 10 (AA n0)) (F0 m 112 ls []) := by
  unfold fX11_search_112 at h
  refine lv_aload_n C.1 C.2.1 dX11_search_112 rfl (lv_at hl 1 rfl) ?_
  obtain ⟨g1, h⟩ := gdE h
  refine r_get (v := .int (zF z 769 x3)) C hw g1 (by decide) (Cn := RX8) (T := TX8) (N := 10) rfl in_X11_search_X8 1 (by decide) (by decide +kernel) (u_same (C.2.2.2.2.2.1 (.sameField "BreadLaw$Search" "BreadLaw$Entry" "number" "I") (by decide +kernel))) rfl dX11_search_113 ?_
  cases h
  replace hF : _ = fin := hF
  subst hF
  exact r_iret C hw dX11_search_116
noncomputable def fX11_search (N : Nat) (x0 : Nat) (z : Hp) : Option (Int32 × Hp) := gd (x0 < zn z ∧ zK z x0 = 10) <| br ((zF z 646 x0) = 0) (some ((-3 : Int32), z)) (bo (zG z 640 x0) fun b4 => gd (b4 < zn z ∧ zK z b4 = 2) <| bo (fX2_isFull N b4 z) fun r6 => br (r6 = 0) (bo (zG z 643 x0) fun b10 => gd (b10 < zn z ∧ zK z b10 = 9) <| bp (fX10_upNext N b10 (zF z 646 x0) z) fun r12 z13 => gd (x0 < zn z13 ∧ zK z13 x0 = 10) <| bo (fX11_bakerAt N x0 r12 z13) fun q16 => cs q16 (some ((-3 : Int32), z13)) (fun b18 => bo (zG z13 643 x0) fun b21 => gd (b21 < zn z13 ∧ zK z13 b21 = 9) <| bo (fX10_moveOn N b21 z13) fun z23 => bd (zal z23 7 0) fun z25 => gd (x0 < zn z25 ∧ zK z25 x0 = 10) <| bo (zG z25 640 x0) fun b30 => gd (b30 < zn z25 ∧ zK z25 b30 = 2) <| bo (fX8_init N (zn z23) (zF z25 132 b30) (zF z25 647 x0) r12 z25) fun z33 => gd (x0 < zn z33 ∧ zK z33 x0 = 10) <| bo (zG z33 640 x0) fun b36 => gd (b36 < zn z33 ∧ zK z33 b36 = 2) <| bo (fX2_enter N b36 (zn z23) z33) fun z38 => gd (b18 < zn z38 ∧ zK z38 b18 = 0) <| bd (zsF z38 3 b18 ((zF z38 3 b18) + (1 : Int32))) fun z41 => gd (x0 < zn z41 ∧ zK z41 x0 = 10) <| bo (fX11_weighLatest N x0 (zn z23) b18 z41) fun z44 => gd ((zn z23) < zn z44 ∧ zK z44 (zn z23) = 7) <| br ((zF z44 456 (zn z23)) = 0) (fX11_search_112 N x0 (zn z23) z44) (gd (x0 < zn z44 ∧ zK z44 x0 = 10) <| bo (fX11_punish N x0 (zn z23) b18 z44) fun z49 => fX11_search_112 N x0 (zn z23) z49))) (some ((-4 : Int32), z)))
set_option maxHeartbeats 4000000 in
set_option maxRecDepth 100000 in
theorem tX11_search_0 {n0 : Nat} {D : va_G} {Y : Nat → ClassId} {p : Program} {l : Launch} {e : Env} {s : State} {m : MethodId} {args : Array Value} {below : List Frame} {meth : Method} {c : Code} {N : Nat} {fin : Int32 × Hp} {x0 : Nat}  {z : Hp} (C : Cx n0 D Y RX11 cX11_search (some .int) 4 wsX11_search "search" p s m args meth c) {x : (Int32 × Hp)} (h : fX11_search N x0  z = some x) (hF : (fun x => x = fin) x) {H : Heap} {locs : List Loc} {ls : Array Slot} (hw : Wd n0 D Y z s H locs) (hl : lv_has ls 4 [(0, .ref (n0 + x0))]) : W p l e rmX11_search s m args below meth c H locs 0 0 (MQ below (PosI n0 D Y fin.2 fin.1) args s 1 10 (AA n0)) (F0 m 0 ls []) := by
  unfold fX11_search at h
  refine lv_aload_n C.1 C.2.1 dX11_search_0 rfl (lv_at hl 0 rfl) ?_
  obtain ⟨g1, h⟩ := gdE h
  refine r_get (v := .int (zF z 646 x0)) C hw g1 (by decide) (Cn := RX11) (T := TX11) (N := 12) rfl in_X11_search_X11 6 (by decide) (by decide +kernel) (fun _ h => h) rfl dX11_search_1 ?_
  refine lv_if_ne (tgt := 10) C.1 C.2.1 dX11_search_4 (by decide) (fun c2 => ?_) (fun c2 => ?_)
  · replace h := brF h c2
    refine lv_aload_n C.1 C.2.1 dX11_search_10 rfl (lv_at hl 0 rfl) ?_
    refine r_get (v := rv n0 (zG z 640 x0)) C hw g1 (by decide) (Cn := RX11) (T := TX11) (N := 12) rfl in_X11_search_X11 0 (by decide) (by decide +kernel) (fun _ h => h) rfl dX11_search_11 ?_
    obtain ⟨b4, e3, h⟩ := boE h
    refine r_topr e3 ?_
    obtain ⟨g7, h⟩ := gdE h
    obtain ⟨r6, e5, h⟩ := boE h
    refine r_afti hw (r_runV (As := []) (rest := []) C hw (ki := 2) g7 (by decide) rfl (kX2_isFull l n0 D Y N b4  z e5) (cwV 0 C.2.2.2.2.2.1 gX11_search_X2_isFull rfl rfl rfl (by decide +kernel) ⟨(Nat.le_of_ble_eq_true rfl), (Nat.le_of_ble_eq_true rfl)⟩) rfl hl.1 rfl (Nat.le_of_ble_eq_true rfl) dX11_search_14 ⟨(Nat.le_of_ble_eq_true rfl), (Nat.le_of_ble_eq_true rfl)⟩) (fun H locs hw => ?_)
    refine lv_if_eq (tgt := 23) C.1 C.2.1 dX11_search_17 (by decide) (fun c8 => ?_) (fun c8 => ?_)
    · replace h := brT h c8
      refine lv_aload_n C.1 C.2.1 dX11_search_23 rfl (lv_at hl 0 rfl) ?_
      refine r_get (v := rv n0 (zG z 643 x0)) C hw g1 (by decide) (Cn := RX11) (T := TX11) (N := 12) rfl in_X11_search_X11 3 (by decide) (by decide +kernel) (fun _ h => h) rfl dX11_search_24 ?_
      obtain ⟨b10, e9, h⟩ := boE h
      refine r_topr e9 ?_
      refine lv_aload_n C.1 C.2.1 dX11_search_27 rfl (lv_at hl 0 rfl) ?_
      refine r_get (v := .int (zF z 646 x0)) C hw g1 (by decide) (Cn := RX11) (T := TX11) (N := 12) rfl in_X11_search_X11 6 (by decide) (by decide +kernel) (fun _ h => h) rfl dX11_search_28 ?_
      obtain ⟨g14, h⟩ := gdE h
      obtain ⟨r12, z13, e11, h⟩ := bpE h
      refine r_afti hw (r_runV (As := [.int (zF z 646 x0)]) (rest := []) C hw (ki := 9) g14 (by decide) rfl (kX10_upNext l n0 D Y N b10 (zF z 646 x0) z e11) (cwV 1 C.2.2.2.2.2.1 gX11_search_X10_upNext rfl rfl rfl (by decide +kernel) ⟨(Nat.le_of_ble_eq_true rfl), (Nat.le_of_ble_eq_true rfl)⟩) rfl hl.1 rfl (Nat.le_of_ble_eq_true rfl) dX11_search_31 ⟨(Nat.le_of_ble_eq_true rfl), (Nat.le_of_ble_eq_true rfl)⟩) (fun H locs hw => ?_)
      refine lv_istore_n (i := 1) (lv' := [(1, .int r12), (0, .ref (n0 + x0))]) C.1 C.2.1 dX11_search_34 rfl hl (by decide) rfl (fun ls hl => ?_)
      refine lv_aload_n C.1 C.2.1 dX11_search_35 rfl (lv_at hl 1 rfl) ?_
      refine lv_iload_n C.1 C.2.1 dX11_search_36 rfl (lv_at hl 0 rfl) ?_
      obtain ⟨g17, h⟩ := gdE h
      obtain ⟨q16, e15, h⟩ := boE h
      refine r_aftq hw (r_runV (As := [.int r12]) (rest := []) C hw (ki := 10) g17 (by decide) rfl (kX11_bakerAt l n0 D Y N x0 r12 z13 e15) (cwV 1 C.2.2.2.2.2.1 gX11_search_X11_bakerAt rfl rfl rfl (by decide +kernel) ⟨(Nat.le_of_ble_eq_true rfl), (Nat.le_of_ble_eq_true rfl)⟩) rfl hl.1 rfl (Nat.le_of_ble_eq_true rfl) dX11_search_37 ⟨(Nat.le_of_ble_eq_true rfl), (Nat.le_of_ble_eq_true rfl)⟩) (fun H locs hw => ?_)
      refine r_astore_n (i := 2) (r := q16) (lv' := [(2, rv n0 q16), (1, .int r12), (0, .ref (n0 + x0))]) C dX11_search_40 rfl hl (by decide) rfl (fun ls hl => ?_)
      refine r_aload_n (r := q16) C dX11_search_41 rfl (lv_at hl 0 rfl) ?_
      refine r_ifnonnull (tgt := 48) C dX11_search_42 (by decide) (fun c19 => ?_) (fun b18 c19 => ?_)
      · subst c19
        replace h := csN h
        refine lv_bipush (v := (-3 : Int32)) C.1 C.2.1 dX11_search_45 (by decide) ?_
        cases h
        replace hF : _ = fin := hF
        subst hF
        refine W.widen (k := 1) (n := 10) (by decide) (by decide) ?_
        exact r_iret C hw dX11_search_47
      · subst c19
        replace h := csS h
        refine lv_aload_n C.1 C.2.1 dX11_search_48 rfl (lv_at hl 2 rfl) ?_
        refine r_get (v := rv n0 (zG z13 643 x0)) C hw g17 (by decide) (Cn := RX11) (T := TX11) (N := 12) rfl in_X11_search_X11 3 (by decide) (by decide +kernel) (fun _ h => h) rfl dX11_search_49 ?_
        obtain ⟨b21, e20, h⟩ := boE h
        refine r_topr e20 ?_
        obtain ⟨g24, h⟩ := gdE h
        obtain ⟨z23, e22, h⟩ := boE h
        refine r_aftv hw (r_runV (As := []) (rest := []) C hw (ki := 9) g24 (by decide) rfl (kX10_moveOn l n0 D Y N b21  z13 e22) (cwV 0 C.2.2.2.2.2.1 gX11_search_X10_moveOn rfl rfl rfl (by decide +kernel) ⟨(Nat.le_of_ble_eq_true rfl), (Nat.le_of_ble_eq_true rfl)⟩) rfl hl.1 rfl (Nat.le_of_ble_eq_true rfl) dX11_search_52 ⟨(Nat.le_of_ble_eq_true rfl), (Nat.le_of_ble_eq_true rfl)⟩) (fun H locs hw => ?_)
        obtain ⟨z25, e26, h⟩ := bdE h
        refine r_new C hw 7 (by decide) (Cn := RX8) (T := TX8) (N := 10) rfl in_X11_search_X8 tyX8 tyX8_ok (by decide +kernel) (by decide +kernel) (by decide +kernel) (nw_7 n0 z23) (by decide) (by decide) dX11_search_55 (fun H hw => ?_)
        rw [← e26] at hw
        have g27 : (zn z23) < zn z25 ∧ zK z25 (zn z23) = 7 := by rw [e26]; exact ok_new _ _ _
        refine lv_dup C.1 C.2.1 dX11_search_58 rfl ?_
        refine lv_aload_n C.1 C.2.1 dX11_search_59 rfl (lv_at hl 2 rfl) ?_
        obtain ⟨g28, h⟩ := gdE h
        refine r_get (v := rv n0 (zG z25 640 x0)) C hw g28 (by decide) (Cn := RX11) (T := TX11) (N := 12) rfl in_X11_search_X11 0 (by decide) (by decide +kernel) (fun _ h => h) rfl dX11_search_60 ?_
        obtain ⟨b30, e29, h⟩ := boE h
        refine r_topr e29 ?_
        obtain ⟨g31, h⟩ := gdE h
        refine r_get (v := .int (zF z25 132 b30)) C hw g31 (by decide) (Cn := RX2) (T := TX2) (N := 7) rfl in_X11_search_X2 4 (by decide) (by decide +kernel) (fun _ h => h) rfl dX11_search_63 ?_
        refine lv_aload_n C.1 C.2.1 dX11_search_66 rfl (lv_at hl 2 rfl) ?_
        refine r_get (v := .int (zF z25 647 x0)) C hw g28 (by decide) (Cn := RX11) (T := TX11) (N := 12) rfl in_X11_search_X11 7 (by decide) (by decide +kernel) (fun _ h => h) rfl dX11_search_67 ?_
        refine lv_iload_n C.1 C.2.1 dX11_search_70 rfl (lv_at hl 1 rfl) ?_
        obtain ⟨z33, e32, h⟩ := boE h
        refine r_aftv hw (r_runI (As := [.int (zF z25 132 b30), .int (zF z25 647 x0), .int r12]) (rest := [.ref (n0 + (zn z23))]) C hw (kX8_init l n0 D Y N (zn z23) (zF z25 132 b30) (zF z25 647 x0) r12 z25 e32) (cwI 3 C.2.2.2.2.2.1 gX11_search_X8_init rfl rfl rfl (C.2.2.2.2.2.1 (.initialized RX8) (by decide +kernel)) (C.2.2.2.2.2.1 (.methodLink RX11 193 yX8_init) (by decide +kernel)) (C.2.2.2.2.2.1 (.instanceMethod yX8_init) (by decide +kernel)) rfl (by decide +kernel) ⟨(Nat.le_of_ble_eq_true rfl), (Nat.le_of_ble_eq_true rfl)⟩) rfl hl.1 rfl (Nat.le_of_ble_eq_true rfl) dX11_search_71 ⟨(Nat.le_of_ble_eq_true rfl), (Nat.le_of_ble_eq_true rfl)⟩) (fun H locs hw => ?_)
        refine lv_astore_n (i := 3) (lv' := [(3, .ref (n0 + (zn z23))), (2, .ref (n0 + b18)), (1, .int r12), (0, .ref (n0 + x0))]) C.1 C.2.1 dX11_search_74 rfl hl (by decide) rfl (fun ls hl => ?_)
        refine lv_aload_n C.1 C.2.1 dX11_search_75 rfl (lv_at hl 3 rfl) ?_
        obtain ⟨g34, h⟩ := gdE h
        refine r_get (v := rv n0 (zG z33 640 x0)) C hw g34 (by decide) (Cn := RX11) (T := TX11) (N := 12) rfl in_X11_search_X11 0 (by decide) (by decide +kernel) (fun _ h => h) rfl dX11_search_76 ?_
        obtain ⟨b36, e35, h⟩ := boE h
        refine r_topr e35 ?_
        refine lv_aload_n C.1 C.2.1 dX11_search_79 rfl (lv_at hl 0 rfl) ?_
        obtain ⟨g39, h⟩ := gdE h
        obtain ⟨z38, e37, h⟩ := boE h
        refine r_aftv hw (r_runV (As := [.ref (n0 + (zn z23))]) (rest := []) C hw (ki := 2) g39 (by decide) rfl (kX2_enter l n0 D Y N b36 (zn z23) z33 e37) (cwV 1 C.2.2.2.2.2.1 gX11_search_X2_enter rfl rfl rfl (by decide +kernel) ⟨(Nat.le_of_ble_eq_true rfl), (Nat.le_of_ble_eq_true rfl)⟩) rfl hl.1 rfl (Nat.le_of_ble_eq_true rfl) dX11_search_80 ⟨(Nat.le_of_ble_eq_true rfl), (Nat.le_of_ble_eq_true rfl)⟩) (fun H locs hw => ?_)
        refine lv_aload_n C.1 C.2.1 dX11_search_83 rfl (lv_at hl 1 rfl) ?_
        refine lv_dup C.1 C.2.1 dX11_search_84 rfl ?_
        obtain ⟨g40, h⟩ := gdE h
        refine r_get (v := .int (zF z38 3 b18)) C hw g40 (by decide) (Cn := RX0) (T := TX0) (N := 8) rfl in_X11_search_X0 3 (by decide) (by decide +kernel) (fun _ h => h) rfl dX11_search_85 ?_
        refine lv_iconst (v := (1 : Int32)) C.1 C.2.1 dX11_search_88 (by decide) ?_
        refine lv_iadd C.1 C.2.1 dX11_search_89 ?_
        obtain ⟨z41, e42, h⟩ := bdE h
        refine r_putI C hw g40 (by decide) (Cn := RX0) (T := TX0) (N := 8) rfl in_X11_search_X0 tyX0 tyX0_ok nmX0 3 (by decide) (by decide +kernel) (fun _ h => h) (Or.inl rfl) (ty := .int) (by decide +kernel) rfl rfl (Nat.le_of_ble_eq_true rfl) (st_0_3 n0 z38 b18 ((zF z38 3 b18) + (1 : Int32))) e42 dX11_search_90 (fun H locs hw => ?_)
        refine lv_aload_n C.1 C.2.1 dX11_search_93 rfl (lv_at hl 3 rfl) ?_
        refine lv_aload_n C.1 C.2.1 dX11_search_94 rfl (lv_at hl 0 rfl) ?_
        refine lv_aload_n C.1 C.2.1 dX11_search_95 rfl (lv_at hl 1 rfl) ?_
        obtain ⟨g45, h⟩ := gdE h
        obtain ⟨z44, e43, h⟩ := boE h
        refine r_aftv hw (r_runV (As := [.ref (n0 + (zn z23)), .ref (n0 + b18)]) (rest := []) C hw (ki := 10) g45 (by decide) rfl (kX11_weighLatest l n0 D Y N x0 (zn z23) b18 z41 e43) (cwV 2 C.2.2.2.2.2.1 gX11_search_X11_weighLatest rfl rfl rfl (by decide +kernel) ⟨(Nat.le_of_ble_eq_true rfl), (Nat.le_of_ble_eq_true rfl)⟩) rfl hl.1 rfl (Nat.le_of_ble_eq_true rfl) dX11_search_96 ⟨(Nat.le_of_ble_eq_true rfl), (Nat.le_of_ble_eq_true rfl)⟩) (fun H locs hw => ?_)
        refine lv_aload_n C.1 C.2.1 dX11_search_99 rfl (lv_at hl 0 rfl) ?_
        obtain ⟨g46, h⟩ := gdE h
        refine r_get (v := .int (zF z44 456 (zn z23))) C hw g46 (by decide) (Cn := RX8) (T := TX8) (N := 10) rfl in_X11_search_X8 8 (by decide) (by decide +kernel) (fun _ h => h) rfl dX11_search_100 ?_
        refine lv_if_eq (tgt := 112) C.1 C.2.1 dX11_search_103 (by decide) (fun c47 => ?_) (fun c47 => ?_)
        · replace h := brT h c47
          exact tX11_search_112 C h hF hw (lv_sub hl [3, 0] rfl)
        · replace h := brF h c47
          refine lv_aload_n C.1 C.2.1 dX11_search_106 rfl (lv_at hl 3 rfl) ?_
          refine lv_aload_n C.1 C.2.1 dX11_search_107 rfl (lv_at hl 0 rfl) ?_
          refine lv_aload_n C.1 C.2.1 dX11_search_108 rfl (lv_at hl 1 rfl) ?_
          obtain ⟨g50, h⟩ := gdE h
          obtain ⟨z49, e48, h⟩ := boE h
          refine r_aftv hw (r_runV (As := [.ref (n0 + (zn z23)), .ref (n0 + b18)]) (rest := []) C hw (ki := 10) g50 (by decide) rfl (kX11_punish l n0 D Y N x0 (zn z23) b18 z44 e48) (cwV 2 C.2.2.2.2.2.1 gX11_search_X11_punish rfl rfl rfl (by decide +kernel) ⟨(Nat.le_of_ble_eq_true rfl), (Nat.le_of_ble_eq_true rfl)⟩) rfl hl.1 rfl (Nat.le_of_ble_eq_true rfl) dX11_search_109 ⟨(Nat.le_of_ble_eq_true rfl), (Nat.le_of_ble_eq_true rfl)⟩) (fun H locs hw => ?_)
          exact tX11_search_112 C h hF hw (lv_sub hl [3, 0] rfl)
    · replace h := brF h c8
      refine lv_bipush (v := (-4 : Int32)) C.1 C.2.1 dX11_search_20 (by decide) ?_
      cases h
      replace hF : _ = fin := hF
      subst hF
      refine W.widen (k := 1) (n := 10) (by decide) (by decide) ?_
      exact r_iret C hw dX11_search_22
  · replace h := brT h c2
    refine lv_bipush (v := (-3 : Int32)) C.1 C.2.1 dX11_search_7 (by decide) ?_
    cases h
    replace hF : _ = fin := hF
    subst hF
    refine W.widen (k := 1) (n := 10) (by decide) (by decide) ?_
    exact r_iret C hw dX11_search_9
set_option maxRecDepth 100000 in
theorem kX11_search (l : Launch) (n0 : Nat) (D : va_G) (Y : Nat → ClassId) (N : Nat) (x0 : Nat) (z : Hp) {r : Int32} {z1 : Hp} (h : fX11_search N x0 z = some (r, z1)) : Met l yX11_search wsX11_search rmX11_search (PreC n0 D Y z [.ref (n0 + x0)]) (PosI n0 D Y z1 r) 1 10 (AA n0) := by
  refine Met.ofW (cc := cX11_search) (maxL := 4) (ret := (some .int)) (by decide) rfl ?_
  intro p e s m args below meth c s₁ B hml hv
  obtain ⟨rfl, hR, hK⟩ := hv
  have C : Cx n0 D Y RX11 cX11_search (some .int) 4 wsX11_search "search" p s m ([.ref (n0 + x0)] : List Value).toArray meth c := ⟨B.exec, B.bytes, B.returns, hml, findClass_of_methodNamed B.named, atoms_spec (ws := wsX11_search) B.pre, B.notSynchronized, (name_of_methodNamed B.named B.method).1, hK⟩
  have hl := lv_entry ([.ref (n0 + x0)]) (n := 4) (Nat.le_of_ble_eq_true rfl)
  rw [lg_entry_eq]
  generalize (lg_sl ([.ref (n0 + x0)]) ++ List.replicate (4 - (lg_sl ([.ref (n0 + x0)])).length) Slot.unset).toArray = ls at hl ⊢
  have hl : lv_has ls 4 [(0, .ref (n0 + x0))] := hl
  exact tX11_search_0 C h rfl ⟨hR, va_S.rf⟩ hl
theorem in_X11_turn_X11 : ∀ w ∈ wsX110, w ∈ wsX11_turn := by decide +kernel
abbrev rmX11_turn : Room := { frames := 2, cells := 0, slots := 0, locals := 45 }
noncomputable def fX11_turn (N : Nat) (x0 : Nat) (z : Hp) : Option (Int32 × Hp) := gd (x0 < zn z ∧ zK z x0 = 10) <| br ((zF z 646 x0) = 0) (some ((-3 : Int32), z)) (bo (zG z 643 x0) fun b4 => gd (b4 < zn z ∧ zK z b4 = 9) <| bp (fX10_upNext N b4 (zF z 646 x0) z) fun r6 z7 => some (r6, z7))
set_option maxHeartbeats 4000000 in
set_option maxRecDepth 100000 in
theorem tX11_turn_0 {n0 : Nat} {D : va_G} {Y : Nat → ClassId} {p : Program} {l : Launch} {e : Env} {s : State} {m : MethodId} {args : Array Value} {below : List Frame} {meth : Method} {c : Code} {N : Nat} {fin : Int32 × Hp} {x0 : Nat}  {z : Hp} (C : Cx n0 D Y RX11 cX11_turn (some .int) 1 wsX11_turn "turn" p s m args meth c) {x : (Int32 × Hp)} (h : fX11_turn N x0  z = some x) (hF : (fun x => x = fin) x) {H : Heap} {locs : List Loc} {ls : Array Slot} (hw : Wd n0 D Y z s H locs) (hl : lv_has ls 1 [(0, .ref (n0 + x0))]) : W p l e rmX11_turn s m args below meth c H locs 0 0 (MQ below (PosI n0 D Y fin.2 fin.1) args s 0 0 (AA n0)) (F0 m 0 ls []) := by
  unfold fX11_turn at h
  refine lv_aload_n C.1 C.2.1 dX11_turn_0 rfl (lv_at hl 0 rfl) ?_
  obtain ⟨g1, h⟩ := gdE h
  refine r_get (v := .int (zF z 646 x0)) C hw g1 (by decide) (Cn := RX11) (T := TX11) (N := 12) rfl in_X11_turn_X11 6 (by decide) (by decide +kernel) (fun _ h => h) rfl dX11_turn_1 ?_
  refine lv_if_ne (tgt := 12) C.1 C.2.1 dX11_turn_4 (by decide) (fun c2 => ?_) (fun c2 => ?_)
  · replace h := brF h c2
    refine lv_aload_n C.1 C.2.1 dX11_turn_12 rfl (lv_at hl 0 rfl) ?_
    refine r_get (v := rv n0 (zG z 643 x0)) C hw g1 (by decide) (Cn := RX11) (T := TX11) (N := 12) rfl in_X11_turn_X11 3 (by decide) (by decide +kernel) (fun _ h => h) rfl dX11_turn_13 ?_
    obtain ⟨b4, e3, h⟩ := boE h
    refine r_topr e3 ?_
    refine lv_aload_n C.1 C.2.1 dX11_turn_16 rfl (lv_at hl 0 rfl) ?_
    refine r_get (v := .int (zF z 646 x0)) C hw g1 (by decide) (Cn := RX11) (T := TX11) (N := 12) rfl in_X11_turn_X11 6 (by decide) (by decide +kernel) (fun _ h => h) rfl dX11_turn_17 ?_
    obtain ⟨g8, h⟩ := gdE h
    obtain ⟨r6, z7, e5, h⟩ := bpE h
    refine r_afti hw (r_runV (As := [.int (zF z 646 x0)]) (rest := []) C hw (ki := 9) g8 (by decide) rfl (kX10_upNext l n0 D Y N b4 (zF z 646 x0) z e5) (cwV 1 C.2.2.2.2.2.1 gX11_turn_X10_upNext rfl rfl rfl (by decide +kernel) ⟨(Nat.le_of_ble_eq_true rfl), (Nat.le_of_ble_eq_true rfl)⟩) rfl hl.1 rfl (Nat.le_of_ble_eq_true rfl) dX11_turn_20 ⟨(Nat.le_of_ble_eq_true rfl), (Nat.le_of_ble_eq_true rfl)⟩) (fun H locs hw => ?_)
    cases h
    replace hF : _ = fin := hF
    subst hF
    exact r_iret C hw dX11_turn_23
  · replace h := brT h c2
    refine lv_bipush (v := (-3 : Int32)) C.1 C.2.1 dX11_turn_7 (by decide) ?_
    refine lv_goto (tgt := 23) C.1 C.2.1 dX11_turn_9 (by decide) ?_
    cases h
    replace hF : _ = fin := hF
    subst hF
    exact r_iret C hw dX11_turn_23
set_option maxRecDepth 100000 in
theorem kX11_turn (l : Launch) (n0 : Nat) (D : va_G) (Y : Nat → ClassId) (N : Nat) (x0 : Nat) (z : Hp) {r : Int32} {z1 : Hp} (h : fX11_turn N x0 z = some (r, z1)) : Met l yX11_turn wsX11_turn rmX11_turn (PreC n0 D Y z [.ref (n0 + x0)]) (PosI n0 D Y z1 r) 0 0 (AA n0) := by
  refine Met.ofW (cc := cX11_turn) (maxL := 1) (ret := (some .int)) (by decide) rfl ?_
  intro p e s m args below meth c s₁ B hml hv
  obtain ⟨rfl, hR, hK⟩ := hv
  have C : Cx n0 D Y RX11 cX11_turn (some .int) 1 wsX11_turn "turn" p s m ([.ref (n0 + x0)] : List Value).toArray meth c := ⟨B.exec, B.bytes, B.returns, hml, findClass_of_methodNamed B.named, atoms_spec (ws := wsX11_turn) B.pre, B.notSynchronized, (name_of_methodNamed B.named B.method).1, hK⟩
  have hl := lv_entry ([.ref (n0 + x0)]) (n := 1) (Nat.le_of_ble_eq_true rfl)
  rw [lg_entry_eq]
  generalize (lg_sl ([.ref (n0 + x0)]) ++ List.replicate (1 - (lg_sl ([.ref (n0 + x0)])).length) Slot.unset).toArray = ls at hl ⊢
  have hl : lv_has ls 1 [(0, .ref (n0 + x0))] := hl
  exact tX11_turn_0 C h rfl ⟨hR, va_S.rf⟩ hl
theorem in_X11_rules_X11 : ∀ w ∈ wsX110, w ∈ wsX11_rules := by decide +kernel
abbrev rmX11_rules : Room := { frames := 1, cells := 0, slots := 0, locals := 22 }
noncomputable def fX11_rules_20 (N : Nat) (x0 : Nat) (z : Hp) : Option (Int32 × Hp) := some ((-2 : Int32), z)
set_option maxHeartbeats 4000000 in
set_option maxRecDepth 100000 in
theorem tX11_rules_20 {n0 : Nat} {D : va_G} {Y : Nat → ClassId} {p : Program} {l : Launch} {e : Env} {s : State} {m : MethodId} {args : Array Value} {below : List Frame} {meth : Method} {c : Code} {N : Nat} {fin : Int32 × Hp} {x0 : Nat}  {z : Hp} (C : Cx n0 D Y RX11 cX11_rules (some .int) 3 wsX11_rules "rules" p s m args meth c) {x : (Int32 × Hp)} (h : fX11_rules_20 N x0  z = some x) (hF : (fun x => x = fin) x) {H : Heap} {locs : List Loc} {ls : Array Slot} (hw : Wd n0 D Y z s H locs) (hl : lv_has ls 3 [(0, .ref (n0 + x0))]) : W p l e rmX11_rules s m args below meth c H locs 0 0 (MQ below (PosI n0 D Y fin.2 fin.1) args s 0 0 (AA n0)) (F0 m 20 ls []) := by
  unfold fX11_rules_20 at h
  refine lv_bipush (v := (-2 : Int32)) C.1 C.2.1 dX11_rules_20 (by decide) ?_
  cases h
  replace hF : _ = fin := hF
  subst hF
  exact r_iret C hw dX11_rules_22
noncomputable def fX11_rules (N : Nat) (x0 : Nat) (x1 : Int32) (x2 : Int32) (z : Hp) : Option (Int32 × Hp) := bo (fX11_isOutside N x1 (0 : Int32) (5 : Int32) z) fun r2 => br (r2 = 0) (bo (fX11_isOutside N x2 (0 : Int32) (1000 : Int32) z) fun r5 => br (r5 = 0) (gd (x0 < zn z ∧ zK z x0 = 10) <| bd (zsF z 649 x0 x1) fun z7 => bd (zsF z7 650 x0 x2) fun z10 => some ((1 : Int32), z10)) (fX11_rules_20 N x0 z)) (fX11_rules_20 N x0 z)
set_option maxHeartbeats 4000000 in
set_option maxRecDepth 100000 in
theorem tX11_rules_0 {n0 : Nat} {D : va_G} {Y : Nat → ClassId} {p : Program} {l : Launch} {e : Env} {s : State} {m : MethodId} {args : Array Value} {below : List Frame} {meth : Method} {c : Code} {N : Nat} {fin : Int32 × Hp} {x0 : Nat} {x1 : Int32} {x2 : Int32}  {z : Hp} (C : Cx n0 D Y RX11 cX11_rules (some .int) 3 wsX11_rules "rules" p s m args meth c) {x : (Int32 × Hp)} (h : fX11_rules N x0 x1 x2  z = some x) (hF : (fun x => x = fin) x) {H : Heap} {locs : List Loc} {ls : Array Slot} (hw : Wd n0 D Y z s H locs) (hl : lv_has ls 3 [(0, .ref (n0 + x0)), (1, .int x1), (2, .int x2)]) : W p l e rmX11_rules s m args below meth c H locs 0 0 (MQ below (PosI n0 D Y fin.2 fin.1) args s 0 0 (AA n0)) (F0 m 0 ls []) := by
  unfold fX11_rules at h
  refine lv_iload_n C.1 C.2.1 dX11_rules_0 rfl (lv_at hl 1 rfl) ?_
  refine lv_iconst (v := (0 : Int32)) C.1 C.2.1 dX11_rules_1 (by decide) ?_
  refine lv_iconst (v := (5 : Int32)) C.1 C.2.1 dX11_rules_2 (by decide) ?_
  obtain ⟨r2, e1, h⟩ := boE h
  refine r_afti hw (r_runS (As := [.int x1, .int (0 : Int32), .int (5 : Int32)]) (rest := []) C hw (kX11_isOutside l n0 D Y N x1 (0 : Int32) (5 : Int32) z e1) (va_cwS 3 C.2.2.2.2.2.1 gX11_rules_X11_isOutside rfl rfl rfl (by decide +kernel) ⟨(Nat.le_of_ble_eq_true rfl), (Nat.le_of_ble_eq_true rfl)⟩) rfl hl.1 rfl (Nat.le_of_ble_eq_true rfl) dX11_rules_3 ⟨(Nat.le_of_ble_eq_true rfl), (Nat.le_of_ble_eq_true rfl)⟩) (fun H locs hw => ?_)
  refine lv_if_ne (tgt := 20) C.1 C.2.1 dX11_rules_6 (by decide) (fun c3 => ?_) (fun c3 => ?_)
  · replace h := brF h c3
    exact tX11_rules_20 C h hF hw (lv_sub hl [0] rfl)
  · replace h := brT h c3
    refine lv_iload_n C.1 C.2.1 dX11_rules_9 rfl (lv_at hl 2 rfl) ?_
    refine lv_iconst (v := (0 : Int32)) C.1 C.2.1 dX11_rules_10 (by decide) ?_
    refine lv_sipush (v := (1000 : Int32)) C.1 C.2.1 dX11_rules_11 (by decide) ?_
    obtain ⟨r5, e4, h⟩ := boE h
    refine r_afti hw (r_runS (As := [.int x2, .int (0 : Int32), .int (1000 : Int32)]) (rest := []) C hw (kX11_isOutside l n0 D Y N x2 (0 : Int32) (1000 : Int32) z e4) (va_cwS 3 C.2.2.2.2.2.1 gX11_rules_X11_isOutside rfl rfl rfl (by decide +kernel) ⟨(Nat.le_of_ble_eq_true rfl), (Nat.le_of_ble_eq_true rfl)⟩) rfl hl.1 rfl (Nat.le_of_ble_eq_true rfl) dX11_rules_14 ⟨(Nat.le_of_ble_eq_true rfl), (Nat.le_of_ble_eq_true rfl)⟩) (fun H locs hw => ?_)
    refine lv_if_eq (tgt := 23) C.1 C.2.1 dX11_rules_17 (by decide) (fun c6 => ?_) (fun c6 => ?_)
    · replace h := brT h c6
      refine lv_aload_n C.1 C.2.1 dX11_rules_23 rfl (lv_at hl 0 rfl) ?_
      refine lv_iload_n C.1 C.2.1 dX11_rules_24 rfl (lv_at hl 1 rfl) ?_
      obtain ⟨g9, h⟩ := gdE h
      obtain ⟨z7, e8, h⟩ := bdE h
      refine r_putI C hw g9 (by decide) (Cn := RX11) (T := TX11) (N := 12) rfl in_X11_rules_X11 tyX11 tyX11_ok nmX11 9 (by decide) (by decide +kernel) (fun _ h => h) (Or.inl rfl) (ty := .int) (by decide +kernel) rfl rfl (Nat.le_of_ble_eq_true rfl) (st_10_9 n0 z x0 x1) e8 dX11_rules_25 (fun H locs hw => ?_)
      refine lv_aload_n C.1 C.2.1 dX11_rules_28 rfl (lv_at hl 0 rfl) ?_
      refine lv_iload_n C.1 C.2.1 dX11_rules_29 rfl (lv_at hl 2 rfl) ?_
      have g12 : x0 < zn z7 ∧ zK z7 x0 = 10 := by rw [e8]; exact g9
      obtain ⟨z10, e11, h⟩ := bdE h
      refine r_putI C hw g12 (by decide) (Cn := RX11) (T := TX11) (N := 12) rfl in_X11_rules_X11 tyX11 tyX11_ok nmX11 10 (by decide) (by decide +kernel) (fun _ h => h) (Or.inl rfl) (ty := .int) (by decide +kernel) rfl rfl (Nat.le_of_ble_eq_true rfl) (st_10_10 n0 z7 x0 x2) e11 dX11_rules_30 (fun H locs hw => ?_)
      refine lv_iconst (v := (1 : Int32)) C.1 C.2.1 dX11_rules_33 (by decide) ?_
      cases h
      replace hF : _ = fin := hF
      subst hF
      exact r_iret C hw dX11_rules_34
    · replace h := brF h c6
      exact tX11_rules_20 C h hF hw (lv_sub hl [0] rfl)
set_option maxRecDepth 100000 in
theorem kX11_rules (l : Launch) (n0 : Nat) (D : va_G) (Y : Nat → ClassId) (N : Nat) (x0 : Nat) (x1 : Int32) (x2 : Int32) (z : Hp) {r : Int32} {z1 : Hp} (h : fX11_rules N x0 x1 x2 z = some (r, z1)) : Met l yX11_rules wsX11_rules rmX11_rules (PreC n0 D Y z [.ref (n0 + x0), .int x1, .int x2]) (PosI n0 D Y z1 r) 0 0 (AA n0) := by
  refine Met.ofW (cc := cX11_rules) (maxL := 3) (ret := (some .int)) (by decide) rfl ?_
  intro p e s m args below meth c s₁ B hml hv
  obtain ⟨rfl, hR, hK⟩ := hv
  have C : Cx n0 D Y RX11 cX11_rules (some .int) 3 wsX11_rules "rules" p s m ([.ref (n0 + x0), .int x1, .int x2] : List Value).toArray meth c := ⟨B.exec, B.bytes, B.returns, hml, findClass_of_methodNamed B.named, atoms_spec (ws := wsX11_rules) B.pre, B.notSynchronized, (name_of_methodNamed B.named B.method).1, hK⟩
  have hl := lv_entry ([.ref (n0 + x0), .int x1, .int x2]) (n := 3) (Nat.le_of_ble_eq_true rfl)
  rw [lg_entry_eq]
  generalize (lg_sl ([.ref (n0 + x0), .int x1, .int x2]) ++ List.replicate (3 - (lg_sl ([.ref (n0 + x0), .int x1, .int x2])).length) Slot.unset).toArray = ls at hl ⊢
  have hl : lv_has ls 3 [(0, .ref (n0 + x0)), (1, .int x1), (2, .int x2)] := hl
  exact tX11_rules_0 C h rfl ⟨hR, va_S.rf⟩ hl
theorem in_X11_record_X1 : ∀ w ∈ wsX10, w ∈ wsX11_record := by decide +kernel
theorem in_X11_record_X11 : ∀ w ∈ wsX110, w ∈ wsX11_record := by decide +kernel
theorem in_X11_record_X6 : ∀ w ∈ wsX60, w ∈ wsX11_record := by decide +kernel
theorem in_X11_record_X8 : ∀ w ∈ wsX80, w ∈ wsX11_record := by decide +kernel
abbrev rmX11_record : Room := { frames := 1, cells := 0, slots := 0, locals := 21 }
noncomputable def fX11_record (N : Nat) (x0 : Nat) (x1 : Int32) (x2 : Int32) (z : Hp) : Option (Int32) := gd (x0 < zn z ∧ zK z x0 = 10) <| bo (zG z 640 x0) fun b3 => gd (b3 < zn z ∧ zK z b3 = 2) <| bo (fX2_entryAt N b3 x1 z) fun q5 => cs q5 (some (-1 : Int32)) (fun b7 => br (x2 = (0 : Int32)) (gd (b7 < zn z ∧ (zK z b7 = 1 ∨ zK z b7 = 5 ∨ zK z b7 = 7)) <| some (zF z 768 b7)) <| br (x2 = (1 : Int32)) (gd (b7 < zn z ∧ (zK z b7 = 1 ∨ zK z b7 = 5 ∨ zK z b7 = 7)) <| bo (fX3_week N b7 z) fun r13 => some r13) <| br (x2 = (2 : Int32)) (gd (b7 < zn z ∧ (zK z b7 = 1 ∨ zK z b7 = 5 ∨ zK z b7 = 7)) <| some (irm (zF z 770 b7) (168 : Int32))) <| br (x2 = (3 : Int32)) (gd (b7 < zn z ∧ (zK z b7 = 1 ∨ zK z b7 = 5 ∨ zK z b7 = 7)) <| some (zF z 771 b7)) <| some (-2 : Int32))
set_option maxHeartbeats 4000000 in
set_option maxRecDepth 100000 in
theorem tX11_record_0 {n0 : Nat} {D : va_G} {Y : Nat → ClassId} {p : Program} {l : Launch} {e : Env} {s : State} {m : MethodId} {args : Array Value} {below : List Frame} {meth : Method} {c : Code} {N : Nat} {fin : Int32} {x0 : Nat} {x1 : Int32} {x2 : Int32}  {z : Hp} (C : Cx n0 D Y RX11 cX11_record (some .int) 4 wsX11_record "record" p s m args meth c) {x : (Int32)} (h : fX11_record N x0 x1 x2  z = some x) (hF : (fun x => x = fin) x) {H : Heap} {locs : List Loc} {ls : Array Slot} (hw : Wd n0 D Y z s H locs) (hl : lv_has ls 4 [(0, .ref (n0 + x0)), (1, .int x1), (2, .int x2)]) : W p l e rmX11_record s m args below meth c H locs 0 0 (MQ below (PosI n0 D Y z fin) args s 0 0 (AA n0)) (F0 m 0 ls []) := by
  unfold fX11_record at h
  refine lv_aload_n C.1 C.2.1 dX11_record_0 rfl (lv_at hl 0 rfl) ?_
  obtain ⟨g1, h⟩ := gdE h
  refine r_get (v := rv n0 (zG z 640 x0)) C hw g1 (by decide) (Cn := RX11) (T := TX11) (N := 12) rfl in_X11_record_X11 0 (by decide) (by decide +kernel) (fun _ h => h) rfl dX11_record_1 ?_
  obtain ⟨b3, e2, h⟩ := boE h
  refine r_topr e2 ?_
  refine lv_iload_n C.1 C.2.1 dX11_record_4 rfl (lv_at hl 1 rfl) ?_
  obtain ⟨g6, h⟩ := gdE h
  obtain ⟨q5, e4, h⟩ := boE h
  refine r_aftq hw (r_runV (As := [.int x1]) (rest := []) C hw (ki := 2) g6 (by decide) rfl (kX2_entryAt l n0 D Y N b3 x1 z e4) (cwV 1 C.2.2.2.2.2.1 gX11_record_X2_entryAt rfl rfl rfl (by decide +kernel) ⟨(Nat.le_of_ble_eq_true rfl), (Nat.le_of_ble_eq_true rfl)⟩) rfl hl.1 rfl (Nat.le_of_ble_eq_true rfl) dX11_record_5 ⟨(Nat.le_of_ble_eq_true rfl), (Nat.le_of_ble_eq_true rfl)⟩) (fun H locs hw => ?_)
  refine r_astore_n (i := 3) (r := q5) (lv' := [(3, rv n0 q5), (0, .ref (n0 + x0)), (1, .int x1), (2, .int x2)]) C dX11_record_8 rfl hl (by decide) rfl (fun ls hl => ?_)
  refine r_aload_n (r := q5) C dX11_record_9 rfl (lv_at hl 0 rfl) ?_
  refine r_ifnonnull (tgt := 15) C dX11_record_10 (by decide) (fun c8 => ?_) (fun b7 c8 => ?_)
  · subst c8
    replace h := csN h
    refine lv_iconst (v := (-1 : Int32)) C.1 C.2.1 dX11_record_13 (by decide) ?_
    cases h
    replace hF : _ = fin := hF
    subst hF
    exact r_iret C hw dX11_record_14
  · subst c8
    replace h := csS h
    refine lv_iload_n C.1 C.2.1 dX11_record_15 rfl (lv_at hl 3 rfl) ?_
    by_cases c9 : x2 = (0 : Int32)
    · replace h := brT h c9
      refine lv_tableIn (off := 32) (tgt := 48) C.1 C.2.1 dX11_record_16 (by rw [c9]; decide) (by rw [c9]; decide) (by rw [c9]; decide) (by decide) ?_
      refine lv_aload_n C.1 C.2.1 dX11_record_48 rfl (lv_at hl 0 rfl) ?_
      obtain ⟨g10, h⟩ := gdE h
      refine r_getE C hw g10 in_X11_record_X1 in_X11_record_X6 in_X11_record_X8 0 (by decide) (by decide +kernel) (fun _ h => h) dX11_record_49 ?_
      cases h
      replace hF : _ = fin := hF
      subst hF
      exact r_iret C hw dX11_record_52
    replace h := brF h c9
    by_cases c11 : x2 = (1 : Int32)
    · replace h := brT h c11
      refine lv_tableIn (off := 37) (tgt := 53) C.1 C.2.1 dX11_record_16 (by rw [c11]; decide) (by rw [c11]; decide) (by rw [c11]; decide) (by decide) ?_
      refine lv_aload_n C.1 C.2.1 dX11_record_53 rfl (lv_at hl 0 rfl) ?_
      obtain ⟨g14, h⟩ := gdE h
      obtain ⟨r13, e12, h⟩ := boE h
      have k15 : ∀ (H : Heap) (locs : List Loc), Wd n0 D Y z s H locs → W p l e rmX11_record s m args below meth c H locs (0 + 0) (0 + 0) (MQ below (PosI n0 D Y z fin) args s 0 0 (AA n0)) (F0 m 57 ls [.int r13]) := by
        intro H locs hw
        cases h
        replace hF : _ = fin := hF
        subst hF
        exact r_iret C hw dX11_record_57
      obtain ⟨i0, i1 | i1 | i1⟩ := g14
      · exact r_afti hw (r_runU (As := []) (rest := []) C hw (ki := 1) ⟨i0, i1⟩ (by decide) rfl (kX3_week l n0 D Y N b7  z e12) (va_cwU (owner := "BreadLaw$Entry") (x := ⟨"BreadLaw$Entry", "week", "()I"⟩) 0 C.2.2.2.2.2.1 gX11_record_X3_week_u215X1 rfl rfl rfl rfl (by decide +kernel) ⟨(Nat.le_of_ble_eq_true rfl), (Nat.le_of_ble_eq_true rfl)⟩) rfl hl.1 rfl (Nat.le_of_ble_eq_true rfl) dX11_record_54 ⟨(Nat.le_of_ble_eq_true rfl), (Nat.le_of_ble_eq_true rfl)⟩) k15
      · exact r_afti hw (r_runU (As := []) (rest := []) C hw (ki := 5) ⟨i0, i1⟩ (by decide) rfl (kX3_week l n0 D Y N b7  z e12) (va_cwU (owner := "BreadLaw$Entry") (x := ⟨"BreadLaw$Entry", "week", "()I"⟩) 0 C.2.2.2.2.2.1 gX11_record_X3_week_u215X6 rfl rfl rfl rfl (by decide +kernel) ⟨(Nat.le_of_ble_eq_true rfl), (Nat.le_of_ble_eq_true rfl)⟩) rfl hl.1 rfl (Nat.le_of_ble_eq_true rfl) dX11_record_54 ⟨(Nat.le_of_ble_eq_true rfl), (Nat.le_of_ble_eq_true rfl)⟩) k15
      · exact r_afti hw (r_runU (As := []) (rest := []) C hw (ki := 7) ⟨i0, i1⟩ (by decide) rfl (kX3_week l n0 D Y N b7  z e12) (va_cwU (owner := "BreadLaw$Entry") (x := ⟨"BreadLaw$Entry", "week", "()I"⟩) 0 C.2.2.2.2.2.1 gX11_record_X3_week_u215X8 rfl rfl rfl rfl (by decide +kernel) ⟨(Nat.le_of_ble_eq_true rfl), (Nat.le_of_ble_eq_true rfl)⟩) rfl hl.1 rfl (Nat.le_of_ble_eq_true rfl) dX11_record_54 ⟨(Nat.le_of_ble_eq_true rfl), (Nat.le_of_ble_eq_true rfl)⟩) k15
    replace h := brF h c11
    by_cases c16 : x2 = (2 : Int32)
    · replace h := brT h c16
      refine lv_tableIn (off := 42) (tgt := 58) C.1 C.2.1 dX11_record_16 (by rw [c16]; decide) (by rw [c16]; decide) (by rw [c16]; decide) (by decide) ?_
      refine lv_aload_n C.1 C.2.1 dX11_record_58 rfl (lv_at hl 0 rfl) ?_
      obtain ⟨g17, h⟩ := gdE h
      refine r_getE C hw g17 in_X11_record_X1 in_X11_record_X6 in_X11_record_X8 2 (by decide) (by decide +kernel) (fun _ h => h) dX11_record_59 ?_
      refine lv_sipush (v := (168 : Int32)) C.1 C.2.1 dX11_record_62 (by decide) ?_
      refine lv_irem C.1 C.2.1 dX11_record_65 (by decide) ?_
      refine r_topi (y := irm (zF z 770 b7) (168 : Int32)) rfl ?_
      cases h
      replace hF : _ = fin := hF
      subst hF
      exact r_iret C hw dX11_record_66
    replace h := brF h c16
    by_cases c18 : x2 = (3 : Int32)
    · replace h := brT h c18
      refine lv_tableIn (off := 51) (tgt := 67) C.1 C.2.1 dX11_record_16 (by rw [c18]; decide) (by rw [c18]; decide) (by rw [c18]; decide) (by decide) ?_
      refine lv_aload_n C.1 C.2.1 dX11_record_67 rfl (lv_at hl 0 rfl) ?_
      obtain ⟨g19, h⟩ := gdE h
      refine r_getE C hw g19 in_X11_record_X1 in_X11_record_X6 in_X11_record_X8 3 (by decide) (by decide +kernel) (fun _ h => h) dX11_record_68 ?_
      cases h
      replace hF : _ = fin := hF
      subst hF
      exact r_iret C hw dX11_record_71
    replace h := brF h c18
    refine lv_tableOut (tgt := 72) C.1 C.2.1 dX11_record_16 (by have := ne_ti c9; have : (0 : Int32).toInt = 0 := (by decide); have := ne_ti c11; have : (1 : Int32).toInt = 1 := (by decide); have := ne_ti c16; have : (2 : Int32).toInt = 2 := (by decide); have := ne_ti c18; have : (3 : Int32).toInt = 3 := (by decide); omega) (by decide) ?_
    refine lv_bipush (v := (-2 : Int32)) C.1 C.2.1 dX11_record_72 (by decide) ?_
    cases h
    replace hF : _ = fin := hF
    subst hF
    exact r_iret C hw dX11_record_74
set_option maxRecDepth 100000 in
theorem kX11_record (l : Launch) (n0 : Nat) (D : va_G) (Y : Nat → ClassId) (N : Nat) (x0 : Nat) (x1 : Int32) (x2 : Int32) (z : Hp) {r : Int32} (h : fX11_record N x0 x1 x2 z = some r) : Met l yX11_record wsX11_record rmX11_record (PreC n0 D Y z [.ref (n0 + x0), .int x1, .int x2]) (PosI n0 D Y z r) 0 0 (AA n0) := by
  refine Met.ofW (cc := cX11_record) (maxL := 4) (ret := (some .int)) (by decide) rfl ?_
  intro p e s m args below meth c s₁ B hml hv
  obtain ⟨rfl, hR, hK⟩ := hv
  have C : Cx n0 D Y RX11 cX11_record (some .int) 4 wsX11_record "record" p s m ([.ref (n0 + x0), .int x1, .int x2] : List Value).toArray meth c := ⟨B.exec, B.bytes, B.returns, hml, findClass_of_methodNamed B.named, atoms_spec (ws := wsX11_record) B.pre, B.notSynchronized, (name_of_methodNamed B.named B.method).1, hK⟩
  have hl := lv_entry ([.ref (n0 + x0), .int x1, .int x2]) (n := 4) (Nat.le_of_ble_eq_true rfl)
  rw [lg_entry_eq]
  generalize (lg_sl ([.ref (n0 + x0), .int x1, .int x2]) ++ List.replicate (4 - (lg_sl ([.ref (n0 + x0), .int x1, .int x2])).length) Slot.unset).toArray = ls at hl ⊢
  have hl : lv_has ls 4 [(0, .ref (n0 + x0)), (1, .int x1), (2, .int x2)] := hl
  exact tX11_record_0 C h rfl ⟨hR, va_S.rf⟩ hl
theorem in_X11_lot_X11 : ∀ w ∈ wsX110, w ∈ wsX11_lot := by decide +kernel
abbrev rmX11_lot : Room := { frames := 1, cells := 0, slots := 0, locals := 22 }
noncomputable def fX11_lot (N : Nat) (x0 : Nat) (x1 : Int32) (x2 : Int32) (z : Hp) : Option (Int32) := gd (x0 < zn z ∧ zK z x0 = 10) <| bo (zG z 640 x0) fun b3 => gd (b3 < zn z ∧ zK z b3 = 2) <| bo (fX2_entryAt N b3 x1 z) fun q5 => cs q5 (some (-1 : Int32)) (fun b7 => bo (fX11_isOutside N x2 (0 : Int32) (3 : Int32) z) fun r10 => br (r10 = 0) (gd (b7 < zn z ∧ (zK z b7 = 1 ∨ zK z b7 = 5 ∨ zK z b7 = 7)) <| br (zK z b7 = 5) (bo (fX6_detail N b7 x2 z) fun r15 => some r15) (some (-5 : Int32))) (some (-2 : Int32)))
set_option maxHeartbeats 4000000 in
set_option maxRecDepth 100000 in
theorem tX11_lot_0 {n0 : Nat} {D : va_G} {Y : Nat → ClassId} {p : Program} {l : Launch} {e : Env} {s : State} {m : MethodId} {args : Array Value} {below : List Frame} {meth : Method} {c : Code} {N : Nat} {fin : Int32} {x0 : Nat} {x1 : Int32} {x2 : Int32}  {z : Hp} (C : Cx n0 D Y RX11 cX11_lot (some .int) 5 wsX11_lot "lot" p s m args meth c) {x : (Int32)} (h : fX11_lot N x0 x1 x2  z = some x) (hF : (fun x => x = fin) x) {H : Heap} {locs : List Loc} {ls : Array Slot} (hw : Wd n0 D Y z s H locs) (hl : lv_has ls 5 [(0, .ref (n0 + x0)), (1, .int x1), (2, .int x2)]) : W p l e rmX11_lot s m args below meth c H locs 0 0 (MQ below (PosI n0 D Y z fin) args s 0 0 (AA n0)) (F0 m 0 ls []) := by
  unfold fX11_lot at h
  refine lv_aload_n C.1 C.2.1 dX11_lot_0 rfl (lv_at hl 0 rfl) ?_
  obtain ⟨g1, h⟩ := gdE h
  refine r_get (v := rv n0 (zG z 640 x0)) C hw g1 (by decide) (Cn := RX11) (T := TX11) (N := 12) rfl in_X11_lot_X11 0 (by decide) (by decide +kernel) (fun _ h => h) rfl dX11_lot_1 ?_
  obtain ⟨b3, e2, h⟩ := boE h
  refine r_topr e2 ?_
  refine lv_iload_n C.1 C.2.1 dX11_lot_4 rfl (lv_at hl 1 rfl) ?_
  obtain ⟨g6, h⟩ := gdE h
  obtain ⟨q5, e4, h⟩ := boE h
  refine r_aftq hw (r_runV (As := [.int x1]) (rest := []) C hw (ki := 2) g6 (by decide) rfl (kX2_entryAt l n0 D Y N b3 x1 z e4) (cwV 1 C.2.2.2.2.2.1 gX11_lot_X2_entryAt rfl rfl rfl (by decide +kernel) ⟨(Nat.le_of_ble_eq_true rfl), (Nat.le_of_ble_eq_true rfl)⟩) rfl hl.1 rfl (Nat.le_of_ble_eq_true rfl) dX11_lot_5 ⟨(Nat.le_of_ble_eq_true rfl), (Nat.le_of_ble_eq_true rfl)⟩) (fun H locs hw => ?_)
  refine r_astore_n (i := 3) (r := q5) (lv' := [(3, rv n0 q5), (0, .ref (n0 + x0)), (1, .int x1), (2, .int x2)]) C dX11_lot_8 rfl hl (by decide) rfl (fun ls hl => ?_)
  refine r_aload_n (r := q5) C dX11_lot_9 rfl (lv_at hl 0 rfl) ?_
  refine r_ifnonnull (tgt := 15) C dX11_lot_10 (by decide) (fun c8 => ?_) (fun b7 c8 => ?_)
  · subst c8
    replace h := csN h
    refine lv_iconst (v := (-1 : Int32)) C.1 C.2.1 dX11_lot_13 (by decide) ?_
    cases h
    replace hF : _ = fin := hF
    subst hF
    exact r_iret C hw dX11_lot_14
  · subst c8
    replace h := csS h
    refine lv_iload_n C.1 C.2.1 dX11_lot_15 rfl (lv_at hl 3 rfl) ?_
    refine lv_iconst (v := (0 : Int32)) C.1 C.2.1 dX11_lot_16 (by decide) ?_
    refine lv_iconst (v := (3 : Int32)) C.1 C.2.1 dX11_lot_17 (by decide) ?_
    obtain ⟨r10, e9, h⟩ := boE h
    refine r_afti hw (r_runS (As := [.int x2, .int (0 : Int32), .int (3 : Int32)]) (rest := []) C hw (kX11_isOutside l n0 D Y N x2 (0 : Int32) (3 : Int32) z e9) (va_cwS 3 C.2.2.2.2.2.1 gX11_lot_X11_isOutside rfl rfl rfl (by decide +kernel) ⟨(Nat.le_of_ble_eq_true rfl), (Nat.le_of_ble_eq_true rfl)⟩) rfl hl.1 rfl (Nat.le_of_ble_eq_true rfl) dX11_lot_18 ⟨(Nat.le_of_ble_eq_true rfl), (Nat.le_of_ble_eq_true rfl)⟩) (fun H locs hw => ?_)
    refine lv_if_eq (tgt := 27) C.1 C.2.1 dX11_lot_21 (by decide) (fun c11 => ?_) (fun c11 => ?_)
    · replace h := brT h c11
      refine lv_aload_n C.1 C.2.1 dX11_lot_27 rfl (lv_at hl 0 rfl) ?_
      obtain ⟨g12, h⟩ := gdE h
      refine r_inst5 C hw g12 (by decide +kernel) dX11_lot_28 (fun c13 => ?_) (fun c13 => ?_)
      · replace h := brT h c13
        refine lv_if_eq (tgt := 47) C.1 C.2.1 dX11_lot_31 (by decide) (fun q => absurd q (by decide)) (fun _ => ?_)
        refine lv_aload_n C.1 C.2.1 dX11_lot_34 rfl (lv_at hl 0 rfl) ?_
        refine r_cast C hw (ki := 5) ⟨g12.1, c13⟩ (by decide) rfl (by decide +kernel) dX11_lot_35 ?_
        refine lv_astore (i := 4) (lv' := [(4, .ref (n0 + b7)), (3, .ref (n0 + b7)), (0, .ref (n0 + x0)), (1, .int x1), (2, .int x2)]) C.1 C.2.1 dX11_lot_38 hl (by decide) rfl (fun ls hl => ?_)
        refine lv_aload C.1 C.2.1 dX11_lot_40 (lv_at hl 0 rfl) ?_
        refine lv_iload_n C.1 C.2.1 dX11_lot_42 rfl (lv_at hl 4 rfl) ?_
        obtain ⟨r15, e14, h⟩ := boE h
        refine r_afti hw (r_runV (As := [.int x2]) (rest := []) C hw (ki := 5) ⟨g12.1, c13⟩ (by decide) rfl (kX6_detail l n0 D Y N b7 x2 z e14) (cwV 1 C.2.2.2.2.2.1 gX11_lot_X6_detail rfl rfl rfl (by decide +kernel) ⟨(Nat.le_of_ble_eq_true rfl), (Nat.le_of_ble_eq_true rfl)⟩) rfl hl.1 rfl (Nat.le_of_ble_eq_true rfl) dX11_lot_43 ⟨(Nat.le_of_ble_eq_true rfl), (Nat.le_of_ble_eq_true rfl)⟩) (fun H locs hw => ?_)
        cases h
        replace hF : _ = fin := hF
        subst hF
        exact r_iret C hw dX11_lot_46
      · replace h := brF h c13
        refine lv_if_eq (tgt := 47) C.1 C.2.1 dX11_lot_31 (by decide) (fun _ => ?_) (fun q => absurd rfl q)
        refine lv_bipush (v := (-5 : Int32)) C.1 C.2.1 dX11_lot_47 (by decide) ?_
        cases h
        replace hF : _ = fin := hF
        subst hF
        exact r_iret C hw dX11_lot_49
    · replace h := brF h c11
      refine lv_bipush (v := (-2 : Int32)) C.1 C.2.1 dX11_lot_24 (by decide) ?_
      cases h
      replace hF : _ = fin := hF
      subst hF
      exact r_iret C hw dX11_lot_26
set_option maxRecDepth 100000 in
theorem kX11_lot (l : Launch) (n0 : Nat) (D : va_G) (Y : Nat → ClassId) (N : Nat) (x0 : Nat) (x1 : Int32) (x2 : Int32) (z : Hp) {r : Int32} (h : fX11_lot N x0 x1 x2 z = some r) : Met l yX11_lot wsX11_lot rmX11_lot (PreC n0 D Y z [.ref (n0 + x0), .int x1, .int x2]) (PosI n0 D Y z r) 0 0 (AA n0) := by
  refine Met.ofW (cc := cX11_lot) (maxL := 5) (ret := (some .int)) (by decide) rfl ?_
  intro p e s m args below meth c s₁ B hml hv
  obtain ⟨rfl, hR, hK⟩ := hv
  have C : Cx n0 D Y RX11 cX11_lot (some .int) 5 wsX11_lot "lot" p s m ([.ref (n0 + x0), .int x1, .int x2] : List Value).toArray meth c := ⟨B.exec, B.bytes, B.returns, hml, findClass_of_methodNamed B.named, atoms_spec (ws := wsX11_lot) B.pre, B.notSynchronized, (name_of_methodNamed B.named B.method).1, hK⟩
  have hl := lv_entry ([.ref (n0 + x0), .int x1, .int x2]) (n := 5) (Nat.le_of_ble_eq_true rfl)
  rw [lg_entry_eq]
  generalize (lg_sl ([.ref (n0 + x0), .int x1, .int x2]) ++ List.replicate (5 - (lg_sl ([.ref (n0 + x0), .int x1, .int x2])).length) Slot.unset).toArray = ls at hl ⊢
  have hl : lv_has ls 5 [(0, .ref (n0 + x0)), (1, .int x1), (2, .int x2)] := hl
  exact tX11_lot_0 C h rfl ⟨hR, va_S.rf⟩ hl
theorem in_X11_batch_X11 : ∀ w ∈ wsX110, w ∈ wsX11_batch := by decide +kernel
abbrev rmX11_batch : Room := { frames := 1, cells := 0, slots := 0, locals := 23 }
noncomputable def fX11_batch_30 (N : Nat) (x0 : Nat) (z : Hp) : Option (Int32) := some (-2 : Int32)
set_option maxHeartbeats 4000000 in
set_option maxRecDepth 100000 in
theorem tX11_batch_30 {n0 : Nat} {D : va_G} {Y : Nat → ClassId} {p : Program} {l : Launch} {e : Env} {s : State} {m : MethodId} {args : Array Value} {below : List Frame} {meth : Method} {c : Code} {N : Nat} {fin : Int32} {x0 : Nat}  {z : Hp} (C : Cx n0 D Y RX11 cX11_batch (some .int) 5 wsX11_batch "batch" p s m args meth c) {x : (Int32)} (h : fX11_batch_30 N x0  z = some x) (hF : (fun x => x = fin) x) {H : Heap} {locs : List Loc} {ls : Array Slot} (hw : Wd n0 D Y z s H locs) (hl : lv_has ls 5 [(0, .ref (n0 + x0))]) : W p l e rmX11_batch s m args below meth c H locs 0 0 (MQ below (PosI n0 D Y z fin) args s 0 0 (AA n0)) (F0 m 30 ls []) := by
  unfold fX11_batch_30 at h
  refine lv_bipush (v := (-2 : Int32)) C.1 C.2.1 dX11_batch_30 (by decide) ?_
  cases h
  replace hF : _ = fin := hF
  subst hF
  exact r_iret C hw dX11_batch_32
noncomputable def fX11_batch_33 (N : Nat) (x0 : Nat) (x2 : Int32) (x3 : Nat) (z : Hp) : Option (Int32) := gd (x3 < zn z ∧ (zK z x3 = 1 ∨ zK z x3 = 5 ∨ zK z x3 = 7)) <| br (zK z x3 = 1) (br ((10 : Int32) ≤ x2) (gd (x0 < zn z ∧ zK z x0 = 10) <| bo (zG z 640 x0) fun b6 => gd (b6 < zn z ∧ zK z b6 = 2) <| bo (fX2_giftDetail N b6 x3 (x2 - (10 : Int32)) z) fun r8 => some r8) (bo (fX1_detail N x3 x2 z) fun r11 => some r11)) (some (-5 : Int32))
set_option maxHeartbeats 4000000 in
set_option maxRecDepth 100000 in
theorem tX11_batch_33 {n0 : Nat} {D : va_G} {Y : Nat → ClassId} {p : Program} {l : Launch} {e : Env} {s : State} {m : MethodId} {args : Array Value} {below : List Frame} {meth : Method} {c : Code} {N : Nat} {fin : Int32} {x0 : Nat} {x2 : Int32} {x3 : Nat}  {z : Hp} (C : Cx n0 D Y RX11 cX11_batch (some .int) 5 wsX11_batch "batch" p s m args meth c) {x : (Int32)} (h : fX11_batch_33 N x0 x2 x3  z = some x) (hF : (fun x => x = fin) x) {H : Heap} {locs : List Loc} {ls : Array Slot} (hw : Wd n0 D Y z s H locs) (hl : lv_has ls 5 [(0, .ref (n0 + x0)), (2, .int x2), (3, .ref (n0 + x3))]) : W p l e rmX11_batch s m args below meth c H locs 0 0 (MQ below (PosI n0 D Y z fin) args s 0 0 (AA n0)) (F0 m 33 ls []) := by
  unfold fX11_batch_33 at h
  refine lv_aload_n C.1 C.2.1 dX11_batch_33 rfl (lv_at hl 2 rfl) ?_
  obtain ⟨g1, h⟩ := gdE h
  refine r_inst1 C hw g1 (by decide +kernel) dX11_batch_34 (fun c2 => ?_) (fun c2 => ?_)
  · replace h := brT h c2
    refine lv_if_eq (tgt := 75) C.1 C.2.1 dX11_batch_37 (by decide) (fun q => absurd q (by decide)) (fun _ => ?_)
    refine lv_aload_n C.1 C.2.1 dX11_batch_40 rfl (lv_at hl 2 rfl) ?_
    refine r_cast C hw (ki := 1) ⟨g1.1, c2⟩ (by decide) rfl (by decide +kernel) dX11_batch_41 ?_
    refine lv_astore (i := 4) (lv' := [(4, .ref (n0 + x3)), (0, .ref (n0 + x0)), (2, .int x2), (3, .ref (n0 + x3))]) C.1 C.2.1 dX11_batch_44 hl (by decide) rfl (fun ls hl => ?_)
    refine lv_iload_n C.1 C.2.1 dX11_batch_46 rfl (lv_at hl 2 rfl) ?_
    refine lv_bipush (v := (10 : Int32)) C.1 C.2.1 dX11_batch_47 (by decide) ?_
    refine lv_icmp_ge (tgt := 61) C.1 C.2.1 dX11_batch_49 (by decide) (fun c3 => ?_) (fun c3 => ?_)
    · replace h := brT h c3
      refine lv_aload_n C.1 C.2.1 dX11_batch_61 rfl (lv_at hl 1 rfl) ?_
      obtain ⟨g4, h⟩ := gdE h
      refine r_get (v := rv n0 (zG z 640 x0)) C hw g4 (by decide) (Cn := RX11) (T := TX11) (N := 12) rfl in_X11_batch_X11 0 (by decide) (by decide +kernel) (fun _ h => h) rfl dX11_batch_62 ?_
      obtain ⟨b6, e5, h⟩ := boE h
      refine r_topr e5 ?_
      refine lv_aload C.1 C.2.1 dX11_batch_65 (lv_at hl 0 rfl) ?_
      refine lv_iload_n C.1 C.2.1 dX11_batch_67 rfl (lv_at hl 2 rfl) ?_
      refine lv_bipush (v := (10 : Int32)) C.1 C.2.1 dX11_batch_68 (by decide) ?_
      refine lv_isub C.1 C.2.1 dX11_batch_70 ?_
      obtain ⟨g9, h⟩ := gdE h
      obtain ⟨r8, e7, h⟩ := boE h
      refine r_afti hw (r_runV (As := [.ref (n0 + x3), .int (x2 - (10 : Int32))]) (rest := []) C hw (ki := 2) g9 (by decide) rfl (kX2_giftDetail l n0 D Y N b6 x3 (x2 - (10 : Int32)) z e7) (cwV 2 C.2.2.2.2.2.1 gX11_batch_X2_giftDetail rfl rfl rfl (by decide +kernel) ⟨(Nat.le_of_ble_eq_true rfl), (Nat.le_of_ble_eq_true rfl)⟩) rfl hl.1 rfl (Nat.le_of_ble_eq_true rfl) dX11_batch_71 ⟨(Nat.le_of_ble_eq_true rfl), (Nat.le_of_ble_eq_true rfl)⟩) (fun H locs hw => ?_)
      cases h
      replace hF : _ = fin := hF
      subst hF
      exact r_iret C hw dX11_batch_74
    · replace h := brF h c3
      refine lv_aload C.1 C.2.1 dX11_batch_52 (lv_at hl 0 rfl) ?_
      refine lv_iload_n C.1 C.2.1 dX11_batch_54 rfl (lv_at hl 2 rfl) ?_
      obtain ⟨r11, e10, h⟩ := boE h
      refine r_afti hw (r_runV (As := [.int x2]) (rest := []) C hw (ki := 1) ⟨g1.1, c2⟩ (by decide) rfl (kX1_detail l n0 D Y N x3 x2 z e10) (cwV 1 C.2.2.2.2.2.1 gX11_batch_X1_detail rfl rfl rfl (by decide +kernel) ⟨(Nat.le_of_ble_eq_true rfl), (Nat.le_of_ble_eq_true rfl)⟩) rfl hl.1 rfl (Nat.le_of_ble_eq_true rfl) dX11_batch_55 ⟨(Nat.le_of_ble_eq_true rfl), (Nat.le_of_ble_eq_true rfl)⟩) (fun H locs hw => ?_)
      refine lv_goto (tgt := 74) C.1 C.2.1 dX11_batch_58 (by decide) ?_
      cases h
      replace hF : _ = fin := hF
      subst hF
      exact r_iret C hw dX11_batch_74
  · replace h := brF h c2
    refine lv_if_eq (tgt := 75) C.1 C.2.1 dX11_batch_37 (by decide) (fun _ => ?_) (fun q => absurd rfl q)
    refine lv_bipush (v := (-5 : Int32)) C.1 C.2.1 dX11_batch_75 (by decide) ?_
    cases h
    replace hF : _ = fin := hF
    subst hF
    exact r_iret C hw dX11_batch_77
noncomputable def fX11_batch (N : Nat) (x0 : Nat) (x1 : Int32) (x2 : Int32) (z : Hp) : Option (Int32) := gd (x0 < zn z ∧ zK z x0 = 10) <| bo (zG z 640 x0) fun b3 => gd (b3 < zn z ∧ zK z b3 = 2) <| bo (fX2_entryAt N b3 x1 z) fun q5 => cs q5 (some (-1 : Int32)) (fun b7 => br (x2 < 0) (fX11_batch_30 N x0 z) (br (x2 ≤ (3 : Int32)) (fX11_batch_33 N x0 x2 b7 z) (br ((10 : Int32) ≤ x2) (fX11_batch_33 N x0 x2 b7 z) (fX11_batch_30 N x0 z))))
set_option maxHeartbeats 4000000 in
set_option maxRecDepth 100000 in
theorem tX11_batch_0 {n0 : Nat} {D : va_G} {Y : Nat → ClassId} {p : Program} {l : Launch} {e : Env} {s : State} {m : MethodId} {args : Array Value} {below : List Frame} {meth : Method} {c : Code} {N : Nat} {fin : Int32} {x0 : Nat} {x1 : Int32} {x2 : Int32}  {z : Hp} (C : Cx n0 D Y RX11 cX11_batch (some .int) 5 wsX11_batch "batch" p s m args meth c) {x : (Int32)} (h : fX11_batch N x0 x1 x2  z = some x) (hF : (fun x => x = fin) x) {H : Heap} {locs : List Loc} {ls : Array Slot} (hw : Wd n0 D Y z s H locs) (hl : lv_has ls 5 [(0, .ref (n0 + x0)), (1, .int x1), (2, .int x2)]) : W p l e rmX11_batch s m args below meth c H locs 0 0 (MQ below (PosI n0 D Y z fin) args s 0 0 (AA n0)) (F0 m 0 ls []) := by
  unfold fX11_batch at h
  refine lv_aload_n C.1 C.2.1 dX11_batch_0 rfl (lv_at hl 0 rfl) ?_
  obtain ⟨g1, h⟩ := gdE h
  refine r_get (v := rv n0 (zG z 640 x0)) C hw g1 (by decide) (Cn := RX11) (T := TX11) (N := 12) rfl in_X11_batch_X11 0 (by decide) (by decide +kernel) (fun _ h => h) rfl dX11_batch_1 ?_
  obtain ⟨b3, e2, h⟩ := boE h
  refine r_topr e2 ?_
  refine lv_iload_n C.1 C.2.1 dX11_batch_4 rfl (lv_at hl 1 rfl) ?_
  obtain ⟨g6, h⟩ := gdE h
  obtain ⟨q5, e4, h⟩ := boE h
  refine r_aftq hw (r_runV (As := [.int x1]) (rest := []) C hw (ki := 2) g6 (by decide) rfl (kX2_entryAt l n0 D Y N b3 x1 z e4) (cwV 1 C.2.2.2.2.2.1 gX11_batch_X2_entryAt rfl rfl rfl (by decide +kernel) ⟨(Nat.le_of_ble_eq_true rfl), (Nat.le_of_ble_eq_true rfl)⟩) rfl hl.1 rfl (Nat.le_of_ble_eq_true rfl) dX11_batch_5 ⟨(Nat.le_of_ble_eq_true rfl), (Nat.le_of_ble_eq_true rfl)⟩) (fun H locs hw => ?_)
  refine r_astore_n (i := 3) (r := q5) (lv' := [(3, rv n0 q5), (0, .ref (n0 + x0)), (1, .int x1), (2, .int x2)]) C dX11_batch_8 rfl hl (by decide) rfl (fun ls hl => ?_)
  refine r_aload_n (r := q5) C dX11_batch_9 rfl (lv_at hl 0 rfl) ?_
  refine r_ifnonnull (tgt := 15) C dX11_batch_10 (by decide) (fun c8 => ?_) (fun b7 c8 => ?_)
  · subst c8
    replace h := csN h
    refine lv_iconst (v := (-1 : Int32)) C.1 C.2.1 dX11_batch_13 (by decide) ?_
    cases h
    replace hF : _ = fin := hF
    subst hF
    exact r_iret C hw dX11_batch_14
  · subst c8
    replace h := csS h
    refine lv_iload_n C.1 C.2.1 dX11_batch_15 rfl (lv_at hl 3 rfl) ?_
    refine lv_if_lt (tgt := 30) C.1 C.2.1 dX11_batch_16 (by decide) (fun c9 => ?_) (fun c9 => ?_)
    · replace h := brT h c9
      exact tX11_batch_30 C h hF hw (lv_sub hl [1] rfl)
    · replace h := brF h c9
      refine lv_iload_n C.1 C.2.1 dX11_batch_19 rfl (lv_at hl 3 rfl) ?_
      refine lv_iconst (v := (3 : Int32)) C.1 C.2.1 dX11_batch_20 (by decide) ?_
      refine lv_icmp_le (tgt := 33) C.1 C.2.1 dX11_batch_21 (by decide) (fun c10 => ?_) (fun c10 => ?_)
      · replace h := brT h c10
        exact tX11_batch_33 C h hF hw (lv_sub hl [1, 3, 0] rfl)
      · replace h := brF h c10
        refine lv_iload_n C.1 C.2.1 dX11_batch_24 rfl (lv_at hl 3 rfl) ?_
        refine lv_bipush (v := (10 : Int32)) C.1 C.2.1 dX11_batch_25 (by decide) ?_
        refine lv_icmp_ge (tgt := 33) C.1 C.2.1 dX11_batch_27 (by decide) (fun c11 => ?_) (fun c11 => ?_)
        · replace h := brT h c11
          exact tX11_batch_33 C h hF hw (lv_sub hl [1, 3, 0] rfl)
        · replace h := brF h c11
          exact tX11_batch_30 C h hF hw (lv_sub hl [1] rfl)
set_option maxRecDepth 100000 in
theorem kX11_batch (l : Launch) (n0 : Nat) (D : va_G) (Y : Nat → ClassId) (N : Nat) (x0 : Nat) (x1 : Int32) (x2 : Int32) (z : Hp) {r : Int32} (h : fX11_batch N x0 x1 x2 z = some r) : Met l yX11_batch wsX11_batch rmX11_batch (PreC n0 D Y z [.ref (n0 + x0), .int x1, .int x2]) (PosI n0 D Y z r) 0 0 (AA n0) := by
  refine Met.ofW (cc := cX11_batch) (maxL := 5) (ret := (some .int)) (by decide) rfl ?_
  intro p e s m args below meth c s₁ B hml hv
  obtain ⟨rfl, hR, hK⟩ := hv
  have C : Cx n0 D Y RX11 cX11_batch (some .int) 5 wsX11_batch "batch" p s m ([.ref (n0 + x0), .int x1, .int x2] : List Value).toArray meth c := ⟨B.exec, B.bytes, B.returns, hml, findClass_of_methodNamed B.named, atoms_spec (ws := wsX11_batch) B.pre, B.notSynchronized, (name_of_methodNamed B.named B.method).1, hK⟩
  have hl := lv_entry ([.ref (n0 + x0), .int x1, .int x2]) (n := 5) (Nat.le_of_ble_eq_true rfl)
  rw [lg_entry_eq]
  generalize (lg_sl ([.ref (n0 + x0), .int x1, .int x2]) ++ List.replicate (5 - (lg_sl ([.ref (n0 + x0), .int x1, .int x2])).length) Slot.unset).toArray = ls at hl ⊢
  have hl : lv_has ls 5 [(0, .ref (n0 + x0)), (1, .int x1), (2, .int x2)] := hl
  exact tX11_batch_0 C h rfl ⟨hR, va_S.rf⟩ hl
theorem in_X11_found_X11 : ∀ w ∈ wsX110, w ∈ wsX11_found := by decide +kernel
abbrev rmX11_found : Room := { frames := 1, cells := 0, slots := 0, locals := 22 }
noncomputable def fX11_found (N : Nat) (x0 : Nat) (x1 : Int32) (x2 : Int32) (z : Hp) : Option (Int32) := gd (x0 < zn z ∧ zK z x0 = 10) <| bo (zG z 640 x0) fun b3 => gd (b3 < zn z ∧ zK z b3 = 2) <| bo (fX2_entryAt N b3 x1 z) fun q5 => cs q5 (some (-1 : Int32)) (fun b7 => bo (fX11_isOutside N x2 (0 : Int32) (5 : Int32) z) fun r10 => br (r10 = 0) (gd (b7 < zn z ∧ (zK z b7 = 1 ∨ zK z b7 = 5 ∨ zK z b7 = 7)) <| br (zK z b7 = 7) (bo (fX8_detail N b7 x2 z) fun r15 => some r15) (some (-5 : Int32))) (some (-2 : Int32)))
set_option maxHeartbeats 4000000 in
set_option maxRecDepth 100000 in
theorem tX11_found_0 {n0 : Nat} {D : va_G} {Y : Nat → ClassId} {p : Program} {l : Launch} {e : Env} {s : State} {m : MethodId} {args : Array Value} {below : List Frame} {meth : Method} {c : Code} {N : Nat} {fin : Int32} {x0 : Nat} {x1 : Int32} {x2 : Int32}  {z : Hp} (C : Cx n0 D Y RX11 cX11_found (some .int) 5 wsX11_found "found" p s m args meth c) {x : (Int32)} (h : fX11_found N x0 x1 x2  z = some x) (hF : (fun x => x = fin) x) {H : Heap} {locs : List Loc} {ls : Array Slot} (hw : Wd n0 D Y z s H locs) (hl : lv_has ls 5 [(0, .ref (n0 + x0)), (1, .int x1), (2, .int x2)]) : W p l e rmX11_found s m args below meth c H locs 0 0 (MQ below (PosI n0 D Y z fin) args s 0 0 (AA n0)) (F0 m 0 ls []) := by
  unfold fX11_found at h
  refine lv_aload_n C.1 C.2.1 dX11_found_0 rfl (lv_at hl 0 rfl) ?_
  obtain ⟨g1, h⟩ := gdE h
  refine r_get (v := rv n0 (zG z 640 x0)) C hw g1 (by decide) (Cn := RX11) (T := TX11) (N := 12) rfl in_X11_found_X11 0 (by decide) (by decide +kernel) (fun _ h => h) rfl dX11_found_1 ?_
  obtain ⟨b3, e2, h⟩ := boE h
  refine r_topr e2 ?_
  refine lv_iload_n C.1 C.2.1 dX11_found_4 rfl (lv_at hl 1 rfl) ?_
  obtain ⟨g6, h⟩ := gdE h
  obtain ⟨q5, e4, h⟩ := boE h
  refine r_aftq hw (r_runV (As := [.int x1]) (rest := []) C hw (ki := 2) g6 (by decide) rfl (kX2_entryAt l n0 D Y N b3 x1 z e4) (cwV 1 C.2.2.2.2.2.1 gX11_found_X2_entryAt rfl rfl rfl (by decide +kernel) ⟨(Nat.le_of_ble_eq_true rfl), (Nat.le_of_ble_eq_true rfl)⟩) rfl hl.1 rfl (Nat.le_of_ble_eq_true rfl) dX11_found_5 ⟨(Nat.le_of_ble_eq_true rfl), (Nat.le_of_ble_eq_true rfl)⟩) (fun H locs hw => ?_)
  refine r_astore_n (i := 3) (r := q5) (lv' := [(3, rv n0 q5), (0, .ref (n0 + x0)), (1, .int x1), (2, .int x2)]) C dX11_found_8 rfl hl (by decide) rfl (fun ls hl => ?_)
  refine r_aload_n (r := q5) C dX11_found_9 rfl (lv_at hl 0 rfl) ?_
  refine r_ifnonnull (tgt := 15) C dX11_found_10 (by decide) (fun c8 => ?_) (fun b7 c8 => ?_)
  · subst c8
    replace h := csN h
    refine lv_iconst (v := (-1 : Int32)) C.1 C.2.1 dX11_found_13 (by decide) ?_
    cases h
    replace hF : _ = fin := hF
    subst hF
    exact r_iret C hw dX11_found_14
  · subst c8
    replace h := csS h
    refine lv_iload_n C.1 C.2.1 dX11_found_15 rfl (lv_at hl 3 rfl) ?_
    refine lv_iconst (v := (0 : Int32)) C.1 C.2.1 dX11_found_16 (by decide) ?_
    refine lv_iconst (v := (5 : Int32)) C.1 C.2.1 dX11_found_17 (by decide) ?_
    obtain ⟨r10, e9, h⟩ := boE h
    refine r_afti hw (r_runS (As := [.int x2, .int (0 : Int32), .int (5 : Int32)]) (rest := []) C hw (kX11_isOutside l n0 D Y N x2 (0 : Int32) (5 : Int32) z e9) (va_cwS 3 C.2.2.2.2.2.1 gX11_found_X11_isOutside rfl rfl rfl (by decide +kernel) ⟨(Nat.le_of_ble_eq_true rfl), (Nat.le_of_ble_eq_true rfl)⟩) rfl hl.1 rfl (Nat.le_of_ble_eq_true rfl) dX11_found_18 ⟨(Nat.le_of_ble_eq_true rfl), (Nat.le_of_ble_eq_true rfl)⟩) (fun H locs hw => ?_)
    refine lv_if_eq (tgt := 27) C.1 C.2.1 dX11_found_21 (by decide) (fun c11 => ?_) (fun c11 => ?_)
    · replace h := brT h c11
      refine lv_aload_n C.1 C.2.1 dX11_found_27 rfl (lv_at hl 0 rfl) ?_
      obtain ⟨g12, h⟩ := gdE h
      refine r_inst7 C hw g12 (by decide +kernel) dX11_found_28 (fun c13 => ?_) (fun c13 => ?_)
      · replace h := brT h c13
        refine lv_if_eq (tgt := 47) C.1 C.2.1 dX11_found_31 (by decide) (fun q => absurd q (by decide)) (fun _ => ?_)
        refine lv_aload_n C.1 C.2.1 dX11_found_34 rfl (lv_at hl 0 rfl) ?_
        refine r_cast C hw (ki := 7) ⟨g12.1, c13⟩ (by decide) rfl (by decide +kernel) dX11_found_35 ?_
        refine lv_astore (i := 4) (lv' := [(4, .ref (n0 + b7)), (3, .ref (n0 + b7)), (0, .ref (n0 + x0)), (1, .int x1), (2, .int x2)]) C.1 C.2.1 dX11_found_38 hl (by decide) rfl (fun ls hl => ?_)
        refine lv_aload C.1 C.2.1 dX11_found_40 (lv_at hl 0 rfl) ?_
        refine lv_iload_n C.1 C.2.1 dX11_found_42 rfl (lv_at hl 4 rfl) ?_
        obtain ⟨r15, e14, h⟩ := boE h
        refine r_afti hw (r_runV (As := [.int x2]) (rest := []) C hw (ki := 7) ⟨g12.1, c13⟩ (by decide) rfl (kX8_detail l n0 D Y N b7 x2 z e14) (cwV 1 C.2.2.2.2.2.1 gX11_found_X8_detail rfl rfl rfl (by decide +kernel) ⟨(Nat.le_of_ble_eq_true rfl), (Nat.le_of_ble_eq_true rfl)⟩) rfl hl.1 rfl (Nat.le_of_ble_eq_true rfl) dX11_found_43 ⟨(Nat.le_of_ble_eq_true rfl), (Nat.le_of_ble_eq_true rfl)⟩) (fun H locs hw => ?_)
        cases h
        replace hF : _ = fin := hF
        subst hF
        exact r_iret C hw dX11_found_46
      · replace h := brF h c13
        refine lv_if_eq (tgt := 47) C.1 C.2.1 dX11_found_31 (by decide) (fun _ => ?_) (fun q => absurd rfl q)
        refine lv_bipush (v := (-5 : Int32)) C.1 C.2.1 dX11_found_47 (by decide) ?_
        cases h
        replace hF : _ = fin := hF
        subst hF
        exact r_iret C hw dX11_found_49
    · replace h := brF h c11
      refine lv_bipush (v := (-2 : Int32)) C.1 C.2.1 dX11_found_24 (by decide) ?_
      cases h
      replace hF : _ = fin := hF
      subst hF
      exact r_iret C hw dX11_found_26
set_option maxRecDepth 100000 in
theorem kX11_found (l : Launch) (n0 : Nat) (D : va_G) (Y : Nat → ClassId) (N : Nat) (x0 : Nat) (x1 : Int32) (x2 : Int32) (z : Hp) {r : Int32} (h : fX11_found N x0 x1 x2 z = some r) : Met l yX11_found wsX11_found rmX11_found (PreC n0 D Y z [.ref (n0 + x0), .int x1, .int x2]) (PosI n0 D Y z r) 0 0 (AA n0) := by
  refine Met.ofW (cc := cX11_found) (maxL := 5) (ret := (some .int)) (by decide) rfl ?_
  intro p e s m args below meth c s₁ B hml hv
  obtain ⟨rfl, hR, hK⟩ := hv
  have C : Cx n0 D Y RX11 cX11_found (some .int) 5 wsX11_found "found" p s m ([.ref (n0 + x0), .int x1, .int x2] : List Value).toArray meth c := ⟨B.exec, B.bytes, B.returns, hml, findClass_of_methodNamed B.named, atoms_spec (ws := wsX11_found) B.pre, B.notSynchronized, (name_of_methodNamed B.named B.method).1, hK⟩
  have hl := lv_entry ([.ref (n0 + x0), .int x1, .int x2]) (n := 5) (Nat.le_of_ble_eq_true rfl)
  rw [lg_entry_eq]
  generalize (lg_sl ([.ref (n0 + x0), .int x1, .int x2]) ++ List.replicate (5 - (lg_sl ([.ref (n0 + x0), .int x1, .int x2])).length) Slot.unset).toArray = ls at hl ⊢
  have hl : lv_has ls 5 [(0, .ref (n0 + x0)), (1, .int x1), (2, .int x2)] := hl
  exact tX11_found_0 C h rfl ⟨hR, va_S.rf⟩ hl
abbrev rmX11_about : Room := { frames := 1, cells := 0, slots := 0, locals := 21 }
noncomputable def fX11_about (N : Nat) (x0 : Nat) (x1 : Int32) (x2 : Int32) (z : Hp) : Option (Int32) := gd (x0 < zn z ∧ zK z x0 = 10) <| bo (fX11_bakerAt N x0 x1 z) fun q2 => cs q2 (some (-1 : Int32)) (fun b4 => gd (b4 < zn z ∧ zK z b4 = 0) <| bo (fX0_detail N b4 x2 z) fun r7 => some r7)
set_option maxHeartbeats 4000000 in
set_option maxRecDepth 100000 in
theorem tX11_about_0 {n0 : Nat} {D : va_G} {Y : Nat → ClassId} {p : Program} {l : Launch} {e : Env} {s : State} {m : MethodId} {args : Array Value} {below : List Frame} {meth : Method} {c : Code} {N : Nat} {fin : Int32} {x0 : Nat} {x1 : Int32} {x2 : Int32}  {z : Hp} (C : Cx n0 D Y RX11 cX11_about (some .int) 4 wsX11_about "about" p s m args meth c) {x : (Int32)} (h : fX11_about N x0 x1 x2  z = some x) (hF : (fun x => x = fin) x) {H : Heap} {locs : List Loc} {ls : Array Slot} (hw : Wd n0 D Y z s H locs) (hl : lv_has ls 4 [(0, .ref (n0 + x0)), (1, .int x1), (2, .int x2)]) : W p l e rmX11_about s m args below meth c H locs 0 0 (MQ below (PosI n0 D Y z fin) args s 0 0 (AA n0)) (F0 m 0 ls []) := by
  unfold fX11_about at h
  refine lv_aload_n C.1 C.2.1 dX11_about_0 rfl (lv_at hl 0 rfl) ?_
  refine lv_iload_n C.1 C.2.1 dX11_about_1 rfl (lv_at hl 1 rfl) ?_
  obtain ⟨g3, h⟩ := gdE h
  obtain ⟨q2, e1, h⟩ := boE h
  refine r_aftq hw (r_runV (As := [.int x1]) (rest := []) C hw (ki := 10) g3 (by decide) rfl (kX11_bakerAt l n0 D Y N x0 x1 z e1) (cwV 1 C.2.2.2.2.2.1 gX11_about_X11_bakerAt rfl rfl rfl (by decide +kernel) ⟨(Nat.le_of_ble_eq_true rfl), (Nat.le_of_ble_eq_true rfl)⟩) rfl hl.1 rfl (Nat.le_of_ble_eq_true rfl) dX11_about_2 ⟨(Nat.le_of_ble_eq_true rfl), (Nat.le_of_ble_eq_true rfl)⟩) (fun H locs hw => ?_)
  refine r_astore_n (i := 3) (r := q2) (lv' := [(3, rv n0 q2), (0, .ref (n0 + x0)), (1, .int x1), (2, .int x2)]) C dX11_about_5 rfl hl (by decide) rfl (fun ls hl => ?_)
  refine r_aload_n (r := q2) C dX11_about_6 rfl (lv_at hl 0 rfl) ?_
  refine r_ifnonnull (tgt := 12) C dX11_about_7 (by decide) (fun c5 => ?_) (fun b4 c5 => ?_)
  · subst c5
    replace h := csN h
    refine lv_iconst (v := (-1 : Int32)) C.1 C.2.1 dX11_about_10 (by decide) ?_
    cases h
    replace hF : _ = fin := hF
    subst hF
    exact r_iret C hw dX11_about_11
  · subst c5
    replace h := csS h
    refine lv_aload_n C.1 C.2.1 dX11_about_12 rfl (lv_at hl 0 rfl) ?_
    refine lv_iload_n C.1 C.2.1 dX11_about_13 rfl (lv_at hl 3 rfl) ?_
    obtain ⟨g8, h⟩ := gdE h
    obtain ⟨r7, e6, h⟩ := boE h
    refine r_afti hw (r_runV (As := [.int x2]) (rest := []) C hw (ki := 0) g8 (by decide) rfl (kX0_detail l n0 D Y N b4 x2 z e6) (cwV 1 C.2.2.2.2.2.1 gX11_about_X0_detail rfl rfl rfl (by decide +kernel) ⟨(Nat.le_of_ble_eq_true rfl), (Nat.le_of_ble_eq_true rfl)⟩) rfl hl.1 rfl (Nat.le_of_ble_eq_true rfl) dX11_about_14 ⟨(Nat.le_of_ble_eq_true rfl), (Nat.le_of_ble_eq_true rfl)⟩) (fun H locs hw => ?_)
    cases h
    replace hF : _ = fin := hF
    subst hF
    exact r_iret C hw dX11_about_17
set_option maxRecDepth 100000 in
theorem kX11_about (l : Launch) (n0 : Nat) (D : va_G) (Y : Nat → ClassId) (N : Nat) (x0 : Nat) (x1 : Int32) (x2 : Int32) (z : Hp) {r : Int32} (h : fX11_about N x0 x1 x2 z = some r) : Met l yX11_about wsX11_about rmX11_about (PreC n0 D Y z [.ref (n0 + x0), .int x1, .int x2]) (PosI n0 D Y z r) 0 0 (AA n0) := by
  refine Met.ofW (cc := cX11_about) (maxL := 4) (ret := (some .int)) (by decide) rfl ?_
  intro p e s m args below meth c s₁ B hml hv
  obtain ⟨rfl, hR, hK⟩ := hv
  have C : Cx n0 D Y RX11 cX11_about (some .int) 4 wsX11_about "about" p s m ([.ref (n0 + x0), .int x1, .int x2] : List Value).toArray meth c := ⟨B.exec, B.bytes, B.returns, hml, findClass_of_methodNamed B.named, atoms_spec (ws := wsX11_about) B.pre, B.notSynchronized, (name_of_methodNamed B.named B.method).1, hK⟩
  have hl := lv_entry ([.ref (n0 + x0), .int x1, .int x2]) (n := 4) (Nat.le_of_ble_eq_true rfl)
  rw [lg_entry_eq]
  generalize (lg_sl ([.ref (n0 + x0), .int x1, .int x2]) ++ List.replicate (4 - (lg_sl ([.ref (n0 + x0), .int x1, .int x2])).length) Slot.unset).toArray = ls at hl ⊢
  have hl : lv_has ls 4 [(0, .ref (n0 + x0)), (1, .int x1), (2, .int x2)] := hl
  exact tX11_about_0 C h rfl ⟨hR, va_S.rf⟩ hl
theorem in_X11_store_X11 : ∀ w ∈ wsX110, w ∈ wsX11_store := by decide +kernel
theorem in_X11_store_X4 : ∀ w ∈ wsX40, w ∈ wsX11_store := by decide +kernel
abbrev rmX11_store : Room := { frames := 1, cells := 0, slots := 0, locals := 22 }
noncomputable def fX11_store (N : Nat) (x0 : Nat) (x1 : Int32) (z : Hp) : Option (Int32 × Hp) := bo (fX11_isOutside N x1 (1 : Int32) (10000000 : Int32) z) fun r2 => br (r2 = 0) (gd (x0 < zn z ∧ zK z x0 = 10) <| bo (zG z 644 x0) fun b6 => gd (b6 < zn z ∧ zK z b6 = 3) <| br (((zF z 195 b6) + x1) ≤ (100000000 : Int32)) (bo (zG z 644 x0) fun b10 => gd (b10 < zn z ∧ zK z b10 = 3) <| bd (zsF z 195 b10 ((zF z 195 b10) + x1)) fun z12 => bo (zG z12 644 x0) fun b16 => gd (b16 < zn z12 ∧ zK z12 b16 = 3) <| some ((zF z12 195 b16), z12)) (some ((-4 : Int32), z))) (some ((-2 : Int32), z))
set_option maxHeartbeats 4000000 in
set_option maxRecDepth 100000 in
theorem tX11_store_0 {n0 : Nat} {D : va_G} {Y : Nat → ClassId} {p : Program} {l : Launch} {e : Env} {s : State} {m : MethodId} {args : Array Value} {below : List Frame} {meth : Method} {c : Code} {N : Nat} {fin : Int32 × Hp} {x0 : Nat} {x1 : Int32}  {z : Hp} (C : Cx n0 D Y RX11 cX11_store (some .int) 2 wsX11_store "store" p s m args meth c) {x : (Int32 × Hp)} (h : fX11_store N x0 x1  z = some x) (hF : (fun x => x = fin) x) {H : Heap} {locs : List Loc} {ls : Array Slot} (hw : Wd n0 D Y z s H locs) (hl : lv_has ls 2 [(0, .ref (n0 + x0)), (1, .int x1)]) : W p l e rmX11_store s m args below meth c H locs 0 0 (MQ below (PosI n0 D Y fin.2 fin.1) args s 0 0 (AA n0)) (F0 m 0 ls []) := by
  unfold fX11_store at h
  refine lv_iload_n C.1 C.2.1 dX11_store_0 rfl (lv_at hl 1 rfl) ?_
  refine lv_iconst (v := (1 : Int32)) C.1 C.2.1 dX11_store_1 (by decide) ?_
  refine lv_ldc (v := (10000000 : Int32)) C.1 C.2.1 C.2.2.2.2.1 (C.2.2.2.2.2.1 (.constant RX11 234 (10000000 : Int32)) (by decide +kernel)) dX11_store_2 ?_
  obtain ⟨r2, e1, h⟩ := boE h
  refine r_afti hw (r_runS (As := [.int x1, .int (1 : Int32), .int (10000000 : Int32)]) (rest := []) C hw (kX11_isOutside l n0 D Y N x1 (1 : Int32) (10000000 : Int32) z e1) (va_cwS 3 C.2.2.2.2.2.1 gX11_store_X11_isOutside rfl rfl rfl (by decide +kernel) ⟨(Nat.le_of_ble_eq_true rfl), (Nat.le_of_ble_eq_true rfl)⟩) rfl hl.1 rfl (Nat.le_of_ble_eq_true rfl) dX11_store_4 ⟨(Nat.le_of_ble_eq_true rfl), (Nat.le_of_ble_eq_true rfl)⟩) (fun H locs hw => ?_)
  refine lv_if_eq (tgt := 13) C.1 C.2.1 dX11_store_7 (by decide) (fun c3 => ?_) (fun c3 => ?_)
  · replace h := brT h c3
    refine lv_aload_n C.1 C.2.1 dX11_store_13 rfl (lv_at hl 0 rfl) ?_
    obtain ⟨g4, h⟩ := gdE h
    refine r_get (v := rv n0 (zG z 644 x0)) C hw g4 (by decide) (Cn := RX11) (T := TX11) (N := 12) rfl in_X11_store_X11 4 (by decide) (by decide +kernel) (fun _ h => h) rfl dX11_store_14 ?_
    obtain ⟨b6, e5, h⟩ := boE h
    refine r_topr e5 ?_
    obtain ⟨g7, h⟩ := gdE h
    refine r_get (v := .int (zF z 195 b6)) C hw g7 (by decide) (Cn := RX4) (T := TX4) (N := 8) rfl in_X11_store_X4 3 (by decide) (by decide +kernel) (fun _ h => h) rfl dX11_store_17 ?_
    refine lv_iload_n C.1 C.2.1 dX11_store_20 rfl (lv_at hl 1 rfl) ?_
    refine lv_iadd C.1 C.2.1 dX11_store_21 ?_
    refine lv_ldc (v := (100000000 : Int32)) C.1 C.2.1 C.2.2.2.2.1 (C.2.2.2.2.2.1 (.constant RX11 238 (100000000 : Int32)) (by decide +kernel)) dX11_store_22 ?_
    refine lv_icmp_le (tgt := 30) C.1 C.2.1 dX11_store_24 (by decide) (fun c8 => ?_) (fun c8 => ?_)
    · replace h := brT h c8
      refine lv_aload_n C.1 C.2.1 dX11_store_30 rfl (lv_at hl 0 rfl) ?_
      refine r_get (v := rv n0 (zG z 644 x0)) C hw g4 (by decide) (Cn := RX11) (T := TX11) (N := 12) rfl in_X11_store_X11 4 (by decide) (by decide +kernel) (fun _ h => h) rfl dX11_store_31 ?_
      obtain ⟨b10, e9, h⟩ := boE h
      refine r_topr e9 ?_
      refine lv_dup C.1 C.2.1 dX11_store_34 rfl ?_
      obtain ⟨g11, h⟩ := gdE h
      refine r_get (v := .int (zF z 195 b10)) C hw g11 (by decide) (Cn := RX4) (T := TX4) (N := 8) rfl in_X11_store_X4 3 (by decide) (by decide +kernel) (fun _ h => h) rfl dX11_store_35 ?_
      refine lv_iload_n C.1 C.2.1 dX11_store_38 rfl (lv_at hl 1 rfl) ?_
      refine lv_iadd C.1 C.2.1 dX11_store_39 ?_
      obtain ⟨z12, e13, h⟩ := bdE h
      refine r_putI C hw g11 (by decide) (Cn := RX4) (T := TX4) (N := 8) rfl in_X11_store_X4 tyX4 tyX4_ok nmX4 3 (by decide) (by decide +kernel) (fun _ h => h) (Or.inl rfl) (ty := .int) (by decide +kernel) rfl rfl (Nat.le_of_ble_eq_true rfl) (st_3_3 n0 z b10 ((zF z 195 b10) + x1)) e13 dX11_store_40 (fun H locs hw => ?_)
      refine lv_aload_n C.1 C.2.1 dX11_store_43 rfl (lv_at hl 0 rfl) ?_
      have g14 : x0 < zn z12 ∧ zK z12 x0 = 10 := by rw [e13]; exact g4
      refine r_get (v := rv n0 (zG z12 644 x0)) C hw g14 (by decide) (Cn := RX11) (T := TX11) (N := 12) rfl in_X11_store_X11 4 (by decide) (by decide +kernel) (fun _ h => h) rfl dX11_store_44 ?_
      obtain ⟨b16, e15, h⟩ := boE h
      refine r_topr e15 ?_
      obtain ⟨g17, h⟩ := gdE h
      refine r_get (v := .int (zF z12 195 b16)) C hw g17 (by decide) (Cn := RX4) (T := TX4) (N := 8) rfl in_X11_store_X4 3 (by decide) (by decide +kernel) (fun _ h => h) rfl dX11_store_47 ?_
      cases h
      replace hF : _ = fin := hF
      subst hF
      exact r_iret C hw dX11_store_50
    · replace h := brF h c8
      refine lv_bipush (v := (-4 : Int32)) C.1 C.2.1 dX11_store_27 (by decide) ?_
      cases h
      replace hF : _ = fin := hF
      subst hF
      exact r_iret C hw dX11_store_29
  · replace h := brF h c3
    refine lv_bipush (v := (-2 : Int32)) C.1 C.2.1 dX11_store_10 (by decide) ?_
    cases h
    replace hF : _ = fin := hF
    subst hF
    exact r_iret C hw dX11_store_12
set_option maxRecDepth 100000 in
theorem kX11_store (l : Launch) (n0 : Nat) (D : va_G) (Y : Nat → ClassId) (N : Nat) (x0 : Nat) (x1 : Int32) (z : Hp) {r : Int32} {z1 : Hp} (h : fX11_store N x0 x1 z = some (r, z1)) : Met l yX11_store wsX11_store rmX11_store (PreC n0 D Y z [.ref (n0 + x0), .int x1]) (PosI n0 D Y z1 r) 0 0 (AA n0) := by
  refine Met.ofW (cc := cX11_store) (maxL := 2) (ret := (some .int)) (by decide) rfl ?_
  intro p e s m args below meth c s₁ B hml hv
  obtain ⟨rfl, hR, hK⟩ := hv
  have C : Cx n0 D Y RX11 cX11_store (some .int) 2 wsX11_store "store" p s m ([.ref (n0 + x0), .int x1] : List Value).toArray meth c := ⟨B.exec, B.bytes, B.returns, hml, findClass_of_methodNamed B.named, atoms_spec (ws := wsX11_store) B.pre, B.notSynchronized, (name_of_methodNamed B.named B.method).1, hK⟩
  have hl := lv_entry ([.ref (n0 + x0), .int x1]) (n := 2) (Nat.le_of_ble_eq_true rfl)
  rw [lg_entry_eq]
  generalize (lg_sl ([.ref (n0 + x0), .int x1]) ++ List.replicate (2 - (lg_sl ([.ref (n0 + x0), .int x1])).length) Slot.unset).toArray = ls at hl ⊢
  have hl : lv_has ls 2 [(0, .ref (n0 + x0)), (1, .int x1)] := hl
  exact tX11_store_0 C h rfl ⟨hR, va_S.rf⟩ hl
theorem in_X11_mouths_X11 : ∀ w ∈ wsX110, w ∈ wsX11_mouths := by decide +kernel
theorem in_X11_mouths_X4 : ∀ w ∈ wsX40, w ∈ wsX11_mouths := by decide +kernel
abbrev rmX11_mouths : Room := { frames := 1, cells := 0, slots := 0, locals := 22 }
noncomputable def fX11_mouths_22 (N : Nat) (x0 : Nat) (z : Hp) : Option (Int32 × Hp) := some ((-2 : Int32), z)
set_option maxHeartbeats 4000000 in
set_option maxRecDepth 100000 in
theorem tX11_mouths_22 {n0 : Nat} {D : va_G} {Y : Nat → ClassId} {p : Program} {l : Launch} {e : Env} {s : State} {m : MethodId} {args : Array Value} {below : List Frame} {meth : Method} {c : Code} {N : Nat} {fin : Int32 × Hp} {x0 : Nat}  {z : Hp} (C : Cx n0 D Y RX11 cX11_mouths (some .int) 3 wsX11_mouths "mouths" p s m args meth c) {x : (Int32 × Hp)} (h : fX11_mouths_22 N x0  z = some x) (hF : (fun x => x = fin) x) {H : Heap} {locs : List Loc} {ls : Array Slot} (hw : Wd n0 D Y z s H locs) (hl : lv_has ls 3 [(0, .ref (n0 + x0))]) : W p l e rmX11_mouths s m args below meth c H locs 0 0 (MQ below (PosI n0 D Y fin.2 fin.1) args s 0 0 (AA n0)) (F0 m 22 ls []) := by
  unfold fX11_mouths_22 at h
  refine lv_bipush (v := (-2 : Int32)) C.1 C.2.1 dX11_mouths_22 (by decide) ?_
  cases h
  replace hF : _ = fin := hF
  subst hF
  exact r_iret C hw dX11_mouths_24
noncomputable def fX11_mouths (N : Nat) (x0 : Nat) (x1 : Int32) (x2 : Int32) (z : Hp) : Option (Int32 × Hp) := bo (fX11_isOutside N x1 (0 : Int32) (10000 : Int32) z) fun r2 => br (r2 = 0) (bo (fX11_isOutside N x2 (1 : Int32) (1000 : Int32) z) fun r5 => br (r5 = 0) (gd (x0 < zn z ∧ zK z x0 = 10) <| bo (zG z 644 x0) fun b9 => gd (b9 < zn z ∧ zK z b9 = 3) <| bd (zsF z 196 b9 x1) fun z10 => bo (zG z10 644 x0) fun b15 => gd (b15 < zn z10 ∧ zK z10 b15 = 3) <| bd (zsF z10 197 b15 x2) fun z16 => some ((1 : Int32), z16)) (fX11_mouths_22 N x0 z)) (fX11_mouths_22 N x0 z)
set_option maxHeartbeats 4000000 in
set_option maxRecDepth 100000 in
theorem tX11_mouths_0 {n0 : Nat} {D : va_G} {Y : Nat → ClassId} {p : Program} {l : Launch} {e : Env} {s : State} {m : MethodId} {args : Array Value} {below : List Frame} {meth : Method} {c : Code} {N : Nat} {fin : Int32 × Hp} {x0 : Nat} {x1 : Int32} {x2 : Int32}  {z : Hp} (C : Cx n0 D Y RX11 cX11_mouths (some .int) 3 wsX11_mouths "mouths" p s m args meth c) {x : (Int32 × Hp)} (h : fX11_mouths N x0 x1 x2  z = some x) (hF : (fun x => x = fin) x) {H : Heap} {locs : List Loc} {ls : Array Slot} (hw : Wd n0 D Y z s H locs) (hl : lv_has ls 3 [(0, .ref (n0 + x0)), (1, .int x1), (2, .int x2)]) : W p l e rmX11_mouths s m args below meth c H locs 0 0 (MQ below (PosI n0 D Y fin.2 fin.1) args s 0 0 (AA n0)) (F0 m 0 ls []) := by
  unfold fX11_mouths at h
  refine lv_iload_n C.1 C.2.1 dX11_mouths_0 rfl (lv_at hl 1 rfl) ?_
  refine lv_iconst (v := (0 : Int32)) C.1 C.2.1 dX11_mouths_1 (by decide) ?_
  refine lv_sipush (v := (10000 : Int32)) C.1 C.2.1 dX11_mouths_2 (by decide) ?_
  obtain ⟨r2, e1, h⟩ := boE h
  refine r_afti hw (r_runS (As := [.int x1, .int (0 : Int32), .int (10000 : Int32)]) (rest := []) C hw (kX11_isOutside l n0 D Y N x1 (0 : Int32) (10000 : Int32) z e1) (va_cwS 3 C.2.2.2.2.2.1 gX11_mouths_X11_isOutside rfl rfl rfl (by decide +kernel) ⟨(Nat.le_of_ble_eq_true rfl), (Nat.le_of_ble_eq_true rfl)⟩) rfl hl.1 rfl (Nat.le_of_ble_eq_true rfl) dX11_mouths_5 ⟨(Nat.le_of_ble_eq_true rfl), (Nat.le_of_ble_eq_true rfl)⟩) (fun H locs hw => ?_)
  refine lv_if_ne (tgt := 22) C.1 C.2.1 dX11_mouths_8 (by decide) (fun c3 => ?_) (fun c3 => ?_)
  · replace h := brF h c3
    exact tX11_mouths_22 C h hF hw (lv_sub hl [0] rfl)
  · replace h := brT h c3
    refine lv_iload_n C.1 C.2.1 dX11_mouths_11 rfl (lv_at hl 2 rfl) ?_
    refine lv_iconst (v := (1 : Int32)) C.1 C.2.1 dX11_mouths_12 (by decide) ?_
    refine lv_sipush (v := (1000 : Int32)) C.1 C.2.1 dX11_mouths_13 (by decide) ?_
    obtain ⟨r5, e4, h⟩ := boE h
    refine r_afti hw (r_runS (As := [.int x2, .int (1 : Int32), .int (1000 : Int32)]) (rest := []) C hw (kX11_isOutside l n0 D Y N x2 (1 : Int32) (1000 : Int32) z e4) (va_cwS 3 C.2.2.2.2.2.1 gX11_mouths_X11_isOutside rfl rfl rfl (by decide +kernel) ⟨(Nat.le_of_ble_eq_true rfl), (Nat.le_of_ble_eq_true rfl)⟩) rfl hl.1 rfl (Nat.le_of_ble_eq_true rfl) dX11_mouths_16 ⟨(Nat.le_of_ble_eq_true rfl), (Nat.le_of_ble_eq_true rfl)⟩) (fun H locs hw => ?_)
    refine lv_if_eq (tgt := 25) C.1 C.2.1 dX11_mouths_19 (by decide) (fun c6 => ?_) (fun c6 => ?_)
    · replace h := brT h c6
      refine lv_aload_n C.1 C.2.1 dX11_mouths_25 rfl (lv_at hl 0 rfl) ?_
      obtain ⟨g7, h⟩ := gdE h
      refine r_get (v := rv n0 (zG z 644 x0)) C hw g7 (by decide) (Cn := RX11) (T := TX11) (N := 12) rfl in_X11_mouths_X11 4 (by decide) (by decide +kernel) (fun _ h => h) rfl dX11_mouths_26 ?_
      obtain ⟨b9, e8, h⟩ := boE h
      refine r_topr e8 ?_
      refine lv_iload_n C.1 C.2.1 dX11_mouths_29 rfl (lv_at hl 1 rfl) ?_
      obtain ⟨g12, h⟩ := gdE h
      obtain ⟨z10, e11, h⟩ := bdE h
      refine r_putI C hw g12 (by decide) (Cn := RX4) (T := TX4) (N := 8) rfl in_X11_mouths_X4 tyX4 tyX4_ok nmX4 4 (by decide) (by decide +kernel) (fun _ h => h) (Or.inl rfl) (ty := .int) (by decide +kernel) rfl rfl (Nat.le_of_ble_eq_true rfl) (st_3_4 n0 z b9 x1) e11 dX11_mouths_30 (fun H locs hw => ?_)
      refine lv_aload_n C.1 C.2.1 dX11_mouths_33 rfl (lv_at hl 0 rfl) ?_
      have g13 : x0 < zn z10 ∧ zK z10 x0 = 10 := by rw [e11]; exact g7
      refine r_get (v := rv n0 (zG z10 644 x0)) C hw g13 (by decide) (Cn := RX11) (T := TX11) (N := 12) rfl in_X11_mouths_X11 4 (by decide) (by decide +kernel) (fun _ h => h) rfl dX11_mouths_34 ?_
      obtain ⟨b15, e14, h⟩ := boE h
      refine r_topr e14 ?_
      refine lv_iload_n C.1 C.2.1 dX11_mouths_37 rfl (lv_at hl 2 rfl) ?_
      obtain ⟨g18, h⟩ := gdE h
      obtain ⟨z16, e17, h⟩ := bdE h
      refine r_putI C hw g18 (by decide) (Cn := RX4) (T := TX4) (N := 8) rfl in_X11_mouths_X4 tyX4 tyX4_ok nmX4 5 (by decide) (by decide +kernel) (fun _ h => h) (Or.inl rfl) (ty := .int) (by decide +kernel) rfl rfl (Nat.le_of_ble_eq_true rfl) (st_3_5 n0 z10 b15 x2) e17 dX11_mouths_38 (fun H locs hw => ?_)
      refine lv_iconst (v := (1 : Int32)) C.1 C.2.1 dX11_mouths_41 (by decide) ?_
      cases h
      replace hF : _ = fin := hF
      subst hF
      exact r_iret C hw dX11_mouths_42
    · replace h := brF h c6
      exact tX11_mouths_22 C h hF hw (lv_sub hl [0] rfl)
set_option maxRecDepth 100000 in
theorem kX11_mouths (l : Launch) (n0 : Nat) (D : va_G) (Y : Nat → ClassId) (N : Nat) (x0 : Nat) (x1 : Int32) (x2 : Int32) (z : Hp) {r : Int32} {z1 : Hp} (h : fX11_mouths N x0 x1 x2 z = some (r, z1)) : Met l yX11_mouths wsX11_mouths rmX11_mouths (PreC n0 D Y z [.ref (n0 + x0), .int x1, .int x2]) (PosI n0 D Y z1 r) 0 0 (AA n0) := by
  refine Met.ofW (cc := cX11_mouths) (maxL := 3) (ret := (some .int)) (by decide) rfl ?_
  intro p e s m args below meth c s₁ B hml hv
  obtain ⟨rfl, hR, hK⟩ := hv
  have C : Cx n0 D Y RX11 cX11_mouths (some .int) 3 wsX11_mouths "mouths" p s m ([.ref (n0 + x0), .int x1, .int x2] : List Value).toArray meth c := ⟨B.exec, B.bytes, B.returns, hml, findClass_of_methodNamed B.named, atoms_spec (ws := wsX11_mouths) B.pre, B.notSynchronized, (name_of_methodNamed B.named B.method).1, hK⟩
  have hl := lv_entry ([.ref (n0 + x0), .int x1, .int x2]) (n := 3) (Nat.le_of_ble_eq_true rfl)
  rw [lg_entry_eq]
  generalize (lg_sl ([.ref (n0 + x0), .int x1, .int x2]) ++ List.replicate (3 - (lg_sl ([.ref (n0 + x0), .int x1, .int x2])).length) Slot.unset).toArray = ls at hl ⊢
  have hl : lv_has ls 3 [(0, .ref (n0 + x0)), (1, .int x1), (2, .int x2)] := hl
  exact tX11_mouths_0 C h rfl ⟨hR, va_S.rf⟩ hl
theorem in_X11_ration_X11 : ∀ w ∈ wsX110, w ∈ wsX11_ration := by decide +kernel
theorem in_X11_ration_X4 : ∀ w ∈ wsX40, w ∈ wsX11_ration := by decide +kernel
abbrev rmX11_ration : Room := { frames := 1, cells := 0, slots := 0, locals := 22 }
noncomputable def fX11_ration (N : Nat) (x0 : Nat) (x1 : Int32) (z : Hp) : Option (Int32 × Hp) := bo (fX11_isOutside N x1 (1 : Int32) (100 : Int32) z) fun r2 => br (r2 = 0) (gd (x0 < zn z ∧ zK z x0 = 10) <| bo (zG z 644 x0) fun b6 => gd (b6 < zn z ∧ zK z b6 = 3) <| bd (zF z 198 b6) fun v8 => bo (zG z 644 x0) fun b11 => gd (b11 < zn z ∧ zK z b11 = 3) <| bd (zsF z 198 b11 x1) fun z12 => some (v8, z12)) (some ((-2 : Int32), z))
set_option maxHeartbeats 4000000 in
set_option maxRecDepth 100000 in
theorem tX11_ration_0 {n0 : Nat} {D : va_G} {Y : Nat → ClassId} {p : Program} {l : Launch} {e : Env} {s : State} {m : MethodId} {args : Array Value} {below : List Frame} {meth : Method} {c : Code} {N : Nat} {fin : Int32 × Hp} {x0 : Nat} {x1 : Int32}  {z : Hp} (C : Cx n0 D Y RX11 cX11_ration (some .int) 3 wsX11_ration "ration" p s m args meth c) {x : (Int32 × Hp)} (h : fX11_ration N x0 x1  z = some x) (hF : (fun x => x = fin) x) {H : Heap} {locs : List Loc} {ls : Array Slot} (hw : Wd n0 D Y z s H locs) (hl : lv_has ls 3 [(0, .ref (n0 + x0)), (1, .int x1)]) : W p l e rmX11_ration s m args below meth c H locs 0 0 (MQ below (PosI n0 D Y fin.2 fin.1) args s 0 0 (AA n0)) (F0 m 0 ls []) := by
  unfold fX11_ration at h
  refine lv_iload_n C.1 C.2.1 dX11_ration_0 rfl (lv_at hl 1 rfl) ?_
  refine lv_iconst (v := (1 : Int32)) C.1 C.2.1 dX11_ration_1 (by decide) ?_
  refine lv_bipush (v := (100 : Int32)) C.1 C.2.1 dX11_ration_2 (by decide) ?_
  obtain ⟨r2, e1, h⟩ := boE h
  refine r_afti hw (r_runS (As := [.int x1, .int (1 : Int32), .int (100 : Int32)]) (rest := []) C hw (kX11_isOutside l n0 D Y N x1 (1 : Int32) (100 : Int32) z e1) (va_cwS 3 C.2.2.2.2.2.1 gX11_ration_X11_isOutside rfl rfl rfl (by decide +kernel) ⟨(Nat.le_of_ble_eq_true rfl), (Nat.le_of_ble_eq_true rfl)⟩) rfl hl.1 rfl (Nat.le_of_ble_eq_true rfl) dX11_ration_4 ⟨(Nat.le_of_ble_eq_true rfl), (Nat.le_of_ble_eq_true rfl)⟩) (fun H locs hw => ?_)
  refine lv_if_eq (tgt := 13) C.1 C.2.1 dX11_ration_7 (by decide) (fun c3 => ?_) (fun c3 => ?_)
  · replace h := brT h c3
    refine lv_aload_n C.1 C.2.1 dX11_ration_13 rfl (lv_at hl 0 rfl) ?_
    obtain ⟨g4, h⟩ := gdE h
    refine r_get (v := rv n0 (zG z 644 x0)) C hw g4 (by decide) (Cn := RX11) (T := TX11) (N := 12) rfl in_X11_ration_X11 4 (by decide) (by decide +kernel) (fun _ h => h) rfl dX11_ration_14 ?_
    obtain ⟨b6, e5, h⟩ := boE h
    refine r_topr e5 ?_
    obtain ⟨g7, h⟩ := gdE h
    refine r_get (v := .int (zF z 198 b6)) C hw g7 (by decide) (Cn := RX4) (T := TX4) (N := 8) rfl in_X11_ration_X4 6 (by decide) (by decide +kernel) (fun _ h => h) rfl dX11_ration_17 ?_
    obtain ⟨v8, e9, h⟩ := bdE h
    refine r_topi e9 ?_
    refine lv_istore_n (i := 2) (lv' := [(2, .int v8), (0, .ref (n0 + x0)), (1, .int x1)]) C.1 C.2.1 dX11_ration_20 rfl hl (by decide) rfl (fun ls hl => ?_)
    refine lv_aload_n C.1 C.2.1 dX11_ration_21 rfl (lv_at hl 1 rfl) ?_
    refine r_get (v := rv n0 (zG z 644 x0)) C hw g4 (by decide) (Cn := RX11) (T := TX11) (N := 12) rfl in_X11_ration_X11 4 (by decide) (by decide +kernel) (fun _ h => h) rfl dX11_ration_22 ?_
    obtain ⟨b11, e10, h⟩ := boE h
    refine r_topr e10 ?_
    refine lv_iload_n C.1 C.2.1 dX11_ration_25 rfl (lv_at hl 2 rfl) ?_
    obtain ⟨g14, h⟩ := gdE h
    obtain ⟨z12, e13, h⟩ := bdE h
    refine r_putI C hw g14 (by decide) (Cn := RX4) (T := TX4) (N := 8) rfl in_X11_ration_X4 tyX4 tyX4_ok nmX4 6 (by decide) (by decide +kernel) (fun _ h => h) (Or.inl rfl) (ty := .int) (by decide +kernel) rfl rfl (Nat.le_of_ble_eq_true rfl) (st_3_6 n0 z b11 x1) e13 dX11_ration_26 (fun H locs hw => ?_)
    refine lv_iload_n C.1 C.2.1 dX11_ration_29 rfl (lv_at hl 0 rfl) ?_
    cases h
    replace hF : _ = fin := hF
    subst hF
    exact r_iret C hw dX11_ration_30
  · replace h := brF h c3
    refine lv_bipush (v := (-2 : Int32)) C.1 C.2.1 dX11_ration_10 (by decide) ?_
    cases h
    replace hF : _ = fin := hF
    subst hF
    exact r_iret C hw dX11_ration_12
set_option maxRecDepth 100000 in
theorem kX11_ration (l : Launch) (n0 : Nat) (D : va_G) (Y : Nat → ClassId) (N : Nat) (x0 : Nat) (x1 : Int32) (z : Hp) {r : Int32} {z1 : Hp} (h : fX11_ration N x0 x1 z = some (r, z1)) : Met l yX11_ration wsX11_ration rmX11_ration (PreC n0 D Y z [.ref (n0 + x0), .int x1]) (PosI n0 D Y z1 r) 0 0 (AA n0) := by
  refine Met.ofW (cc := cX11_ration) (maxL := 3) (ret := (some .int)) (by decide) rfl ?_
  intro p e s m args below meth c s₁ B hml hv
  obtain ⟨rfl, hR, hK⟩ := hv
  have C : Cx n0 D Y RX11 cX11_ration (some .int) 3 wsX11_ration "ration" p s m ([.ref (n0 + x0), .int x1] : List Value).toArray meth c := ⟨B.exec, B.bytes, B.returns, hml, findClass_of_methodNamed B.named, atoms_spec (ws := wsX11_ration) B.pre, B.notSynchronized, (name_of_methodNamed B.named B.method).1, hK⟩
  have hl := lv_entry ([.ref (n0 + x0), .int x1]) (n := 3) (Nat.le_of_ble_eq_true rfl)
  rw [lg_entry_eq]
  generalize (lg_sl ([.ref (n0 + x0), .int x1]) ++ List.replicate (3 - (lg_sl ([.ref (n0 + x0), .int x1])).length) Slot.unset).toArray = ls at hl ⊢
  have hl : lv_has ls 3 [(0, .ref (n0 + x0)), (1, .int x1)] := hl
  exact tX11_ration_0 C h rfl ⟨hR, va_S.rf⟩ hl
theorem in_X11_harvest_X11 : ∀ w ∈ wsX110, w ∈ wsX11_harvest := by decide +kernel
theorem in_X11_harvest_X4 : ∀ w ∈ wsX40, w ∈ wsX11_harvest := by decide +kernel
abbrev rmX11_harvest : Room := { frames := 1, cells := 0, slots := 0, locals := 22 }
noncomputable def fX11_harvest_21 (N : Nat) (x0 : Nat) (z : Hp) : Option (Int32 × Hp) := some ((-2 : Int32), z)
set_option maxHeartbeats 4000000 in
set_option maxRecDepth 100000 in
theorem tX11_harvest_21 {n0 : Nat} {D : va_G} {Y : Nat → ClassId} {p : Program} {l : Launch} {e : Env} {s : State} {m : MethodId} {args : Array Value} {below : List Frame} {meth : Method} {c : Code} {N : Nat} {fin : Int32 × Hp} {x0 : Nat}  {z : Hp} (C : Cx n0 D Y RX11 cX11_harvest (some .int) 3 wsX11_harvest "harvest" p s m args meth c) {x : (Int32 × Hp)} (h : fX11_harvest_21 N x0  z = some x) (hF : (fun x => x = fin) x) {H : Heap} {locs : List Loc} {ls : Array Slot} (hw : Wd n0 D Y z s H locs) (hl : lv_has ls 3 [(0, .ref (n0 + x0))]) : W p l e rmX11_harvest s m args below meth c H locs 0 0 (MQ below (PosI n0 D Y fin.2 fin.1) args s 0 0 (AA n0)) (F0 m 21 ls []) := by
  unfold fX11_harvest_21 at h
  refine lv_bipush (v := (-2 : Int32)) C.1 C.2.1 dX11_harvest_21 (by decide) ?_
  cases h
  replace hF : _ = fin := hF
  subst hF
  exact r_iret C hw dX11_harvest_23
noncomputable def fX11_harvest (N : Nat) (x0 : Nat) (x1 : Int32) (x2 : Int32) (z : Hp) : Option (Int32 × Hp) := bo (fX11_isOutside N x1 (0 : Int32) (199 : Int32) z) fun r2 => br (r2 = 0) (bo (fX11_isOutside N x2 (1 : Int32) (10000000 : Int32) z) fun r5 => br (r5 = 0) (gd (x0 < zn z ∧ zK z x0 = 10) <| bo (zG z 644 x0) fun b9 => gd (b9 < zn z ∧ zK z b9 = 3) <| br ((zF z 194 b9) < (10 : Int32)) (bo (fX11_weekNow N x0 z) fun r13 => br (r13 < x1) (bo (zG z 644 x0) fun b16 => gd (b16 < zn z ∧ zK z b16 = 3) <| bo (fX4_expect N b16 x1 x2 z) fun z18 => gd (x0 < zn z18 ∧ zK z18 x0 = 10) <| bo (zG z18 644 x0) fun b22 => gd (b22 < zn z18 ∧ zK z18 b22 = 3) <| some ((zF z18 194 b22), z18)) (some ((-5 : Int32), z))) (some ((-4 : Int32), z))) (fX11_harvest_21 N x0 z)) (fX11_harvest_21 N x0 z)
set_option maxHeartbeats 4000000 in
set_option maxRecDepth 100000 in
theorem tX11_harvest_0 {n0 : Nat} {D : va_G} {Y : Nat → ClassId} {p : Program} {l : Launch} {e : Env} {s : State} {m : MethodId} {args : Array Value} {below : List Frame} {meth : Method} {c : Code} {N : Nat} {fin : Int32 × Hp} {x0 : Nat} {x1 : Int32} {x2 : Int32}  {z : Hp} (C : Cx n0 D Y RX11 cX11_harvest (some .int) 3 wsX11_harvest "harvest" p s m args meth c) {x : (Int32 × Hp)} (h : fX11_harvest N x0 x1 x2  z = some x) (hF : (fun x => x = fin) x) {H : Heap} {locs : List Loc} {ls : Array Slot} (hw : Wd n0 D Y z s H locs) (hl : lv_has ls 3 [(0, .ref (n0 + x0)), (1, .int x1), (2, .int x2)]) : W p l e rmX11_harvest s m args below meth c H locs 0 0 (MQ below (PosI n0 D Y fin.2 fin.1) args s 0 0 (AA n0)) (F0 m 0 ls []) := by
  unfold fX11_harvest at h
  refine lv_iload_n C.1 C.2.1 dX11_harvest_0 rfl (lv_at hl 1 rfl) ?_
  refine lv_iconst (v := (0 : Int32)) C.1 C.2.1 dX11_harvest_1 (by decide) ?_
  refine lv_sipush (v := (199 : Int32)) C.1 C.2.1 dX11_harvest_2 (by decide) ?_
  obtain ⟨r2, e1, h⟩ := boE h
  refine r_afti hw (r_runS (As := [.int x1, .int (0 : Int32), .int (199 : Int32)]) (rest := []) C hw (kX11_isOutside l n0 D Y N x1 (0 : Int32) (199 : Int32) z e1) (va_cwS 3 C.2.2.2.2.2.1 gX11_harvest_X11_isOutside rfl rfl rfl (by decide +kernel) ⟨(Nat.le_of_ble_eq_true rfl), (Nat.le_of_ble_eq_true rfl)⟩) rfl hl.1 rfl (Nat.le_of_ble_eq_true rfl) dX11_harvest_5 ⟨(Nat.le_of_ble_eq_true rfl), (Nat.le_of_ble_eq_true rfl)⟩) (fun H locs hw => ?_)
  refine lv_if_ne (tgt := 21) C.1 C.2.1 dX11_harvest_8 (by decide) (fun c3 => ?_) (fun c3 => ?_)
  · replace h := brF h c3
    exact tX11_harvest_21 C h hF hw (lv_sub hl [0] rfl)
  · replace h := brT h c3
    refine lv_iload_n C.1 C.2.1 dX11_harvest_11 rfl (lv_at hl 2 rfl) ?_
    refine lv_iconst (v := (1 : Int32)) C.1 C.2.1 dX11_harvest_12 (by decide) ?_
    refine lv_ldc (v := (10000000 : Int32)) C.1 C.2.1 C.2.2.2.2.1 (C.2.2.2.2.2.1 (.constant RX11 234 (10000000 : Int32)) (by decide +kernel)) dX11_harvest_13 ?_
    obtain ⟨r5, e4, h⟩ := boE h
    refine r_afti hw (r_runS (As := [.int x2, .int (1 : Int32), .int (10000000 : Int32)]) (rest := []) C hw (kX11_isOutside l n0 D Y N x2 (1 : Int32) (10000000 : Int32) z e4) (va_cwS 3 C.2.2.2.2.2.1 gX11_harvest_X11_isOutside rfl rfl rfl (by decide +kernel) ⟨(Nat.le_of_ble_eq_true rfl), (Nat.le_of_ble_eq_true rfl)⟩) rfl hl.1 rfl (Nat.le_of_ble_eq_true rfl) dX11_harvest_15 ⟨(Nat.le_of_ble_eq_true rfl), (Nat.le_of_ble_eq_true rfl)⟩) (fun H locs hw => ?_)
    refine lv_if_eq (tgt := 24) C.1 C.2.1 dX11_harvest_18 (by decide) (fun c6 => ?_) (fun c6 => ?_)
    · replace h := brT h c6
      refine lv_aload_n C.1 C.2.1 dX11_harvest_24 rfl (lv_at hl 0 rfl) ?_
      obtain ⟨g7, h⟩ := gdE h
      refine r_get (v := rv n0 (zG z 644 x0)) C hw g7 (by decide) (Cn := RX11) (T := TX11) (N := 12) rfl in_X11_harvest_X11 4 (by decide) (by decide +kernel) (fun _ h => h) rfl dX11_harvest_25 ?_
      obtain ⟨b9, e8, h⟩ := boE h
      refine r_topr e8 ?_
      obtain ⟨g10, h⟩ := gdE h
      refine r_get (v := .int (zF z 194 b9)) C hw g10 (by decide) (Cn := RX4) (T := TX4) (N := 8) rfl in_X11_harvest_X4 2 (by decide) (by decide +kernel) (fun _ h => h) rfl dX11_harvest_28 ?_
      refine lv_bipush (v := (10 : Int32)) C.1 C.2.1 dX11_harvest_31 (by decide) ?_
      refine lv_icmp_lt (tgt := 39) C.1 C.2.1 dX11_harvest_33 (by decide) (fun c11 => ?_) (fun c11 => ?_)
      · replace h := brT h c11
        refine lv_iload_n C.1 C.2.1 dX11_harvest_39 rfl (lv_at hl 1 rfl) ?_
        refine lv_aload_n C.1 C.2.1 dX11_harvest_40 rfl (lv_at hl 0 rfl) ?_
        obtain ⟨r13, e12, h⟩ := boE h
        refine r_afti hw (r_runV (As := []) (rest := [.int x1]) C hw (ki := 10) g7 (by decide) rfl (kX11_weekNow l n0 D Y N x0  z e12) (cwV 0 C.2.2.2.2.2.1 gX11_harvest_X11_weekNow rfl rfl rfl (by decide +kernel) ⟨(Nat.le_of_ble_eq_true rfl), (Nat.le_of_ble_eq_true rfl)⟩) rfl hl.1 rfl (Nat.le_of_ble_eq_true rfl) dX11_harvest_41 ⟨(Nat.le_of_ble_eq_true rfl), (Nat.le_of_ble_eq_true rfl)⟩) (fun H locs hw => ?_)
        refine lv_icmp_gt (tgt := 50) C.1 C.2.1 dX11_harvest_44 (by decide) (fun c14 => ?_) (fun c14 => ?_)
        · replace h := brT h c14
          refine lv_aload_n C.1 C.2.1 dX11_harvest_50 rfl (lv_at hl 0 rfl) ?_
          refine r_get (v := rv n0 (zG z 644 x0)) C hw g7 (by decide) (Cn := RX11) (T := TX11) (N := 12) rfl in_X11_harvest_X11 4 (by decide) (by decide +kernel) (fun _ h => h) rfl dX11_harvest_51 ?_
          obtain ⟨b16, e15, h⟩ := boE h
          refine r_topr e15 ?_
          refine lv_iload_n C.1 C.2.1 dX11_harvest_54 rfl (lv_at hl 1 rfl) ?_
          refine lv_iload_n C.1 C.2.1 dX11_harvest_55 rfl (lv_at hl 2 rfl) ?_
          obtain ⟨g19, h⟩ := gdE h
          obtain ⟨z18, e17, h⟩ := boE h
          refine r_aftv hw (r_runV (As := [.int x1, .int x2]) (rest := []) C hw (ki := 3) g19 (by decide) rfl (kX4_expect l n0 D Y N b16 x1 x2 z e17) (cwV 2 C.2.2.2.2.2.1 gX11_harvest_X4_expect rfl rfl rfl (by decide +kernel) ⟨(Nat.le_of_ble_eq_true rfl), (Nat.le_of_ble_eq_true rfl)⟩) rfl hl.1 rfl (Nat.le_of_ble_eq_true rfl) dX11_harvest_56 ⟨(Nat.le_of_ble_eq_true rfl), (Nat.le_of_ble_eq_true rfl)⟩) (fun H locs hw => ?_)
          refine lv_aload_n C.1 C.2.1 dX11_harvest_59 rfl (lv_at hl 0 rfl) ?_
          obtain ⟨g20, h⟩ := gdE h
          refine r_get (v := rv n0 (zG z18 644 x0)) C hw g20 (by decide) (Cn := RX11) (T := TX11) (N := 12) rfl in_X11_harvest_X11 4 (by decide) (by decide +kernel) (fun _ h => h) rfl dX11_harvest_60 ?_
          obtain ⟨b22, e21, h⟩ := boE h
          refine r_topr e21 ?_
          obtain ⟨g23, h⟩ := gdE h
          refine r_get (v := .int (zF z18 194 b22)) C hw g23 (by decide) (Cn := RX4) (T := TX4) (N := 8) rfl in_X11_harvest_X4 2 (by decide) (by decide +kernel) (fun _ h => h) rfl dX11_harvest_63 ?_
          cases h
          replace hF : _ = fin := hF
          subst hF
          exact r_iret C hw dX11_harvest_66
        · replace h := brF h c14
          refine lv_bipush (v := (-5 : Int32)) C.1 C.2.1 dX11_harvest_47 (by decide) ?_
          cases h
          replace hF : _ = fin := hF
          subst hF
          exact r_iret C hw dX11_harvest_49
      · replace h := brF h c11
        refine lv_bipush (v := (-4 : Int32)) C.1 C.2.1 dX11_harvest_36 (by decide) ?_
        cases h
        replace hF : _ = fin := hF
        subst hF
        exact r_iret C hw dX11_harvest_38
    · replace h := brF h c6
      exact tX11_harvest_21 C h hF hw (lv_sub hl [0] rfl)
set_option maxRecDepth 100000 in
theorem kX11_harvest (l : Launch) (n0 : Nat) (D : va_G) (Y : Nat → ClassId) (N : Nat) (x0 : Nat) (x1 : Int32) (x2 : Int32) (z : Hp) {r : Int32} {z1 : Hp} (h : fX11_harvest N x0 x1 x2 z = some (r, z1)) : Met l yX11_harvest wsX11_harvest rmX11_harvest (PreC n0 D Y z [.ref (n0 + x0), .int x1, .int x2]) (PosI n0 D Y z1 r) 0 0 (AA n0) := by
  refine Met.ofW (cc := cX11_harvest) (maxL := 3) (ret := (some .int)) (by decide) rfl ?_
  intro p e s m args below meth c s₁ B hml hv
  obtain ⟨rfl, hR, hK⟩ := hv
  have C : Cx n0 D Y RX11 cX11_harvest (some .int) 3 wsX11_harvest "harvest" p s m ([.ref (n0 + x0), .int x1, .int x2] : List Value).toArray meth c := ⟨B.exec, B.bytes, B.returns, hml, findClass_of_methodNamed B.named, atoms_spec (ws := wsX11_harvest) B.pre, B.notSynchronized, (name_of_methodNamed B.named B.method).1, hK⟩
  have hl := lv_entry ([.ref (n0 + x0), .int x1, .int x2]) (n := 3) (Nat.le_of_ble_eq_true rfl)
  rw [lg_entry_eq]
  generalize (lg_sl ([.ref (n0 + x0), .int x1, .int x2]) ++ List.replicate (3 - (lg_sl ([.ref (n0 + x0), .int x1, .int x2])).length) Slot.unset).toArray = ls at hl ⊢
  have hl : lv_has ls 3 [(0, .ref (n0 + x0)), (1, .int x1), (2, .int x2)] := hl
  exact tX11_harvest_0 C h rfl ⟨hR, va_S.rf⟩ hl
theorem in_X11_foretell_X11 : ∀ w ∈ wsX110, w ∈ wsX11_foretell := by decide +kernel
abbrev rmX11_foretell : Room := { frames := 3, cells := 0, slots := 0, locals := 72 }
noncomputable def fX11_foretell (N : Nat) (x0 : Nat) (x1 : Int32) (z : Hp) : Option (Int32) := bo (fX11_isOutside N x1 (1 : Int32) (100 : Int32) z) fun r2 => br (r2 = 0) (gd (x0 < zn z ∧ zK z x0 = 10) <| bo (zG z 644 x0) fun b6 => bo (fX11_weekNow N x0 z) fun r8 => gd (b6 < zn z ∧ zK z b6 = 3) <| bo (fX4_firstHunger N b6 r8 (199 : Int32) x1 z) fun r10 => some r10) (some (-2 : Int32))
set_option maxHeartbeats 4000000 in
set_option maxRecDepth 100000 in
theorem tX11_foretell_0 {n0 : Nat} {D : va_G} {Y : Nat → ClassId} {p : Program} {l : Launch} {e : Env} {s : State} {m : MethodId} {args : Array Value} {below : List Frame} {meth : Method} {c : Code} {N : Nat} {fin : Int32} {x0 : Nat} {x1 : Int32}  {z : Hp} (C : Cx n0 D Y RX11 cX11_foretell (some .int) 2 wsX11_foretell "foretell" p s m args meth c) {x : (Int32)} (h : fX11_foretell N x0 x1  z = some x) (hF : (fun x => x = fin) x) {H : Heap} {locs : List Loc} {ls : Array Slot} (hw : Wd n0 D Y z s H locs) (hl : lv_has ls 2 [(0, .ref (n0 + x0)), (1, .int x1)]) : W p l e rmX11_foretell s m args below meth c H locs 0 0 (MQ below (PosI n0 D Y z fin) args s 0 0 (AA n0)) (F0 m 0 ls []) := by
  unfold fX11_foretell at h
  refine lv_iload_n C.1 C.2.1 dX11_foretell_0 rfl (lv_at hl 1 rfl) ?_
  refine lv_iconst (v := (1 : Int32)) C.1 C.2.1 dX11_foretell_1 (by decide) ?_
  refine lv_bipush (v := (100 : Int32)) C.1 C.2.1 dX11_foretell_2 (by decide) ?_
  obtain ⟨r2, e1, h⟩ := boE h
  refine r_afti hw (r_runS (As := [.int x1, .int (1 : Int32), .int (100 : Int32)]) (rest := []) C hw (kX11_isOutside l n0 D Y N x1 (1 : Int32) (100 : Int32) z e1) (va_cwS 3 C.2.2.2.2.2.1 gX11_foretell_X11_isOutside rfl rfl rfl (by decide +kernel) ⟨(Nat.le_of_ble_eq_true rfl), (Nat.le_of_ble_eq_true rfl)⟩) rfl hl.1 rfl (Nat.le_of_ble_eq_true rfl) dX11_foretell_4 ⟨(Nat.le_of_ble_eq_true rfl), (Nat.le_of_ble_eq_true rfl)⟩) (fun H locs hw => ?_)
  refine lv_if_eq (tgt := 13) C.1 C.2.1 dX11_foretell_7 (by decide) (fun c3 => ?_) (fun c3 => ?_)
  · replace h := brT h c3
    refine lv_aload_n C.1 C.2.1 dX11_foretell_13 rfl (lv_at hl 0 rfl) ?_
    obtain ⟨g4, h⟩ := gdE h
    refine r_get (v := rv n0 (zG z 644 x0)) C hw g4 (by decide) (Cn := RX11) (T := TX11) (N := 12) rfl in_X11_foretell_X11 4 (by decide) (by decide +kernel) (fun _ h => h) rfl dX11_foretell_14 ?_
    obtain ⟨b6, e5, h⟩ := boE h
    refine r_topr e5 ?_
    refine lv_aload_n C.1 C.2.1 dX11_foretell_17 rfl (lv_at hl 0 rfl) ?_
    obtain ⟨r8, e7, h⟩ := boE h
    refine r_afti hw (r_runV (As := []) (rest := [.ref (n0 + b6)]) C hw (ki := 10) g4 (by decide) rfl (kX11_weekNow l n0 D Y N x0  z e7) (cwV 0 C.2.2.2.2.2.1 gX11_foretell_X11_weekNow rfl rfl rfl (by decide +kernel) ⟨(Nat.le_of_ble_eq_true rfl), (Nat.le_of_ble_eq_true rfl)⟩) rfl hl.1 rfl (Nat.le_of_ble_eq_true rfl) dX11_foretell_18 ⟨(Nat.le_of_ble_eq_true rfl), (Nat.le_of_ble_eq_true rfl)⟩) (fun H locs hw => ?_)
    refine lv_sipush (v := (199 : Int32)) C.1 C.2.1 dX11_foretell_21 (by decide) ?_
    refine lv_iload_n C.1 C.2.1 dX11_foretell_24 rfl (lv_at hl 1 rfl) ?_
    obtain ⟨g11, h⟩ := gdE h
    obtain ⟨r10, e9, h⟩ := boE h
    refine r_afti hw (r_runV (As := [.int r8, .int (199 : Int32), .int x1]) (rest := []) C hw (ki := 3) g11 (by decide) rfl (kX4_firstHunger l n0 D Y N b6 r8 (199 : Int32) x1 z e9) (cwV 3 C.2.2.2.2.2.1 gX11_foretell_X4_firstHunger rfl rfl rfl (by decide +kernel) ⟨(Nat.le_of_ble_eq_true rfl), (Nat.le_of_ble_eq_true rfl)⟩) rfl hl.1 rfl (Nat.le_of_ble_eq_true rfl) dX11_foretell_25 ⟨(Nat.le_of_ble_eq_true rfl), (Nat.le_of_ble_eq_true rfl)⟩) (fun H locs hw => ?_)
    cases h
    replace hF : _ = fin := hF
    subst hF
    exact r_iret C hw dX11_foretell_28
  · replace h := brF h c3
    refine lv_bipush (v := (-2 : Int32)) C.1 C.2.1 dX11_foretell_10 (by decide) ?_
    cases h
    replace hF : _ = fin := hF
    subst hF
    exact r_iret C hw dX11_foretell_12
set_option maxRecDepth 100000 in
theorem kX11_foretell (l : Launch) (n0 : Nat) (D : va_G) (Y : Nat → ClassId) (N : Nat) (x0 : Nat) (x1 : Int32) (z : Hp) {r : Int32} (h : fX11_foretell N x0 x1 z = some r) : Met l yX11_foretell wsX11_foretell rmX11_foretell (PreC n0 D Y z [.ref (n0 + x0), .int x1]) (PosI n0 D Y z r) 0 0 (AA n0) := by
  refine Met.ofW (cc := cX11_foretell) (maxL := 2) (ret := (some .int)) (by decide) rfl ?_
  intro p e s m args below meth c s₁ B hml hv
  obtain ⟨rfl, hR, hK⟩ := hv
  have C : Cx n0 D Y RX11 cX11_foretell (some .int) 2 wsX11_foretell "foretell" p s m ([.ref (n0 + x0), .int x1] : List Value).toArray meth c := ⟨B.exec, B.bytes, B.returns, hml, findClass_of_methodNamed B.named, atoms_spec (ws := wsX11_foretell) B.pre, B.notSynchronized, (name_of_methodNamed B.named B.method).1, hK⟩
  have hl := lv_entry ([.ref (n0 + x0), .int x1]) (n := 2) (Nat.le_of_ble_eq_true rfl)
  rw [lg_entry_eq]
  generalize (lg_sl ([.ref (n0 + x0), .int x1]) ++ List.replicate (2 - (lg_sl ([.ref (n0 + x0), .int x1])).length) Slot.unset).toArray = ls at hl ⊢
  have hl : lv_has ls 2 [(0, .ref (n0 + x0)), (1, .int x1)] := hl
  exact tX11_foretell_0 C h rfl ⟨hR, va_S.rf⟩ hl
theorem in_X11_order_X11 : ∀ w ∈ wsX110, w ∈ wsX11_order := by decide +kernel
abbrev rmX11_order : Room := { frames := 4, cells := 0, slots := 0, locals := 97 }
noncomputable def fX11_order (N : Nat) (x0 : Nat) (x1 : Int32) (z : Hp) : Option (Int32) := gd (x0 < zn z ∧ zK z x0 = 10) <| bo (fX11_weekNow N x0 z) fun r2 => bo (fX11_isOutside N x1 r2 (199 : Int32) z) fun r5 => br (r5 = 0) (bo (zG z 644 x0) fun b8 => bo (fX11_weekNow N x0 z) fun r10 => gd (b8 < zn z ∧ zK z b8 = 3) <| bo (fX4_greatestRation N b8 r10 x1 z) fun r12 => some r12) (some (-2 : Int32))
set_option maxHeartbeats 4000000 in
set_option maxRecDepth 100000 in
theorem tX11_order_0 {n0 : Nat} {D : va_G} {Y : Nat → ClassId} {p : Program} {l : Launch} {e : Env} {s : State} {m : MethodId} {args : Array Value} {below : List Frame} {meth : Method} {c : Code} {N : Nat} {fin : Int32} {x0 : Nat} {x1 : Int32}  {z : Hp} (C : Cx n0 D Y RX11 cX11_order (some .int) 2 wsX11_order "order" p s m args meth c) {x : (Int32)} (h : fX11_order N x0 x1  z = some x) (hF : (fun x => x = fin) x) {H : Heap} {locs : List Loc} {ls : Array Slot} (hw : Wd n0 D Y z s H locs) (hl : lv_has ls 2 [(0, .ref (n0 + x0)), (1, .int x1)]) : W p l e rmX11_order s m args below meth c H locs 0 0 (MQ below (PosI n0 D Y z fin) args s 0 0 (AA n0)) (F0 m 0 ls []) := by
  unfold fX11_order at h
  refine lv_iload_n C.1 C.2.1 dX11_order_0 rfl (lv_at hl 1 rfl) ?_
  refine lv_aload_n C.1 C.2.1 dX11_order_1 rfl (lv_at hl 0 rfl) ?_
  obtain ⟨g3, h⟩ := gdE h
  obtain ⟨r2, e1, h⟩ := boE h
  refine r_afti hw (r_runV (As := []) (rest := [.int x1]) C hw (ki := 10) g3 (by decide) rfl (kX11_weekNow l n0 D Y N x0  z e1) (cwV 0 C.2.2.2.2.2.1 gX11_order_X11_weekNow rfl rfl rfl (by decide +kernel) ⟨(Nat.le_of_ble_eq_true rfl), (Nat.le_of_ble_eq_true rfl)⟩) rfl hl.1 rfl (Nat.le_of_ble_eq_true rfl) dX11_order_2 ⟨(Nat.le_of_ble_eq_true rfl), (Nat.le_of_ble_eq_true rfl)⟩) (fun H locs hw => ?_)
  refine lv_sipush (v := (199 : Int32)) C.1 C.2.1 dX11_order_5 (by decide) ?_
  obtain ⟨r5, e4, h⟩ := boE h
  refine r_afti hw (r_runS (As := [.int x1, .int r2, .int (199 : Int32)]) (rest := []) C hw (kX11_isOutside l n0 D Y N x1 r2 (199 : Int32) z e4) (va_cwS 3 C.2.2.2.2.2.1 gX11_order_X11_isOutside rfl rfl rfl (by decide +kernel) ⟨(Nat.le_of_ble_eq_true rfl), (Nat.le_of_ble_eq_true rfl)⟩) rfl hl.1 rfl (Nat.le_of_ble_eq_true rfl) dX11_order_8 ⟨(Nat.le_of_ble_eq_true rfl), (Nat.le_of_ble_eq_true rfl)⟩) (fun H locs hw => ?_)
  refine lv_if_eq (tgt := 17) C.1 C.2.1 dX11_order_11 (by decide) (fun c6 => ?_) (fun c6 => ?_)
  · replace h := brT h c6
    refine lv_aload_n C.1 C.2.1 dX11_order_17 rfl (lv_at hl 0 rfl) ?_
    refine r_get (v := rv n0 (zG z 644 x0)) C hw g3 (by decide) (Cn := RX11) (T := TX11) (N := 12) rfl in_X11_order_X11 4 (by decide) (by decide +kernel) (fun _ h => h) rfl dX11_order_18 ?_
    obtain ⟨b8, e7, h⟩ := boE h
    refine r_topr e7 ?_
    refine lv_aload_n C.1 C.2.1 dX11_order_21 rfl (lv_at hl 0 rfl) ?_
    obtain ⟨r10, e9, h⟩ := boE h
    refine r_afti hw (r_runV (As := []) (rest := [.ref (n0 + b8)]) C hw (ki := 10) g3 (by decide) rfl (kX11_weekNow l n0 D Y N x0  z e9) (cwV 0 C.2.2.2.2.2.1 gX11_order_X11_weekNow rfl rfl rfl (by decide +kernel) ⟨(Nat.le_of_ble_eq_true rfl), (Nat.le_of_ble_eq_true rfl)⟩) rfl hl.1 rfl (Nat.le_of_ble_eq_true rfl) dX11_order_22 ⟨(Nat.le_of_ble_eq_true rfl), (Nat.le_of_ble_eq_true rfl)⟩) (fun H locs hw => ?_)
    refine lv_iload_n C.1 C.2.1 dX11_order_25 rfl (lv_at hl 1 rfl) ?_
    obtain ⟨g13, h⟩ := gdE h
    obtain ⟨r12, e11, h⟩ := boE h
    refine r_afti hw (r_runV (As := [.int r10, .int x1]) (rest := []) C hw (ki := 3) g13 (by decide) rfl (kX4_greatestRation l n0 D Y N b8 r10 x1 z e11) (cwV 2 C.2.2.2.2.2.1 gX11_order_X4_greatestRation rfl rfl rfl (by decide +kernel) ⟨(Nat.le_of_ble_eq_true rfl), (Nat.le_of_ble_eq_true rfl)⟩) rfl hl.1 rfl (Nat.le_of_ble_eq_true rfl) dX11_order_26 ⟨(Nat.le_of_ble_eq_true rfl), (Nat.le_of_ble_eq_true rfl)⟩) (fun H locs hw => ?_)
    cases h
    replace hF : _ = fin := hF
    subst hF
    exact r_iret C hw dX11_order_29
  · replace h := brF h c6
    refine lv_bipush (v := (-2 : Int32)) C.1 C.2.1 dX11_order_14 (by decide) ?_
    cases h
    replace hF : _ = fin := hF
    subst hF
    exact r_iret C hw dX11_order_16
set_option maxRecDepth 100000 in
theorem kX11_order (l : Launch) (n0 : Nat) (D : va_G) (Y : Nat → ClassId) (N : Nat) (x0 : Nat) (x1 : Int32) (z : Hp) {r : Int32} (h : fX11_order N x0 x1 z = some r) : Met l yX11_order wsX11_order rmX11_order (PreC n0 D Y z [.ref (n0 + x0), .int x1]) (PosI n0 D Y z r) 0 0 (AA n0) := by
  refine Met.ofW (cc := cX11_order) (maxL := 2) (ret := (some .int)) (by decide) rfl ?_
  intro p e s m args below meth c s₁ B hml hv
  obtain ⟨rfl, hR, hK⟩ := hv
  have C : Cx n0 D Y RX11 cX11_order (some .int) 2 wsX11_order "order" p s m ([.ref (n0 + x0), .int x1] : List Value).toArray meth c := ⟨B.exec, B.bytes, B.returns, hml, findClass_of_methodNamed B.named, atoms_spec (ws := wsX11_order) B.pre, B.notSynchronized, (name_of_methodNamed B.named B.method).1, hK⟩
  have hl := lv_entry ([.ref (n0 + x0), .int x1]) (n := 2) (Nat.le_of_ble_eq_true rfl)
  rw [lg_entry_eq]
  generalize (lg_sl ([.ref (n0 + x0), .int x1]) ++ List.replicate (2 - (lg_sl ([.ref (n0 + x0), .int x1])).length) Slot.unset).toArray = ls at hl ⊢
  have hl : lv_has ls 2 [(0, .ref (n0 + x0)), (1, .int x1)] := hl
  exact tX11_order_0 C h rfl ⟨hR, va_S.rf⟩ hl
theorem in_X11_told_X11 : ∀ w ∈ wsX110, w ∈ wsX11_told := by decide +kernel
theorem in_X11_told_X2 : ∀ w ∈ wsX20, w ∈ wsX11_told := by decide +kernel
theorem in_X11_told_X4 : ∀ w ∈ wsX40, w ∈ wsX11_told := by decide +kernel
theorem in_X11_told_X5 : ∀ w ∈ wsX50, w ∈ wsX11_told := by decide +kernel
abbrev rmX11_told : Room := { frames := 1, cells := 0, slots := 0, locals := 20 }
noncomputable def fX11_told (N : Nat) (x0 : Nat) (x1 : Int32) (z : Hp) : Option (Int32) := br (x1 = (0 : Int32)) (gd (x0 < zn z ∧ zK z x0 = 10) <| bo (fX11_weekNow N x0 z) fun r3 => some r3) <| br (x1 = (1 : Int32)) (gd (x0 < zn z ∧ zK z x0 = 10) <| some (irm (zF z 647 x0) (168 : Int32))) <| br (x1 = (2 : Int32)) (gd (x0 < zn z ∧ zK z x0 = 10) <| some (zF z 646 x0)) <| br (x1 = (3 : Int32)) (gd (x0 < zn z ∧ zK z x0 = 10) <| bo (zG z 642 x0) fun b12 => gd (b12 < zn z ∧ zK z b12 = 4) <| some (zF z 257 b12)) <| br (x1 = (4 : Int32)) (gd (x0 < zn z ∧ zK z x0 = 10) <| bo (zG z 640 x0) fun b17 => gd (b17 < zn z ∧ zK z b17 = 2) <| some (zF z 132 b17)) <| br (x1 = (5 : Int32)) (gd (x0 < zn z ∧ zK z x0 = 10) <| some (zF z 651 x0)) <| br (x1 = (6 : Int32)) (gd (x0 < zn z ∧ zK z x0 = 10) <| bo (zG z 644 x0) fun b24 => gd (b24 < zn z ∧ zK z b24 = 3) <| some (zF z 195 b24)) <| br (x1 = (7 : Int32)) (gd (x0 < zn z ∧ zK z x0 = 10) <| bo (zG z 644 x0) fun b29 => gd (b29 < zn z ∧ zK z b29 = 3) <| some (zF z 199 b29)) <| br (x1 = (8 : Int32)) (gd (x0 < zn z ∧ zK z x0 = 10) <| bo (zG z 644 x0) fun b34 => gd (b34 < zn z ∧ zK z b34 = 3) <| some (zF z 198 b34)) <| br (x1 = (9 : Int32)) (gd (x0 < zn z ∧ zK z x0 = 10) <| bo (zG z 644 x0) fun b39 => gd (b39 < zn z ∧ zK z b39 = 3) <| some (zF z 194 b39)) <| some (-2 : Int32)
set_option maxHeartbeats 4000000 in
set_option maxRecDepth 100000 in
theorem tX11_told_0 {n0 : Nat} {D : va_G} {Y : Nat → ClassId} {p : Program} {l : Launch} {e : Env} {s : State} {m : MethodId} {args : Array Value} {below : List Frame} {meth : Method} {c : Code} {N : Nat} {fin : Int32} {x0 : Nat} {x1 : Int32}  {z : Hp} (C : Cx n0 D Y RX11 cX11_told (some .int) 2 wsX11_told "told" p s m args meth c) {x : (Int32)} (h : fX11_told N x0 x1  z = some x) (hF : (fun x => x = fin) x) {H : Heap} {locs : List Loc} {ls : Array Slot} (hw : Wd n0 D Y z s H locs) (hl : lv_has ls 2 [(0, .ref (n0 + x0)), (1, .int x1)]) : W p l e rmX11_told s m args below meth c H locs 0 0 (MQ below (PosI n0 D Y z fin) args s 0 0 (AA n0)) (F0 m 0 ls []) := by
  unfold fX11_told at h
  refine lv_iload_n C.1 C.2.1 dX11_told_0 rfl (lv_at hl 1 rfl) ?_
  by_cases c1 : x1 = (0 : Int32)
  · replace h := brT h c1
    refine lv_tableIn (off := 55) (tgt := 56) C.1 C.2.1 dX11_told_1 (by rw [c1]; decide) (by rw [c1]; decide) (by rw [c1]; decide) (by decide) ?_
    refine lv_aload_n C.1 C.2.1 dX11_told_56 rfl (lv_at hl 0 rfl) ?_
    obtain ⟨g4, h⟩ := gdE h
    obtain ⟨r3, e2, h⟩ := boE h
    refine r_afti hw (r_runV (As := []) (rest := []) C hw (ki := 10) g4 (by decide) rfl (kX11_weekNow l n0 D Y N x0  z e2) (cwV 0 C.2.2.2.2.2.1 gX11_told_X11_weekNow rfl rfl rfl (by decide +kernel) ⟨(Nat.le_of_ble_eq_true rfl), (Nat.le_of_ble_eq_true rfl)⟩) rfl hl.1 rfl (Nat.le_of_ble_eq_true rfl) dX11_told_57 ⟨(Nat.le_of_ble_eq_true rfl), (Nat.le_of_ble_eq_true rfl)⟩) (fun H locs hw => ?_)
    cases h
    replace hF : _ = fin := hF
    subst hF
    exact r_iret C hw dX11_told_60
  replace h := brF h c1
  by_cases c5 : x1 = (1 : Int32)
  · replace h := brT h c5
    refine lv_tableIn (off := 60) (tgt := 61) C.1 C.2.1 dX11_told_1 (by rw [c5]; decide) (by rw [c5]; decide) (by rw [c5]; decide) (by decide) ?_
    refine lv_aload_n C.1 C.2.1 dX11_told_61 rfl (lv_at hl 0 rfl) ?_
    obtain ⟨g6, h⟩ := gdE h
    refine r_get (v := .int (zF z 647 x0)) C hw g6 (by decide) (Cn := RX11) (T := TX11) (N := 12) rfl in_X11_told_X11 7 (by decide) (by decide +kernel) (fun _ h => h) rfl dX11_told_62 ?_
    refine lv_sipush (v := (168 : Int32)) C.1 C.2.1 dX11_told_65 (by decide) ?_
    refine lv_irem C.1 C.2.1 dX11_told_68 (by decide) ?_
    refine r_topi (y := irm (zF z 647 x0) (168 : Int32)) rfl ?_
    cases h
    replace hF : _ = fin := hF
    subst hF
    exact r_iret C hw dX11_told_69
  replace h := brF h c5
  by_cases c7 : x1 = (2 : Int32)
  · replace h := brT h c7
    refine lv_tableIn (off := 69) (tgt := 70) C.1 C.2.1 dX11_told_1 (by rw [c7]; decide) (by rw [c7]; decide) (by rw [c7]; decide) (by decide) ?_
    refine lv_aload_n C.1 C.2.1 dX11_told_70 rfl (lv_at hl 0 rfl) ?_
    obtain ⟨g8, h⟩ := gdE h
    refine r_get (v := .int (zF z 646 x0)) C hw g8 (by decide) (Cn := RX11) (T := TX11) (N := 12) rfl in_X11_told_X11 6 (by decide) (by decide +kernel) (fun _ h => h) rfl dX11_told_71 ?_
    cases h
    replace hF : _ = fin := hF
    subst hF
    exact r_iret C hw dX11_told_74
  replace h := brF h c7
  by_cases c9 : x1 = (3 : Int32)
  · replace h := brT h c9
    refine lv_tableIn (off := 74) (tgt := 75) C.1 C.2.1 dX11_told_1 (by rw [c9]; decide) (by rw [c9]; decide) (by rw [c9]; decide) (by decide) ?_
    refine lv_aload_n C.1 C.2.1 dX11_told_75 rfl (lv_at hl 0 rfl) ?_
    obtain ⟨g10, h⟩ := gdE h
    refine r_get (v := rv n0 (zG z 642 x0)) C hw g10 (by decide) (Cn := RX11) (T := TX11) (N := 12) rfl in_X11_told_X11 2 (by decide) (by decide +kernel) (fun _ h => h) rfl dX11_told_76 ?_
    obtain ⟨b12, e11, h⟩ := boE h
    refine r_topr e11 ?_
    obtain ⟨g13, h⟩ := gdE h
    refine r_get (v := .int (zF z 257 b12)) C hw g13 (by decide) (Cn := RX5) (T := TX5) (N := 2) rfl in_X11_told_X5 1 (by decide) (by decide +kernel) (fun _ h => h) rfl dX11_told_79 ?_
    cases h
    replace hF : _ = fin := hF
    subst hF
    exact r_iret C hw dX11_told_82
  replace h := brF h c9
  by_cases c14 : x1 = (4 : Int32)
  · replace h := brT h c14
    refine lv_tableIn (off := 82) (tgt := 83) C.1 C.2.1 dX11_told_1 (by rw [c14]; decide) (by rw [c14]; decide) (by rw [c14]; decide) (by decide) ?_
    refine lv_aload_n C.1 C.2.1 dX11_told_83 rfl (lv_at hl 0 rfl) ?_
    obtain ⟨g15, h⟩ := gdE h
    refine r_get (v := rv n0 (zG z 640 x0)) C hw g15 (by decide) (Cn := RX11) (T := TX11) (N := 12) rfl in_X11_told_X11 0 (by decide) (by decide +kernel) (fun _ h => h) rfl dX11_told_84 ?_
    obtain ⟨b17, e16, h⟩ := boE h
    refine r_topr e16 ?_
    obtain ⟨g18, h⟩ := gdE h
    refine r_get (v := .int (zF z 132 b17)) C hw g18 (by decide) (Cn := RX2) (T := TX2) (N := 7) rfl in_X11_told_X2 4 (by decide) (by decide +kernel) (fun _ h => h) rfl dX11_told_87 ?_
    cases h
    replace hF : _ = fin := hF
    subst hF
    exact r_iret C hw dX11_told_90
  replace h := brF h c14
  by_cases c19 : x1 = (5 : Int32)
  · replace h := brT h c19
    refine lv_tableIn (off := 90) (tgt := 91) C.1 C.2.1 dX11_told_1 (by rw [c19]; decide) (by rw [c19]; decide) (by rw [c19]; decide) (by decide) ?_
    refine lv_aload_n C.1 C.2.1 dX11_told_91 rfl (lv_at hl 0 rfl) ?_
    obtain ⟨g20, h⟩ := gdE h
    refine r_get (v := .int (zF z 651 x0)) C hw g20 (by decide) (Cn := RX11) (T := TX11) (N := 12) rfl in_X11_told_X11 11 (by decide) (by decide +kernel) (fun _ h => h) rfl dX11_told_92 ?_
    cases h
    replace hF : _ = fin := hF
    subst hF
    exact r_iret C hw dX11_told_95
  replace h := brF h c19
  by_cases c21 : x1 = (6 : Int32)
  · replace h := brT h c21
    refine lv_tableIn (off := 95) (tgt := 96) C.1 C.2.1 dX11_told_1 (by rw [c21]; decide) (by rw [c21]; decide) (by rw [c21]; decide) (by decide) ?_
    refine lv_aload_n C.1 C.2.1 dX11_told_96 rfl (lv_at hl 0 rfl) ?_
    obtain ⟨g22, h⟩ := gdE h
    refine r_get (v := rv n0 (zG z 644 x0)) C hw g22 (by decide) (Cn := RX11) (T := TX11) (N := 12) rfl in_X11_told_X11 4 (by decide) (by decide +kernel) (fun _ h => h) rfl dX11_told_97 ?_
    obtain ⟨b24, e23, h⟩ := boE h
    refine r_topr e23 ?_
    obtain ⟨g25, h⟩ := gdE h
    refine r_get (v := .int (zF z 195 b24)) C hw g25 (by decide) (Cn := RX4) (T := TX4) (N := 8) rfl in_X11_told_X4 3 (by decide) (by decide +kernel) (fun _ h => h) rfl dX11_told_100 ?_
    cases h
    replace hF : _ = fin := hF
    subst hF
    exact r_iret C hw dX11_told_103
  replace h := brF h c21
  by_cases c26 : x1 = (7 : Int32)
  · replace h := brT h c26
    refine lv_tableIn (off := 103) (tgt := 104) C.1 C.2.1 dX11_told_1 (by rw [c26]; decide) (by rw [c26]; decide) (by rw [c26]; decide) (by decide) ?_
    refine lv_aload_n C.1 C.2.1 dX11_told_104 rfl (lv_at hl 0 rfl) ?_
    obtain ⟨g27, h⟩ := gdE h
    refine r_get (v := rv n0 (zG z 644 x0)) C hw g27 (by decide) (Cn := RX11) (T := TX11) (N := 12) rfl in_X11_told_X11 4 (by decide) (by decide +kernel) (fun _ h => h) rfl dX11_told_105 ?_
    obtain ⟨b29, e28, h⟩ := boE h
    refine r_topr e28 ?_
    obtain ⟨g30, h⟩ := gdE h
    refine r_get (v := .int (zF z 199 b29)) C hw g30 (by decide) (Cn := RX4) (T := TX4) (N := 8) rfl in_X11_told_X4 7 (by decide) (by decide +kernel) (fun _ h => h) rfl dX11_told_108 ?_
    cases h
    replace hF : _ = fin := hF
    subst hF
    exact r_iret C hw dX11_told_111
  replace h := brF h c26
  by_cases c31 : x1 = (8 : Int32)
  · replace h := brT h c31
    refine lv_tableIn (off := 111) (tgt := 112) C.1 C.2.1 dX11_told_1 (by rw [c31]; decide) (by rw [c31]; decide) (by rw [c31]; decide) (by decide) ?_
    refine lv_aload_n C.1 C.2.1 dX11_told_112 rfl (lv_at hl 0 rfl) ?_
    obtain ⟨g32, h⟩ := gdE h
    refine r_get (v := rv n0 (zG z 644 x0)) C hw g32 (by decide) (Cn := RX11) (T := TX11) (N := 12) rfl in_X11_told_X11 4 (by decide) (by decide +kernel) (fun _ h => h) rfl dX11_told_113 ?_
    obtain ⟨b34, e33, h⟩ := boE h
    refine r_topr e33 ?_
    obtain ⟨g35, h⟩ := gdE h
    refine r_get (v := .int (zF z 198 b34)) C hw g35 (by decide) (Cn := RX4) (T := TX4) (N := 8) rfl in_X11_told_X4 6 (by decide) (by decide +kernel) (fun _ h => h) rfl dX11_told_116 ?_
    cases h
    replace hF : _ = fin := hF
    subst hF
    exact r_iret C hw dX11_told_119
  replace h := brF h c31
  by_cases c36 : x1 = (9 : Int32)
  · replace h := brT h c36
    refine lv_tableIn (off := 119) (tgt := 120) C.1 C.2.1 dX11_told_1 (by rw [c36]; decide) (by rw [c36]; decide) (by rw [c36]; decide) (by decide) ?_
    refine lv_aload_n C.1 C.2.1 dX11_told_120 rfl (lv_at hl 0 rfl) ?_
    obtain ⟨g37, h⟩ := gdE h
    refine r_get (v := rv n0 (zG z 644 x0)) C hw g37 (by decide) (Cn := RX11) (T := TX11) (N := 12) rfl in_X11_told_X11 4 (by decide) (by decide +kernel) (fun _ h => h) rfl dX11_told_121 ?_
    obtain ⟨b39, e38, h⟩ := boE h
    refine r_topr e38 ?_
    obtain ⟨g40, h⟩ := gdE h
    refine r_get (v := .int (zF z 194 b39)) C hw g40 (by decide) (Cn := RX4) (T := TX4) (N := 8) rfl in_X11_told_X4 2 (by decide) (by decide +kernel) (fun _ h => h) rfl dX11_told_124 ?_
    cases h
    replace hF : _ = fin := hF
    subst hF
    exact r_iret C hw dX11_told_127
  replace h := brF h c36
  refine lv_tableOut (tgt := 128) C.1 C.2.1 dX11_told_1 (by have := ne_ti c1; have : (0 : Int32).toInt = 0 := (by decide); have := ne_ti c5; have : (1 : Int32).toInt = 1 := (by decide); have := ne_ti c7; have : (2 : Int32).toInt = 2 := (by decide); have := ne_ti c9; have : (3 : Int32).toInt = 3 := (by decide); have := ne_ti c14; have : (4 : Int32).toInt = 4 := (by decide); have := ne_ti c19; have : (5 : Int32).toInt = 5 := (by decide); have := ne_ti c21; have : (6 : Int32).toInt = 6 := (by decide); have := ne_ti c26; have : (7 : Int32).toInt = 7 := (by decide); have := ne_ti c31; have : (8 : Int32).toInt = 8 := (by decide); have := ne_ti c36; have : (9 : Int32).toInt = 9 := (by decide); omega) (by decide) ?_
  refine lv_bipush (v := (-2 : Int32)) C.1 C.2.1 dX11_told_128 (by decide) ?_
  cases h
  replace hF : _ = fin := hF
  subst hF
  exact r_iret C hw dX11_told_130
set_option maxRecDepth 100000 in
theorem kX11_told (l : Launch) (n0 : Nat) (D : va_G) (Y : Nat → ClassId) (N : Nat) (x0 : Nat) (x1 : Int32) (z : Hp) {r : Int32} (h : fX11_told N x0 x1 z = some r) : Met l yX11_told wsX11_told rmX11_told (PreC n0 D Y z [.ref (n0 + x0), .int x1]) (PosI n0 D Y z r) 0 0 (AA n0) := by
  refine Met.ofW (cc := cX11_told) (maxL := 2) (ret := (some .int)) (by decide) rfl ?_
  intro p e s m args below meth c s₁ B hml hv
  obtain ⟨rfl, hR, hK⟩ := hv
  have C : Cx n0 D Y RX11 cX11_told (some .int) 2 wsX11_told "told" p s m ([.ref (n0 + x0), .int x1] : List Value).toArray meth c := ⟨B.exec, B.bytes, B.returns, hml, findClass_of_methodNamed B.named, atoms_spec (ws := wsX11_told) B.pre, B.notSynchronized, (name_of_methodNamed B.named B.method).1, hK⟩
  have hl := lv_entry ([.ref (n0 + x0), .int x1]) (n := 2) (Nat.le_of_ble_eq_true rfl)
  rw [lg_entry_eq]
  generalize (lg_sl ([.ref (n0 + x0), .int x1]) ++ List.replicate (2 - (lg_sl ([.ref (n0 + x0), .int x1])).length) Slot.unset).toArray = ls at hl ⊢
  have hl : lv_has ls 2 [(0, .ref (n0 + x0)), (1, .int x1)] := hl
  exact tX11_told_0 C h rfl ⟨hR, va_S.rf⟩ hl
