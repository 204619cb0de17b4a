abbrev rmX0_init : Room := { frames := 1, cells := 0, slots := 0, locals := 24 }
noncomputable def fX0_init (N : Nat) (x0 : Nat) (z : Hp) : Option (Hp) := some z
set_option maxHeartbeats 4000000 in
set_option maxRecDepth 100000 in
theorem tX0_init_0 {n0 : Nat} {D : va_G} {Y : Nat → ClassId} {p : Program} {l : Launch} {e : Env} {s : State} {m : MethodId} {args : Array Value} {below : List Frame} {meth : Method} {c : Code} {N : Nat} {fin : Hp} {x0 : Nat}  {z : Hp} (C : Cx n0 D Y RX0 cX0_init none 1 wsX0_init "<init>" p s m args meth c) {x : (Hp)} (h : fX0_init N x0  z = some x) (hF : (fun x => x = fin) x) {H : Heap} {locs : List Loc} {ls : Array Slot} (hw : Wd n0 D Y z s H locs) (hl : lv_has ls 1 [(0, .ref (n0 + x0))]) : W p l e rmX0_init s m args below meth c H locs 0 0 (MQ below (PosV n0 D Y fin) args s 0 0 (AA n0)) (F0 m 0 ls []) := by
  unfold fX0_init at h
  refine lv_aload_n C.1 C.2.1 dX0_init_0 rfl (lv_at hl 0 rfl) ?_
  refine W.objInit C.1 C.2.1 C.2.2.2.2.1 (C.2.2.2.2.2.1 (.methodLink RX0 3 objectInit) (by decide +kernel)) (C.2.2.2.2.2.1 (.instanceMethod objectInit) (by decide +kernel)) (C.2.2.2.2.2.1 _ (List.mem_of_getElem? (i := 3) rfl)) rfl (by rw [C.2.2.2.1]; exact hl.1) rfl dX0_init_1 (Nat.le_of_ble_eq_true rfl) (Nat.le_of_ble_eq_true rfl) ?_
  refine W.eq (g2 := F0 m 4 ls []) rfl ?_
  cases h
  replace hF : _ = fin := hF
  subst hF
  exact r_vret C hw dX0_init_4
set_option maxRecDepth 100000 in
theorem kX0_init (l : Launch) (n0 : Nat) (D : va_G) (Y : Nat → ClassId) (N : Nat) (x0 : Nat) (z : Hp) {z1 : Hp} (h : fX0_init N x0 z = some z1) : Met l yX0_init wsX0_init rmX0_init (PreC n0 D Y z [.ref (n0 + x0)]) (PosV n0 D Y z1) 0 0 (AA n0) := by
  refine Met.ofW (cc := cX0_init) (maxL := 1) (ret := none) (by decide) rfl ?_
  intro p e s m args below meth c s₁ B hml hv
  obtain ⟨rfl, hR, hK⟩ := hv
  have C : Cx n0 D Y RX0 cX0_init none 1 wsX0_init "<init>" p s m ([.ref (n0 + x0)] : List Value).toArray meth c := ⟨B.exec, B.bytes, B.returns, hml, findClass_of_methodNamed B.named, atoms_spec (ws := wsX0_init) B.pre, B.notSynchronized, (name_of_methodNamed B.named B.method).1, hK⟩
  have hl := lv_entry ([.ref (n0 + x0)]) (n := 1) (Nat.le_of_ble_eq_true rfl)
  rw [lg_entry_eq]
  generalize (lg_sl ([.ref (n0 + x0)]) ++ List.replicate (1 - (lg_sl ([.ref (n0 + x0)])).length) Slot.unset).toArray = ls at hl ⊢
  have hl : lv_has ls 1 [(0, .ref (n0 + x0))] := hl
  exact tX0_init_0 C h rfl ⟨hR, va_S.rf⟩ hl
theorem in_X0_detail_X0 : ∀ w ∈ wsX00, w ∈ wsX0_detail := by decide +kernel
theorem in_X0_detail_X1 : ∀ w ∈ wsX10, w ∈ wsX0_detail := by decide +kernel
abbrev rmX0_detail : Room := { frames := 0, cells := 0, slots := 0, locals := 0 }
noncomputable def fX0_detail (N : Nat) (x0 : Nat) (x1 : Int32) (z : Hp) : Option (Int32) := br (x1 = (0 : Int32)) (gd (x0 < zn z ∧ zK z x0 = 0) <| some (zF z 0 x0)) <| br (x1 = (1 : Int32)) (gd (x0 < zn z ∧ zK z x0 = 0) <| some (zF z 1 x0)) <| br (x1 = (2 : Int32)) (gd (x0 < zn z ∧ zK z x0 = 0) <| some (zF z 2 x0)) <| br (x1 = (3 : Int32)) (gd (x0 < zn z ∧ zK z x0 = 0) <| some (zF z 3 x0)) <| br (x1 = (4 : Int32)) (gd (x0 < zn z ∧ zK z x0 = 0) <| some (zF z 4 x0)) <| br (x1 = (5 : Int32)) (gd (x0 < zn z ∧ zK z x0 = 0) <| some (zF z 5 x0)) <| br (x1 = (6 : Int32)) (gd (x0 < zn z ∧ zK z x0 = 0) <| some (zF z 6 x0)) <| br (x1 = (7 : Int32)) (gd (x0 < zn z ∧ zK z x0 = 0) <| bd (zG z 7 x0) fun q18 => cs q18 (some (-6 : Int32)) (fun b19 => bd (zG z 7 x0) fun q22 => bo q22 fun b23 => gd (b23 < zn z ∧ zK z b23 = 1) <| some (zF z 769 b23))) <| some (-2 : Int32)
set_option maxHeartbeats 4000000 in
set_option maxRecDepth 100000 in
theorem tX0_detail_0 {n0 : Nat} {D : va_G} {Y : Nat → ClassId} {p : Program} {l : Launch} {e : Env} {s : State} {m : MethodId} {args : Array Value} {below : List Frame} {meth : Method} {c : Code} {N : Nat} {fin : Int32} {x0 : Nat} {x1 : Int32}  {z : Hp} (C : Cx n0 D Y RX0 cX0_detail (some .int) 2 wsX0_detail "detail" p s m args meth c) {x : (Int32)} (h : fX0_detail N x0 x1  z = some x) (hF : (fun x => x = fin) x) {H : Heap} {locs : List Loc} {ls : Array Slot} (hw : Wd n0 D Y z s H locs) (hl : lv_has ls 2 [(0, .ref (n0 + x0)), (1, .int x1)]) : W p l e rmX0_detail s m args below meth c H locs 0 0 (MQ below (PosI n0 D Y z fin) args s 0 0 (AA n0)) (F0 m 0 ls []) := by
  unfold fX0_detail at h
  refine lv_iload_n C.1 C.2.1 dX0_detail_0 rfl (lv_at hl 1 rfl) ?_
  by_cases c1 : x1 = (0 : Int32)
  · replace h := brT h c1
    refine lv_tableIn (off := 47) (tgt := 48) C.1 C.2.1 dX0_detail_1 (by rw [c1]; decide) (by rw [c1]; decide) (by rw [c1]; decide) (by decide) ?_
    refine lv_aload_n C.1 C.2.1 dX0_detail_48 rfl (lv_at hl 0 rfl) ?_
    obtain ⟨g2, h⟩ := gdE h
    refine r_get (v := .int (zF z 0 x0)) C hw g2 (by decide) (Cn := RX0) (T := TX0) (N := 8) rfl in_X0_detail_X0 0 (by decide) (by decide +kernel) (fun _ h => h) rfl dX0_detail_49 ?_
    cases h
    replace hF : _ = fin := hF
    subst hF
    exact r_iret C hw dX0_detail_52
  replace h := brF h c1
  by_cases c3 : x1 = (1 : Int32)
  · replace h := brT h c3
    refine lv_tableIn (off := 52) (tgt := 53) C.1 C.2.1 dX0_detail_1 (by rw [c3]; decide) (by rw [c3]; decide) (by rw [c3]; decide) (by decide) ?_
    refine lv_aload_n C.1 C.2.1 dX0_detail_53 rfl (lv_at hl 0 rfl) ?_
    obtain ⟨g4, h⟩ := gdE h
    refine r_get (v := .int (zF z 1 x0)) C hw g4 (by decide) (Cn := RX0) (T := TX0) (N := 8) rfl in_X0_detail_X0 1 (by decide) (by decide +kernel) (fun _ h => h) rfl dX0_detail_54 ?_
    cases h
    replace hF : _ = fin := hF
    subst hF
    exact r_iret C hw dX0_detail_57
  replace h := brF h c3
  by_cases c5 : x1 = (2 : Int32)
  · replace h := brT h c5
    refine lv_tableIn (off := 57) (tgt := 58) C.1 C.2.1 dX0_detail_1 (by rw [c5]; decide) (by rw [c5]; decide) (by rw [c5]; decide) (by decide) ?_
    refine lv_aload_n C.1 C.2.1 dX0_detail_58 rfl (lv_at hl 0 rfl) ?_
    obtain ⟨g6, h⟩ := gdE h
    refine r_get (v := .int (zF z 2 x0)) C hw g6 (by decide) (Cn := RX0) (T := TX0) (N := 8) rfl in_X0_detail_X0 2 (by decide) (by decide +kernel) (fun _ h => h) rfl dX0_detail_59 ?_
    cases h
    replace hF : _ = fin := hF
    subst hF
    exact r_iret C hw dX0_detail_62
  replace h := brF h c5
  by_cases c7 : x1 = (3 : Int32)
  · replace h := brT h c7
    refine lv_tableIn (off := 62) (tgt := 63) C.1 C.2.1 dX0_detail_1 (by rw [c7]; decide) (by rw [c7]; decide) (by rw [c7]; decide) (by decide) ?_
    refine lv_aload_n C.1 C.2.1 dX0_detail_63 rfl (lv_at hl 0 rfl) ?_
    obtain ⟨g8, h⟩ := gdE h
    refine r_get (v := .int (zF z 3 x0)) C hw g8 (by decide) (Cn := RX0) (T := TX0) (N := 8) rfl in_X0_detail_X0 3 (by decide) (by decide +kernel) (fun _ h => h) rfl dX0_detail_64 ?_
    cases h
    replace hF : _ = fin := hF
    subst hF
    exact r_iret C hw dX0_detail_67
  replace h := brF h c7
  by_cases c9 : x1 = (4 : Int32)
  · replace h := brT h c9
    refine lv_tableIn (off := 67) (tgt := 68) C.1 C.2.1 dX0_detail_1 (by rw [c9]; decide) (by rw [c9]; decide) (by rw [c9]; decide) (by decide) ?_
    refine lv_aload_n C.1 C.2.1 dX0_detail_68 rfl (lv_at hl 0 rfl) ?_
    obtain ⟨g10, h⟩ := gdE h
    refine r_get (v := .int (zF z 4 x0)) C hw g10 (by decide) (Cn := RX0) (T := TX0) (N := 8) rfl in_X0_detail_X0 4 (by decide) (by decide +kernel) (fun _ h => h) rfl dX0_detail_69 ?_
    cases h
    replace hF : _ = fin := hF
    subst hF
    exact r_iret C hw dX0_detail_72
  replace h := brF h c9
  by_cases c11 : x1 = (5 : Int32)
  · replace h := brT h c11
    refine lv_tableIn (off := 72) (tgt := 73) C.1 C.2.1 dX0_detail_1 (by rw [c11]; decide) (by rw [c11]; decide) (by rw [c11]; decide) (by decide) ?_
    refine lv_aload_n C.1 C.2.1 dX0_detail_73 rfl (lv_at hl 0 rfl) ?_
    obtain ⟨g12, h⟩ := gdE h
    refine r_get (v := .int (zF z 5 x0)) C hw g12 (by decide) (Cn := RX0) (T := TX0) (N := 8) rfl in_X0_detail_X0 5 (by decide) (by decide +kernel) (fun _ h => h) rfl dX0_detail_74 ?_
    cases h
    replace hF : _ = fin := hF
    subst hF
    exact r_iret C hw dX0_detail_77
  replace h := brF h c11
  by_cases c13 : x1 = (6 : Int32)
  · replace h := brT h c13
    refine lv_tableIn (off := 77) (tgt := 78) C.1 C.2.1 dX0_detail_1 (by rw [c13]; decide) (by rw [c13]; decide) (by rw [c13]; decide) (by decide) ?_
    refine lv_aload_n C.1 C.2.1 dX0_detail_78 rfl (lv_at hl 0 rfl) ?_
    obtain ⟨g14, h⟩ := gdE h
    refine r_get (v := .int (zF z 6 x0)) C hw g14 (by decide) (Cn := RX0) (T := TX0) (N := 8) rfl in_X0_detail_X0 6 (by decide) (by decide +kernel) (fun _ h => h) rfl dX0_detail_79 ?_
    cases h
    replace hF : _ = fin := hF
    subst hF
    exact r_iret C hw dX0_detail_82
  replace h := brF h c13
  by_cases c15 : x1 = (7 : Int32)
  · replace h := brT h c15
    refine lv_tableIn (off := 82) (tgt := 83) C.1 C.2.1 dX0_detail_1 (by rw [c15]; decide) (by rw [c15]; decide) (by rw [c15]; decide) (by decide) ?_
    refine lv_aload_n C.1 C.2.1 dX0_detail_83 rfl (lv_at hl 0 rfl) ?_
    obtain ⟨g16, h⟩ := gdE h
    refine r_get (v := rv n0 (zG z 7 x0)) C hw g16 (by decide) (Cn := RX0) (T := TX0) (N := 8) rfl in_X0_detail_X0 7 (by decide) (by decide +kernel) (fun _ h => h) rfl dX0_detail_84 ?_
    obtain ⟨q18, e17, h⟩ := bdE h
    refine r_topq e17 ?_
    refine r_ifnonnull (tgt := 95) C dX0_detail_87 (by decide) (fun c20 => ?_) (fun b19 c20 => ?_)
    · subst c20
      replace h := csN h
      refine lv_bipush (v := (-6 : Int32)) C.1 C.2.1 dX0_detail_90 (by decide) ?_
      refine lv_goto (tgt := 102) C.1 C.2.1 dX0_detail_92 (by decide) ?_
      cases h
      replace hF : _ = fin := hF
      subst hF
      exact r_iret C hw dX0_detail_102
    · subst c20
      replace h := csS h
      refine lv_aload_n C.1 C.2.1 dX0_detail_95 rfl (lv_at hl 0 rfl) ?_
      refine r_get (v := rv n0 (zG z 7 x0)) C hw g16 (by decide) (Cn := RX0) (T := TX0) (N := 8) rfl in_X0_detail_X0 7 (by decide) (by decide +kernel) (fun _ h => h) rfl dX0_detail_96 ?_
      obtain ⟨q22, e21, h⟩ := bdE h
      refine r_topq e21 ?_
      obtain ⟨b23, e24, h⟩ := boE h
      refine r_topr e24 ?_
      obtain ⟨g25, h⟩ := gdE h
      refine r_get (v := .int (zF z 769 b23)) C hw g25 (by decide) (Cn := RX1) (T := TX1) (N := 9) rfl in_X0_detail_X1 1 (by decide) (by decide +kernel) (u_same (C.2.2.2.2.2.1 (.sameField "BreadLaw$Batch" "BreadLaw$Entry" "number" "I") (by decide +kernel))) rfl dX0_detail_99 ?_
      cases h
      replace hF : _ = fin := hF
      subst hF
      exact r_iret C hw dX0_detail_102
  replace h := brF h c15
  refine lv_tableOut (tgt := 103) C.1 C.2.1 dX0_detail_1 (by have := ne_ti c1; have : (0 : Int32).toInt = 0 := (by decide); have := ne_ti c3; have : (1 : Int32).toInt = 1 := (by decide); have := ne_ti c5; have : (2 : Int32).toInt = 2 := (by decide); have := ne_ti c7; have : (3 : Int32).toInt = 3 := (by decide); have := ne_ti c9; have : (4 : Int32).toInt = 4 := (by decide); have := ne_ti c11; have : (5 : Int32).toInt = 5 := (by decide); have := ne_ti c13; have : (6 : Int32).toInt = 6 := (by decide); have := ne_ti c15; have : (7 : Int32).toInt = 7 := (by decide); omega) (by decide) ?_
  refine lv_bipush (v := (-2 : Int32)) C.1 C.2.1 dX0_detail_103 (by decide) ?_
  cases h
  replace hF : _ = fin := hF
  subst hF
  exact r_iret C hw dX0_detail_105
set_option maxRecDepth 100000 in
theorem kX0_detail (l : Launch) (n0 : Nat) (D : va_G) (Y : Nat → ClassId) (N : Nat) (x0 : Nat) (x1 : Int32) (z : Hp) {r : Int32} (h : fX0_detail N x0 x1 z = some r) : Met l yX0_detail wsX0_detail rmX0_detail (PreC n0 D Y z [.ref (n0 + x0), .int x1]) (PosI n0 D Y z r) 0 0 (AA n0) := by
  refine Met.ofW (cc := cX0_detail) (maxL := 2) (ret := (some .int)) (by decide) rfl ?_
  intro p e s m args below meth c s₁ B hml hv
  obtain ⟨rfl, hR, hK⟩ := hv
  have C : Cx n0 D Y RX0 cX0_detail (some .int) 2 wsX0_detail "detail" p s m ([.ref (n0 + x0), .int x1] : List Value).toArray meth c := ⟨B.exec, B.bytes, B.returns, hml, findClass_of_methodNamed B.named, atoms_spec (ws := wsX0_detail) B.pre, B.notSynchronized, (name_of_methodNamed B.named B.method).1, hK⟩
  have hl := lv_entry ([.ref (n0 + x0), .int x1]) (n := 2) (Nat.le_of_ble_eq_true rfl)
  rw [lg_entry_eq]
  generalize (lg_sl ([.ref (n0 + x0), .int x1]) ++ List.replicate (2 - (lg_sl ([.ref (n0 + x0), .int x1])).length) Slot.unset).toArray = ls at hl ⊢
  have hl : lv_has ls 2 [(0, .ref (n0 + x0)), (1, .int x1)] := hl
  exact tX0_detail_0 C h rfl ⟨hR, va_S.rf⟩ hl
theorem in_X3_init_X1 : ∀ w ∈ wsX10, w ∈ wsX3_init := by decide +kernel
theorem in_X3_init_X6 : ∀ w ∈ wsX60, w ∈ wsX3_init := by decide +kernel
theorem in_X3_init_X8 : ∀ w ∈ wsX80, w ∈ wsX3_init := by decide +kernel
abbrev rmX3_init : Room := { frames := 1, cells := 0, slots := 0, locals := 24 }
noncomputable def fX3_init (N : Nat) (x0 : Nat) (x1 : Int32) (x2 : Int32) (x3 : Int32) (x4 : Int32) (z : Hp) : Option (Hp) := gd (x0 < zn z ∧ (zK z x0 = 1 ∨ zK z x0 = 5 ∨ zK z x0 = 7)) <| bd (zsF z 768 x0 x1) fun z1 => bd (zsF z1 769 x0 x2) fun z5 => bd (zsF z5 770 x0 x3) fun z8 => bd (zsF z8 771 x0 x4) fun z11 => some z11
set_option maxHeartbeats 4000000 in
set_option maxRecDepth 100000 in
theorem tX3_init_0 {n0 : Nat} {D : va_G} {Y : Nat → ClassId} {p : Program} {l : Launch} {e : Env} {s : State} {m : MethodId} {args : Array Value} {below : List Frame} {meth : Method} {c : Code} {N : Nat} {fin : Hp} {x0 : Nat} {x1 : Int32} {x2 : Int32} {x3 : Int32} {x4 : Int32}  {z : Hp} (C : Cx n0 D Y RX3 cX3_init none 5 wsX3_init "<init>" p s m args meth c) {x : (Hp)} (h : fX3_init N x0 x1 x2 x3 x4  z = some x) (hF : (fun x => x = fin) x) {H : Heap} {locs : List Loc} {ls : Array Slot} (hw : Wd n0 D Y z s H locs) (hl : lv_has ls 5 [(0, .ref (n0 + x0)), (1, .int x1), (2, .int x2), (3, .int x3), (4, .int x4)]) : W p l e rmX3_init s m args below meth c H locs 0 0 (MQ below (PosV n0 D Y fin) args s 0 0 (AA n0)) (F0 m 0 ls []) := by
  unfold fX3_init at h
  refine lv_aload_n C.1 C.2.1 dX3_init_0 rfl (lv_at hl 0 rfl) ?_
  refine W.objInit C.1 C.2.1 C.2.2.2.2.1 (C.2.2.2.2.2.1 (.methodLink RX3 3 objectInit) (by decide +kernel)) (C.2.2.2.2.2.1 (.instanceMethod objectInit) (by decide +kernel)) (C.2.2.2.2.2.1 _ (List.mem_of_getElem? (i := 3) rfl)) rfl (by rw [C.2.2.2.1]; exact hl.1) rfl dX3_init_1 (Nat.le_of_ble_eq_true rfl) (Nat.le_of_ble_eq_true rfl) ?_
  refine W.eq (g2 := F0 m 4 ls []) rfl ?_
  refine lv_aload_n C.1 C.2.1 dX3_init_4 rfl (lv_at hl 0 rfl) ?_
  refine lv_iload_n C.1 C.2.1 dX3_init_5 rfl (lv_at hl 1 rfl) ?_
  obtain ⟨g3, h⟩ := gdE h
  obtain ⟨z1, e2, h⟩ := bdE h
  refine r_putE C hw g3 in_X3_init_X1 in_X3_init_X6 in_X3_init_X8 0 (by decide) (by decide +kernel) e2 dX3_init_6 (fun H locs hw => ?_)
  have g4 : x0 < zn z1 ∧ (zK z1 x0 = 1 ∨ zK z1 x0 = 5 ∨ zK z1 x0 = 7) := by rw [e2]; exact g3
  refine lv_aload_n C.1 C.2.1 dX3_init_9 rfl (lv_at hl 0 rfl) ?_
  refine lv_iload_n C.1 C.2.1 dX3_init_10 rfl (lv_at hl 2 rfl) ?_
  obtain ⟨z5, e6, h⟩ := bdE h
  refine r_putE C hw g4 in_X3_init_X1 in_X3_init_X6 in_X3_init_X8 1 (by decide) (by decide +kernel) e6 dX3_init_11 (fun H locs hw => ?_)
  have g7 : x0 < zn z5 ∧ (zK z5 x0 = 1 ∨ zK z5 x0 = 5 ∨ zK z5 x0 = 7) := by rw [e6]; exact g4
  refine lv_aload_n C.1 C.2.1 dX3_init_14 rfl (lv_at hl 0 rfl) ?_
  refine lv_iload_n C.1 C.2.1 dX3_init_15 rfl (lv_at hl 3 rfl) ?_
  obtain ⟨z8, e9, h⟩ := bdE h
  refine r_putE C hw g7 in_X3_init_X1 in_X3_init_X6 in_X3_init_X8 2 (by decide) (by decide +kernel) e9 dX3_init_16 (fun H locs hw => ?_)
  have g10 : x0 < zn z8 ∧ (zK z8 x0 = 1 ∨ zK z8 x0 = 5 ∨ zK z8 x0 = 7) := by rw [e9]; exact g7
  refine lv_aload_n C.1 C.2.1 dX3_init_19 rfl (lv_at hl 0 rfl) ?_
  refine lv_iload C.1 C.2.1 dX3_init_20 (lv_at hl 4 rfl) ?_
  obtain ⟨z11, e12, h⟩ := bdE h
  refine r_putE C hw g10 in_X3_init_X1 in_X3_init_X6 in_X3_init_X8 3 (by decide) (by decide +kernel) e12 dX3_init_22 (fun H locs hw => ?_)
  have g13 : x0 < zn z11 ∧ (zK z11 x0 = 1 ∨ zK z11 x0 = 5 ∨ zK z11 x0 = 7) := by rw [e12]; exact g10
  cases h
  replace hF : _ = fin := hF
  subst hF
  exact r_vret C hw dX3_init_25
set_option maxRecDepth 100000 in
theorem kX3_init (l : Launch) (n0 : Nat) (D : va_G) (Y : Nat → ClassId) (N : Nat) (x0 : Nat) (x1 : Int32) (x2 : Int32) (x3 : Int32) (x4 : Int32) (z : Hp) {z1 : Hp} (h : fX3_init N x0 x1 x2 x3 x4 z = some z1) : Met l yX3_init wsX3_init rmX3_init (PreC n0 D Y z [.ref (n0 + x0), .int x1, .int x2, .int x3, .int x4]) (PosV n0 D Y z1) 0 0 (AA n0) := by
  refine Met.ofW (cc := cX3_init) (maxL := 5) (ret := none) (by decide) rfl ?_
  intro p e s m args below meth c s₁ B hml hv
  obtain ⟨rfl, hR, hK⟩ := hv
  have C : Cx n0 D Y RX3 cX3_init none 5 wsX3_init "<init>" p s m ([.ref (n0 + x0), .int x1, .int x2, .int x3, .int x4] : List Value).toArray meth c := ⟨B.exec, B.bytes, B.returns, hml, findClass_of_methodNamed B.named, atoms_spec (ws := wsX3_init) B.pre, B.notSynchronized, (name_of_methodNamed B.named B.method).1, hK⟩
  have hl := lv_entry ([.ref (n0 + x0), .int x1, .int x2, .int x3, .int x4]) (n := 5) (Nat.le_of_ble_eq_true rfl)
  rw [lg_entry_eq]
  generalize (lg_sl ([.ref (n0 + x0), .int x1, .int x2, .int x3, .int x4]) ++ List.replicate (5 - (lg_sl ([.ref (n0 + x0), .int x1, .int x2, .int x3, .int x4])).length) Slot.unset).toArray = ls at hl ⊢
  have hl : lv_has ls 5 [(0, .ref (n0 + x0)), (1, .int x1), (2, .int x2), (3, .int x3), (4, .int x4)] := hl
  exact tX3_init_0 C h rfl ⟨hR, va_S.rf⟩ hl
theorem in_X1_init_X1 : ∀ w ∈ wsX10, w ∈ wsX1_init := by decide +kernel
abbrev rmX1_init : Room := { frames := 2, cells := 0, slots := 0, locals := 48 }
noncomputable def fX1_init (N : Nat) (x0 : Nat) (x1 : Int32) (x2 : Int32) (x3 : Int32) (x4 : Int32) (x5 : Int32) (x6 : Int32) (z : Hp) : Option (Hp) := bo (fX3_init N x0 (2 : Int32) x1 x2 x3 z) fun z2 => gd (x0 < zn z2 ∧ zK z2 x0 = 1) <| bd (zsF z2 68 x0 x4) fun z3 => bd (zsF z3 69 x0 x5) fun z6 => bd (zsF z6 70 x0 x6) fun z9 => some z9
set_option maxHeartbeats 4000000 in
set_option maxRecDepth 100000 in
theorem tX1_init_0 {n0 : Nat} {D : va_G} {Y : Nat → ClassId} {p : Program} {l : Launch} {e : Env} {s : State} {m : MethodId} {args : Array Value} {below : List Frame} {meth : Method} {c : Code} {N : Nat} {fin : Hp} {x0 : Nat} {x1 : Int32} {x2 : Int32} {x3 : Int32} {x4 : Int32} {x5 : Int32} {x6 : Int32}  {z : Hp} (C : Cx n0 D Y RX1 cX1_init none 7 wsX1_init "<init>" p s m args meth c) {x : (Hp)} (h : fX1_init N x0 x1 x2 x3 x4 x5 x6  z = some x) (hF : (fun x => x = fin) x) {H : Heap} {locs : List Loc} {ls : Array Slot} (hw : Wd n0 D Y z s H locs) (hl : lv_has ls 7 [(0, .ref (n0 + x0)), (1, .int x1), (2, .int x2), (3, .int x3), (4, .int x4), (5, .int x5), (6, .int x6)]) : W p l e rmX1_init s m args below meth c H locs 0 0 (MQ below (PosV n0 D Y fin) args s 0 0 (AA n0)) (F0 m 0 ls []) := by
  unfold fX1_init at h
  refine lv_aload_n C.1 C.2.1 dX1_init_0 rfl (lv_at hl 0 rfl) ?_
  refine lv_iconst (v := (2 : Int32)) C.1 C.2.1 dX1_init_1 (by decide) ?_
  refine lv_iload_n C.1 C.2.1 dX1_init_2 rfl (lv_at hl 1 rfl) ?_
  refine lv_iload_n C.1 C.2.1 dX1_init_3 rfl (lv_at hl 2 rfl) ?_
  refine lv_iload_n C.1 C.2.1 dX1_init_4 rfl (lv_at hl 3 rfl) ?_
  obtain ⟨z2, e1, h⟩ := boE h
  refine r_aftv hw (r_runI (As := [.int (2 : Int32), .int x1, .int x2, .int x3]) (rest := []) C hw (kX3_init l n0 D Y N x0 (2 : Int32) x1 x2 x3 z e1) (cwI 4 C.2.2.2.2.2.1 gX1_init_X3_init rfl rfl rfl (C.2.2.2.2.2.1 (.initialized RX3) (by decide +kernel)) (C.2.2.2.2.2.1 (.methodLink RX1 3 yX3_init) (by decide +kernel)) (C.2.2.2.2.2.1 (.instanceMethod yX3_init) (by decide +kernel)) rfl (by decide +kernel) ⟨(Nat.le_of_ble_eq_true rfl), (Nat.le_of_ble_eq_true rfl)⟩) rfl hl.1 rfl (Nat.le_of_ble_eq_true rfl) dX1_init_5 ⟨(Nat.le_of_ble_eq_true rfl), (Nat.le_of_ble_eq_true rfl)⟩) (fun H locs hw => ?_)
  refine lv_aload_n C.1 C.2.1 dX1_init_8 rfl (lv_at hl 0 rfl) ?_
  refine lv_iload C.1 C.2.1 dX1_init_9 (lv_at hl 4 rfl) ?_
  obtain ⟨g5, h⟩ := gdE h
  obtain ⟨z3, e4, h⟩ := bdE h
  refine r_putI C hw g5 (by decide) (Cn := RX1) (T := TX1) (N := 9) rfl in_X1_init_X1 tyX1 tyX1_ok nmX1 4 (by decide) (by decide +kernel) (fun _ h => h) (Or.inr ⟨rfl, rfl, rfl⟩) (ty := .int) (by decide +kernel) rfl rfl (Nat.le_of_ble_eq_true rfl) (st_1_4 n0 z2 x0 x4) e4 dX1_init_11 (fun H locs hw => ?_)
  refine lv_aload_n C.1 C.2.1 dX1_init_14 rfl (lv_at hl 0 rfl) ?_
  refine lv_iload C.1 C.2.1 dX1_init_15 (lv_at hl 5 rfl) ?_
  have g8 : x0 < zn z3 ∧ zK z3 x0 = 1 := by rw [e4]; exact g5
  obtain ⟨z6, e7, h⟩ := bdE h
  refine r_putI C hw g8 (by decide) (Cn := RX1) (T := TX1) (N := 9) rfl in_X1_init_X1 tyX1 tyX1_ok nmX1 5 (by decide) (by decide +kernel) (fun _ h => h) (Or.inr ⟨rfl, rfl, rfl⟩) (ty := .int) (by decide +kernel) rfl rfl (Nat.le_of_ble_eq_true rfl) (st_1_5 n0 z3 x0 x5) e7 dX1_init_17 (fun H locs hw => ?_)
  refine lv_aload_n C.1 C.2.1 dX1_init_20 rfl (lv_at hl 0 rfl) ?_
  refine lv_iload C.1 C.2.1 dX1_init_21 (lv_at hl 6 rfl) ?_
  have g11 : x0 < zn z6 ∧ zK z6 x0 = 1 := by rw [e7]; exact g8
  obtain ⟨z9, e10, h⟩ := bdE h
  refine r_putI C hw g11 (by decide) (Cn := RX1) (T := TX1) (N := 9) rfl in_X1_init_X1 tyX1 tyX1_ok nmX1 6 (by decide) (by decide +kernel) (fun _ h => h) (Or.inr ⟨rfl, rfl, rfl⟩) (ty := .int) (by decide +kernel) rfl rfl (Nat.le_of_ble_eq_true rfl) (st_1_6 n0 z6 x0 x6) e10 dX1_init_23 (fun H locs hw => ?_)
  cases h
  replace hF : _ = fin := hF
  subst hF
  exact r_vret C hw dX1_init_26
set_option maxRecDepth 100000 in
theorem kX1_init (l : Launch) (n0 : Nat) (D : va_G) (Y : Nat → ClassId) (N : Nat) (x0 : Nat) (x1 : Int32) (x2 : Int32) (x3 : Int32) (x4 : Int32) (x5 : Int32) (x6 : Int32) (z : Hp) {z1 : Hp} (h : fX1_init N x0 x1 x2 x3 x4 x5 x6 z = some z1) : Met l yX1_init wsX1_init rmX1_init (PreC n0 D Y z [.ref (n0 + x0), .int x1, .int x2, .int x3, .int x4, .int x5, .int x6]) (PosV n0 D Y z1) 0 0 (AA n0) := by
  refine Met.ofW (cc := cX1_init) (maxL := 7) (ret := none) (by decide) rfl ?_
  intro p e s m args below meth c s₁ B hml hv
  obtain ⟨rfl, hR, hK⟩ := hv
  have C : Cx n0 D Y RX1 cX1_init none 7 wsX1_init "<init>" p s m ([.ref (n0 + x0), .int x1, .int x2, .int x3, .int x4, .int x5, .int x6] : List Value).toArray meth c := ⟨B.exec, B.bytes, B.returns, hml, findClass_of_methodNamed B.named, atoms_spec (ws := wsX1_init) B.pre, B.notSynchronized, (name_of_methodNamed B.named B.method).1, hK⟩
  have hl := lv_entry ([.ref (n0 + x0), .int x1, .int x2, .int x3, .int x4, .int x5, .int x6]) (n := 7) (Nat.le_of_ble_eq_true rfl)
  rw [lg_entry_eq]
  generalize (lg_sl ([.ref (n0 + x0), .int x1, .int x2, .int x3, .int x4, .int x5, .int x6]) ++ List.replicate (7 - (lg_sl ([.ref (n0 + x0), .int x1, .int x2, .int x3, .int x4, .int x5, .int x6])).length) Slot.unset).toArray = ls at hl ⊢
  have hl : lv_has ls 7 [(0, .ref (n0 + x0)), (1, .int x1), (2, .int x2), (3, .int x3), (4, .int x4), (5, .int x5), (6, .int x6)] := hl
  exact tX1_init_0 C h rfl ⟨hR, va_S.rf⟩ hl
theorem in_X1_detail_X1 : ∀ w ∈ wsX10, w ∈ wsX1_detail := by decide +kernel
abbrev rmX1_detail : Room := { frames := 0, cells := 0, slots := 0, locals := 0 }
noncomputable def fX1_detail (N : Nat) (x0 : Nat) (x1 : Int32) (z : Hp) : Option (Int32) := br (x1 = (0 : Int32)) (gd (x0 < zn z ∧ zK z x0 = 1) <| some (zF z 68 x0)) <| br (x1 = (1 : Int32)) (gd (x0 < zn z ∧ zK z x0 = 1) <| some (zF z 69 x0)) <| br (x1 = (2 : Int32)) (gd (x0 < zn z ∧ zK z x0 = 1) <| some (zF z 70 x0)) <| br (x1 = (3 : Int32)) (gd (x0 < zn z ∧ zK z x0 = 1) <| some (zF z 72 x0)) <| some (-2 : Int32)
set_option maxHeartbeats 4000000 in
set_option maxRecDepth 100000 in
theorem tX1_detail_0 {n0 : Nat} {D : va_G} {Y : Nat → ClassId} {p : Program} {l : Launch} {e : Env} {s : State} {m : MethodId} {args : Array Value} {below : List Frame} {meth : Method} {c : Code} {N : Nat} {fin : Int32} {x0 : Nat} {x1 : Int32}  {z : Hp} (C : Cx n0 D Y RX1 cX1_detail (some .int) 2 wsX1_detail "detail" p s m args meth c) {x : (Int32)} (h : fX1_detail N x0 x1  z = some x) (hF : (fun x => x = fin) x) {H : Heap} {locs : List Loc} {ls : Array Slot} (hw : Wd n0 D Y z s H locs) (hl : lv_has ls 2 [(0, .ref (n0 + x0)), (1, .int x1)]) : W p l e rmX1_detail s m args below meth c H locs 0 0 (MQ below (PosI n0 D Y z fin) args s 0 0 (AA n0)) (F0 m 0 ls []) := by
  unfold fX1_detail at h
  refine lv_iload_n C.1 C.2.1 dX1_detail_0 rfl (lv_at hl 1 rfl) ?_
  by_cases c1 : x1 = (0 : Int32)
  · replace h := brT h c1
    refine lv_tableIn (off := 31) (tgt := 32) C.1 C.2.1 dX1_detail_1 (by rw [c1]; decide) (by rw [c1]; decide) (by rw [c1]; decide) (by decide) ?_
    refine lv_aload_n C.1 C.2.1 dX1_detail_32 rfl (lv_at hl 0 rfl) ?_
    obtain ⟨g2, h⟩ := gdE h
    refine r_get (v := .int (zF z 68 x0)) C hw g2 (by decide) (Cn := RX1) (T := TX1) (N := 9) rfl in_X1_detail_X1 4 (by decide) (by decide +kernel) (fun _ h => h) rfl dX1_detail_33 ?_
    cases h
    replace hF : _ = fin := hF
    subst hF
    exact r_iret C hw dX1_detail_36
  replace h := brF h c1
  by_cases c3 : x1 = (1 : Int32)
  · replace h := brT h c3
    refine lv_tableIn (off := 36) (tgt := 37) C.1 C.2.1 dX1_detail_1 (by rw [c3]; decide) (by rw [c3]; decide) (by rw [c3]; decide) (by decide) ?_
    refine lv_aload_n C.1 C.2.1 dX1_detail_37 rfl (lv_at hl 0 rfl) ?_
    obtain ⟨g4, h⟩ := gdE h
    refine r_get (v := .int (zF z 69 x0)) C hw g4 (by decide) (Cn := RX1) (T := TX1) (N := 9) rfl in_X1_detail_X1 5 (by decide) (by decide +kernel) (fun _ h => h) rfl dX1_detail_38 ?_
    cases h
    replace hF : _ = fin := hF
    subst hF
    exact r_iret C hw dX1_detail_41
  replace h := brF h c3
  by_cases c5 : x1 = (2 : Int32)
  · replace h := brT h c5
    refine lv_tableIn (off := 41) (tgt := 42) C.1 C.2.1 dX1_detail_1 (by rw [c5]; decide) (by rw [c5]; decide) (by rw [c5]; decide) (by decide) ?_
    refine lv_aload_n C.1 C.2.1 dX1_detail_42 rfl (lv_at hl 0 rfl) ?_
    obtain ⟨g6, h⟩ := gdE h
    refine r_get (v := .int (zF z 70 x0)) C hw g6 (by decide) (Cn := RX1) (T := TX1) (N := 9) rfl in_X1_detail_X1 6 (by decide) (by decide +kernel) (fun _ h => h) rfl dX1_detail_43 ?_
    cases h
    replace hF : _ = fin := hF
    subst hF
    exact r_iret C hw dX1_detail_46
  replace h := brF h c5
  by_cases c7 : x1 = (3 : Int32)
  · replace h := brT h c7
    refine lv_tableIn (off := 46) (tgt := 47) C.1 C.2.1 dX1_detail_1 (by rw [c7]; decide) (by rw [c7]; decide) (by rw [c7]; decide) (by decide) ?_
    refine lv_aload_n C.1 C.2.1 dX1_detail_47 rfl (lv_at hl 0 rfl) ?_
    obtain ⟨g8, h⟩ := gdE h
    refine r_get (v := .int (zF z 72 x0)) C hw g8 (by decide) (Cn := RX1) (T := TX1) (N := 9) rfl in_X1_detail_X1 8 (by decide) (by decide +kernel) (fun _ h => h) rfl dX1_detail_48 ?_
    cases h
    replace hF : _ = fin := hF
    subst hF
    exact r_iret C hw dX1_detail_51
  replace h := brF h c7
  refine lv_tableOut (tgt := 52) C.1 C.2.1 dX1_detail_1 (by have := ne_ti c1; have : (0 : Int32).toInt = 0 := (by decide); have := ne_ti c3; have : (1 : Int32).toInt = 1 := (by decide); have := ne_ti c5; have : (2 : Int32).toInt = 2 := (by decide); have := ne_ti c7; have : (3 : Int32).toInt = 3 := (by decide); omega) (by decide) ?_
  refine lv_bipush (v := (-2 : Int32)) C.1 C.2.1 dX1_detail_52 (by decide) ?_
  cases h
  replace hF : _ = fin := hF
  subst hF
  exact r_iret C hw dX1_detail_54
set_option maxRecDepth 100000 in
theorem kX1_detail (l : Launch) (n0 : Nat) (D : va_G) (Y : Nat → ClassId) (N : Nat) (x0 : Nat) (x1 : Int32) (z : Hp) {r : Int32} (h : fX1_detail N x0 x1 z = some r) : Met l yX1_detail wsX1_detail rmX1_detail (PreC n0 D Y z [.ref (n0 + x0), .int x1]) (PosI n0 D Y z r) 0 0 (AA n0) := by
  refine Met.ofW (cc := cX1_detail) (maxL := 2) (ret := (some .int)) (by decide) rfl ?_
  intro p e s m args below meth c s₁ B hml hv
  obtain ⟨rfl, hR, hK⟩ := hv
  have C : Cx n0 D Y RX1 cX1_detail (some .int) 2 wsX1_detail "detail" p s m ([.ref (n0 + x0), .int x1] : List Value).toArray meth c := ⟨B.exec, B.bytes, B.returns, hml, findClass_of_methodNamed B.named, atoms_spec (ws := wsX1_detail) B.pre, B.notSynchronized, (name_of_methodNamed B.named B.method).1, hK⟩
  have hl := lv_entry ([.ref (n0 + x0), .int x1]) (n := 2) (Nat.le_of_ble_eq_true rfl)
  rw [lg_entry_eq]
  generalize (lg_sl ([.ref (n0 + x0), .int x1]) ++ List.replicate (2 - (lg_sl ([.ref (n0 + x0), .int x1])).length) Slot.unset).toArray = ls at hl ⊢
  have hl : lv_has ls 2 [(0, .ref (n0 + x0)), (1, .int x1)] := hl
  exact tX1_detail_0 C h rfl ⟨hR, va_S.rf⟩ hl
theorem in_X2_init_X2 : ∀ w ∈ wsX20, w ∈ wsX2_init := by decide +kernel
abbrev rmX2_init : Room := { frames := 1, cells := 4, slots := 800, locals := 24 }
noncomputable def fX2_init (N : Nat) (x0 : Nat) (z : Hp) : Option (Hp) := bd (zal z 16 200) fun z1 => gd (x0 < zn z1 ∧ zK z1 x0 = 2) <| bd (zsG z1 128 x0 (some (zn z))) fun z4 => bd (zal z4 17 200) fun z7 => bd (zsG z7 129 x0 (some (zn z4))) fun z10 => bd (zal z10 12 200) fun z14 => bd (zsG z14 130 x0 (some (zn z10))) fun z17 => bd (zal z17 12 200) fun z21 => bd (zsG z21 131 x0 (some (zn z17))) fun z24 => some z24
set_option maxHeartbeats 4000000 in
set_option maxRecDepth 100000 in
theorem tX2_init_0 {n0 : Nat} {D : va_G} {Y : Nat → ClassId} {p : Program} {l : Launch} {e : Env} {s : State} {m : MethodId} {args : Array Value} {below : List Frame} {meth : Method} {c : Code} {N : Nat} {fin : Hp} {x0 : Nat}  {z : Hp} (C : Cx n0 D Y RX2 cX2_init none 1 wsX2_init "<init>" p s m args meth c) {x : (Hp)} (h : fX2_init N x0  z = some x) (hF : (fun x => x = fin) x) {H : Heap} {locs : List Loc} {ls : Array Slot} (hw : Wd n0 D Y z s H locs) (hl : lv_has ls 1 [(0, .ref (n0 + x0))]) : W p l e rmX2_init s m args below meth c H locs 0 0 (MQ below (PosV n0 D Y fin) args s 4 800 (AA n0)) (F0 m 0 ls []) := by
  unfold fX2_init at h
  refine lv_aload_n C.1 C.2.1 dX2_init_0 rfl (lv_at hl 0 rfl) ?_
  refine W.objInit C.1 C.2.1 C.2.2.2.2.1 (C.2.2.2.2.2.1 (.methodLink RX2 3 objectInit) (by decide +kernel)) (C.2.2.2.2.2.1 (.instanceMethod objectInit) (by decide +kernel)) (C.2.2.2.2.2.1 _ (List.mem_of_getElem? (i := 3) rfl)) rfl (by rw [C.2.2.2.1]; exact hl.1) rfl dX2_init_1 (Nat.le_of_ble_eq_true rfl) (Nat.le_of_ble_eq_true rfl) ?_
  refine W.eq (g2 := F0 m 4 ls []) rfl ?_
  refine lv_aload_n C.1 C.2.1 dX2_init_4 rfl (lv_at hl 0 rfl) ?_
  refine lv_sipush (v := (200 : Int32)) C.1 C.2.1 dX2_init_5 (by decide) ?_
  obtain ⟨z1, e2, h⟩ := bdE h
  refine r_newq C hw (ki := 16) (t0 := 4) (E := RX3) (by decide) rfl (by decide +kernel) C.2.2.2.2.2.2.2.2.2.1.2.1 (N' := 200) (by decide) (by decide) (by decide) (by decide) (by decide) dX2_init_8 (fun H hw => ?_)
  rw [← e2] at hw
  have g3 : (zn z) < zn z1 ∧ zK z1 (zn z) = 16 := by rw [e2]; exact ok_new _ _ _
  obtain ⟨g6, h⟩ := gdE h
  obtain ⟨z4, e5, h⟩ := bdE h
  refine r_putG C hw g6 (by decide) (Cn := RX2) (T := TX2) (N := 7) rfl in_X2_init_X2 tyX2 tyX2_ok nmX2 0 (by decide) (by decide +kernel) (fun _ h => h) (Or.inr ⟨rfl, rfl, rfl⟩) (ty := .array (.object "BreadLaw$Entry")) (by decide +kernel) rfl rfl (Nat.le_of_ble_eq_true rfl) (st_2_0 n0 z1 x0 (some (zn z))) e5 dX2_init_11 (fun H locs hw => ?_)
  refine lv_aload_n C.1 C.2.1 dX2_init_14 rfl (lv_at hl 0 rfl) ?_
  refine lv_sipush (v := (200 : Int32)) C.1 C.2.1 dX2_init_15 (by decide) ?_
  obtain ⟨z7, e8, h⟩ := bdE h
  refine r_newq C hw (ki := 17) (t0 := 5) (E := RX6) (by decide) rfl (by decide +kernel) C.2.2.2.2.2.2.2.2.2.1.2.2.1 (N' := 200) (by decide) (by decide) (by decide) (by decide) (by decide) dX2_init_18 (fun H hw => ?_)
  rw [← e8] at hw
  have g9 : (zn z4) < zn z7 ∧ zK z7 (zn z4) = 17 := by rw [e8]; exact ok_new _ _ _
  have g12 : x0 < zn z4 ∧ zK z4 x0 = 2 := by rw [e5]; exact g6
  have g13 : x0 < zn z7 ∧ zK z7 x0 = 2 := by rw [e8]; exact ok_al _ _ g12
  obtain ⟨z10, e11, h⟩ := bdE h
  refine r_putG C hw g13 (by decide) (Cn := RX2) (T := TX2) (N := 7) rfl in_X2_init_X2 tyX2 tyX2_ok nmX2 1 (by decide) (by decide +kernel) (fun _ h => h) (Or.inr ⟨rfl, rfl, rfl⟩) (ty := .array (.object "BreadLaw$Lot")) (by decide +kernel) rfl rfl (Nat.le_of_ble_eq_true rfl) (st_2_1 n0 z7 x0 (some (zn z4))) e11 dX2_init_21 (fun H locs hw => ?_)
  refine lv_aload_n C.1 C.2.1 dX2_init_24 rfl (lv_at hl 0 rfl) ?_
  refine lv_sipush (v := (200 : Int32)) C.1 C.2.1 dX2_init_25 (by decide) ?_
  obtain ⟨z14, e15, h⟩ := bdE h
  refine r_newi C hw (by decide +kernel) (N' := 200) (by decide) (by decide) (by decide) (by decide) (by decide) dX2_init_28 (fun H hw => ?_)
  rw [← e15] at hw
  have g16 : (zn z10) < zn z14 ∧ zK z14 (zn z10) = 12 := by rw [e15]; exact ok_new _ _ _
  have g19 : x0 < zn z10 ∧ zK z10 x0 = 2 := by rw [e11]; exact g13
  have g20 : x0 < zn z14 ∧ zK z14 x0 = 2 := by rw [e15]; exact ok_al _ _ g19
  obtain ⟨z17, e18, h⟩ := bdE h
  refine r_putG C hw g20 (by decide) (Cn := RX2) (T := TX2) (N := 7) rfl in_X2_init_X2 tyX2 tyX2_ok nmX2 2 (by decide) (by decide +kernel) (fun _ h => h) (Or.inr ⟨rfl, rfl, rfl⟩) (ty := .array .int) (by decide +kernel) rfl rfl (Nat.le_of_ble_eq_true rfl) (st_2_2 n0 z14 x0 (some (zn z10))) e18 dX2_init_30 (fun H locs hw => ?_)
  refine lv_aload_n C.1 C.2.1 dX2_init_33 rfl (lv_at hl 0 rfl) ?_
  refine lv_sipush (v := (200 : Int32)) C.1 C.2.1 dX2_init_34 (by decide) ?_
  obtain ⟨z21, e22, h⟩ := bdE h
  refine r_newi C hw (by decide +kernel) (N' := 200) (by decide) (by decide) (by decide) (by decide) (by decide) dX2_init_37 (fun H hw => ?_)
  rw [← e22] at hw
  have g23 : (zn z17) < zn z21 ∧ zK z21 (zn z17) = 12 := by rw [e22]; exact ok_new _ _ _
  have g26 : x0 < zn z17 ∧ zK z17 x0 = 2 := by rw [e18]; exact g20
  have g27 : x0 < zn z21 ∧ zK z21 x0 = 2 := by rw [e22]; exact ok_al _ _ g26
  obtain ⟨z24, e25, h⟩ := bdE h
  refine r_putG C hw g27 (by decide) (Cn := RX2) (T := TX2) (N := 7) rfl in_X2_init_X2 tyX2 tyX2_ok nmX2 3 (by decide) (by decide +kernel) (fun _ h => h) (Or.inr ⟨rfl, rfl, rfl⟩) (ty := .array .int) (by decide +kernel) rfl rfl (Nat.le_of_ble_eq_true rfl) (st_2_3 n0 z21 x0 (some (zn z17))) e25 dX2_init_39 (fun H locs hw => ?_)
  cases h
  replace hF : _ = fin := hF
  subst hF
  exact r_vret C hw dX2_init_42
set_option maxRecDepth 100000 in
theorem kX2_init (l : Launch) (n0 : Nat) (D : va_G) (Y : Nat → ClassId) (N : Nat) (x0 : Nat) (z : Hp) {z1 : Hp} (h : fX2_init N x0 z = some z1) : Met l yX2_init wsX2_init rmX2_init (PreC n0 D Y z [.ref (n0 + x0)]) (PosV n0 D Y z1) 4 800 (AA n0) := by
  refine Met.ofW (cc := cX2_init) (maxL := 1) (ret := none) (by decide) rfl ?_
  intro p e s m args below meth c s₁ B hml hv
  obtain ⟨rfl, hR, hK⟩ := hv
  have C : Cx n0 D Y RX2 cX2_init none 1 wsX2_init "<init>" p s m ([.ref (n0 + x0)] : List Value).toArray meth c := ⟨B.exec, B.bytes, B.returns, hml, findClass_of_methodNamed B.named, atoms_spec (ws := wsX2_init) B.pre, B.notSynchronized, (name_of_methodNamed B.named B.method).1, hK⟩
  have hl := lv_entry ([.ref (n0 + x0)]) (n := 1) (Nat.le_of_ble_eq_true rfl)
  rw [lg_entry_eq]
  generalize (lg_sl ([.ref (n0 + x0)]) ++ List.replicate (1 - (lg_sl ([.ref (n0 + x0)])).length) Slot.unset).toArray = ls at hl ⊢
  have hl : lv_has ls 1 [(0, .ref (n0 + x0))] := hl
  exact tX2_init_0 C h rfl ⟨hR, va_S.rf⟩ hl
theorem in_X2_isFull_X2 : ∀ w ∈ wsX20, w ∈ wsX2_isFull := by decide +kernel
abbrev rmX2_isFull : Room := { frames := 0, cells := 0, slots := 0, locals := 0 }
noncomputable def fX2_isFull (N : Nat) (x0 : Nat) (z : Hp) : Option (Int32) := gd (x0 < zn z ∧ zK z x0 = 2) <| br ((zF z 132 x0) < (200 : Int32)) (some (0 : Int32)) (some (1 : Int32))
set_option maxHeartbeats 4000000 in
set_option maxRecDepth 100000 in
theorem tX2_isFull_0 {n0 : Nat} {D : va_G} {Y : Nat → ClassId} {p : Program} {l : Launch} {e : Env} {s : State} {m : MethodId} {args : Array Value} {below : List Frame} {meth : Method} {c : Code} {N : Nat} {fin : Int32} {x0 : Nat}  {z : Hp} (C : Cx n0 D Y RX2 cX2_isFull (some .boolean) 1 wsX2_isFull "isFull" p s m args meth c) {x : (Int32)} (h : fX2_isFull N x0  z = some x) (hF : (fun x => x = fin) x) {H : Heap} {locs : List Loc} {ls : Array Slot} (hw : Wd n0 D Y z s H locs) (hl : lv_has ls 1 [(0, .ref (n0 + x0))]) : W p l e rmX2_isFull s m args below meth c H locs 0 0 (MQ below (PosI n0 D Y z fin) args s 0 0 (AA n0)) (F0 m 0 ls []) := by
  unfold fX2_isFull at h
  refine lv_aload_n C.1 C.2.1 dX2_isFull_0 rfl (lv_at hl 0 rfl) ?_
  obtain ⟨g1, h⟩ := gdE h
  refine r_get (v := .int (zF z 132 x0)) C hw g1 (by decide) (Cn := RX2) (T := TX2) (N := 7) rfl in_X2_isFull_X2 4 (by decide) (by decide +kernel) (fun _ h => h) rfl dX2_isFull_1 ?_
  refine lv_sipush (v := (200 : Int32)) C.1 C.2.1 dX2_isFull_4 (by decide) ?_
  refine lv_icmp_lt (tgt := 14) C.1 C.2.1 dX2_isFull_7 (by decide) (fun c2 => ?_) (fun c2 => ?_)
  · replace h := brT h c2
    refine lv_iconst (v := (0 : Int32)) C.1 C.2.1 dX2_isFull_14 (by decide) ?_
    cases h
    replace hF : _ = fin := hF
    subst hF
    exact r_zret C hw (by decide) dX2_isFull_15
  · replace h := brF h c2
    refine lv_iconst (v := (1 : Int32)) C.1 C.2.1 dX2_isFull_10 (by decide) ?_
    refine lv_goto (tgt := 15) C.1 C.2.1 dX2_isFull_11 (by decide) ?_
    cases h
    replace hF : _ = fin := hF
    subst hF
    exact r_zret C hw (by decide) dX2_isFull_15
set_option maxRecDepth 100000 in
theorem kX2_isFull (l : Launch) (n0 : Nat) (D : va_G) (Y : Nat → ClassId) (N : Nat) (x0 : Nat) (z : Hp) {r : Int32} (h : fX2_isFull N x0 z = some r) : Met l yX2_isFull wsX2_isFull rmX2_isFull (PreC n0 D Y z [.ref (n0 + x0)]) (PosI n0 D Y z r) 0 0 (AA n0) := by
  refine Met.ofW (cc := cX2_isFull) (maxL := 1) (ret := (some .boolean)) (by decide) rfl ?_
  intro p e s m args below meth c s₁ B hml hv
  obtain ⟨rfl, hR, hK⟩ := hv
  have C : Cx n0 D Y RX2 cX2_isFull (some .boolean) 1 wsX2_isFull "isFull" p s m ([.ref (n0 + x0)] : List Value).toArray meth c := ⟨B.exec, B.bytes, B.returns, hml, findClass_of_methodNamed B.named, atoms_spec (ws := wsX2_isFull) B.pre, B.notSynchronized, (name_of_methodNamed B.named B.method).1, hK⟩
  have hl := lv_entry ([.ref (n0 + x0)]) (n := 1) (Nat.le_of_ble_eq_true rfl)
  rw [lg_entry_eq]
  generalize (lg_sl ([.ref (n0 + x0)]) ++ List.replicate (1 - (lg_sl ([.ref (n0 + x0)])).length) Slot.unset).toArray = ls at hl ⊢
  have hl : lv_has ls 1 [(0, .ref (n0 + x0))] := hl
  exact tX2_isFull_0 C h rfl ⟨hR, va_S.rf⟩ hl
theorem in_X2_enter_X2 : ∀ w ∈ wsX20, w ∈ wsX2_enter := by decide +kernel
abbrev rmX2_enter : Room := { frames := 1, cells := 0, slots := 0, locals := 20 }
noncomputable def fX2_enter_27 (N : Nat) (x0 : Nat) (z : Hp) : Option (Hp) := some z
set_option maxHeartbeats 4000000 in
set_option maxRecDepth 100000 in
theorem tX2_enter_27 {n0 : Nat} {D : va_G} {Y : Nat → ClassId} {p : Program} {l : Launch} {e : Env} {s : State} {m : MethodId} {args : Array Value} {below : List Frame} {meth : Method} {c : Code} {N : Nat} {fin : Hp} {x0 : Nat}  {z : Hp} (C : Cx n0 D Y RX2 cX2_enter none 2 wsX2_enter "enter" p s m args meth c) {x : (Hp)} (h : fX2_enter_27 N x0  z = some x) (hF : (fun x => x = fin) x) {H : Heap} {locs : List Loc} {ls : Array Slot} (hw : Wd n0 D Y z s H locs) (hl : lv_has ls 2 [(0, .ref (n0 + x0))]) : W p l e rmX2_enter s m args below meth c H locs 0 0 (MQ below (PosV n0 D Y fin) args s 0 0 (AA n0)) (F0 m 27 ls []) := by
  unfold fX2_enter_27 at h
  cases h
  replace hF : _ = fin := hF
  subst hF
  exact r_vret C hw dX2_enter_27
noncomputable def fX2_enter (N : Nat) (x0 : Nat) (x1 : Nat) (z : Hp) : Option (Hp) := gd (x0 < zn z ∧ zK z x0 = 2) <| bo (fX2_isFull N x0 z) fun r2 => br (r2 = 0) (bo (zG z 128 x0) fun b6 => gd (b6 < zn z ∧ zK z b6 = 16) <| gd (¬ ((zF z 132 x0) < 0 ∨ zL z b6 ≤ Int32.toNatClampNeg (zF z 132 x0))) <| gd (x1 < zn z ∧ (zK z x1 = 1 ∨ zK z x1 = 5 ∨ zK z x1 = 7)) <| bd (zsR z b6 (Int32.toNatClampNeg (zF z 132 x0)) (some x1)) fun z10 => bd (zsF z10 132 x0 ((zF z10 132 x0) + (1 : Int32))) fun z13 => fX2_enter_27 N x0 z13) (fX2_enter_27 N x0 z)
set_option maxHeartbeats 4000000 in
set_option maxRecDepth 100000 in
theorem tX2_enter_0 {n0 : Nat} {D : va_G} {Y : Nat → ClassId} {p : Program} {l : Launch} {e : Env} {s : State} {m : MethodId} {args : Array Value} {below : List Frame} {meth : Method} {c : Code} {N : Nat} {fin : Hp} {x0 : Nat} {x1 : Nat}  {z : Hp} (C : Cx n0 D Y RX2 cX2_enter none 2 wsX2_enter "enter" p s m args meth c) {x : (Hp)} (h : fX2_enter N x0 x1  z = some x) (hF : (fun x => x = fin) x) {H : Heap} {locs : List Loc} {ls : Array Slot} (hw : Wd n0 D Y z s H locs) (hl : lv_has ls 2 [(0, .ref (n0 + x0)), (1, .ref (n0 + x1))]) : W p l e rmX2_enter s m args below meth c H locs 0 0 (MQ below (PosV n0 D Y fin) args s 0 0 (AA n0)) (F0 m 0 ls []) := by
  unfold fX2_enter at h
  refine lv_aload_n C.1 C.2.1 dX2_enter_0 rfl (lv_at hl 0 rfl) ?_
  obtain ⟨g3, h⟩ := gdE h
  obtain ⟨r2, e1, h⟩ := boE h
  refine r_afti hw (r_runV (As := []) (rest := []) C hw (ki := 2) g3 (by decide) rfl (kX2_isFull l n0 D Y N x0  z e1) (cwV 0 C.2.2.2.2.2.1 gX2_enter_X2_isFull rfl rfl rfl (by decide +kernel) ⟨(Nat.le_of_ble_eq_true rfl), (Nat.le_of_ble_eq_true rfl)⟩) rfl hl.1 rfl (Nat.le_of_ble_eq_true rfl) dX2_enter_1 ⟨(Nat.le_of_ble_eq_true rfl), (Nat.le_of_ble_eq_true rfl)⟩) (fun H locs hw => ?_)
  refine lv_if_ne (tgt := 27) C.1 C.2.1 dX2_enter_4 (by decide) (fun c4 => ?_) (fun c4 => ?_)
  · replace h := brF h c4
    exact tX2_enter_27 C h hF hw (lv_sub hl [0] rfl)
  · replace h := brT h c4
    refine lv_aload_n C.1 C.2.1 dX2_enter_7 rfl (lv_at hl 0 rfl) ?_
    refine r_get (v := rv n0 (zG z 128 x0)) C hw g3 (by decide) (Cn := RX2) (T := TX2) (N := 7) rfl in_X2_enter_X2 0 (by decide) (by decide +kernel) (fun _ h => h) rfl dX2_enter_8 ?_
    obtain ⟨b6, e5, h⟩ := boE h
    refine r_topr e5 ?_
    refine lv_aload_n C.1 C.2.1 dX2_enter_11 rfl (lv_at hl 0 rfl) ?_
    refine r_get (v := .int (zF z 132 x0)) C hw g3 (by decide) (Cn := RX2) (T := TX2) (N := 7) rfl in_X2_enter_X2 4 (by decide) (by decide +kernel) (fun _ h => h) rfl dX2_enter_12 ?_
    refine lv_aload_n C.1 C.2.1 dX2_enter_15 rfl (lv_at hl 1 rfl) ?_
    obtain ⟨g7, h⟩ := gdE h
    obtain ⟨i8, h⟩ := gdE h
    obtain ⟨g9, h⟩ := gdE h
    obtain ⟨z10, e11, h⟩ := bdE h
    refine r_aastE C hw g7 g9 i8 e11 dX2_enter_16 (fun H locs hw => ?_)
    refine lv_aload_n C.1 C.2.1 dX2_enter_17 rfl (lv_at hl 0 rfl) ?_
    refine lv_dup C.1 C.2.1 dX2_enter_18 rfl ?_
    have g12 : x0 < zn z10 ∧ zK z10 x0 = 2 := by rw [e11]; exact g3
    refine r_get (v := .int (zF z10 132 x0)) C hw g12 (by decide) (Cn := RX2) (T := TX2) (N := 7) rfl in_X2_enter_X2 4 (by decide) (by decide +kernel) (fun _ h => h) rfl dX2_enter_19 ?_
    refine lv_iconst (v := (1 : Int32)) C.1 C.2.1 dX2_enter_22 (by decide) ?_
    refine lv_iadd C.1 C.2.1 dX2_enter_23 ?_
    obtain ⟨z13, e14, h⟩ := bdE h
    refine r_putI C hw g12 (by decide) (Cn := RX2) (T := TX2) (N := 7) rfl in_X2_enter_X2 tyX2 tyX2_ok nmX2 4 (by decide) (by decide +kernel) (fun _ h => h) (Or.inl rfl) (ty := .int) (by decide +kernel) rfl rfl (Nat.le_of_ble_eq_true rfl) (st_2_4 n0 z10 x0 ((zF z10 132 x0) + (1 : Int32))) e14 dX2_enter_24 (fun H locs hw => ?_)
    exact tX2_enter_27 C h hF hw (lv_sub hl [0] rfl)
set_option maxRecDepth 100000 in
theorem kX2_enter (l : Launch) (n0 : Nat) (D : va_G) (Y : Nat → ClassId) (N : Nat) (x0 : Nat) (x1 : Nat) (z : Hp) {z1 : Hp} (h : fX2_enter N x0 x1 z = some z1) : Met l yX2_enter wsX2_enter rmX2_enter (PreC n0 D Y z [.ref (n0 + x0), .ref (n0 + x1)]) (PosV n0 D Y z1) 0 0 (AA n0) := by
  refine Met.ofW (cc := cX2_enter) (maxL := 2) (ret := none) (by decide) rfl ?_
  intro p e s m args below meth c s₁ B hml hv
  obtain ⟨rfl, hR, hK⟩ := hv
  have C : Cx n0 D Y RX2 cX2_enter none 2 wsX2_enter "enter" p s m ([.ref (n0 + x0), .ref (n0 + x1)] : List Value).toArray meth c := ⟨B.exec, B.bytes, B.returns, hml, findClass_of_methodNamed B.named, atoms_spec (ws := wsX2_enter) B.pre, B.notSynchronized, (name_of_methodNamed B.named B.method).1, hK⟩
  have hl := lv_entry ([.ref (n0 + x0), .ref (n0 + x1)]) (n := 2) (Nat.le_of_ble_eq_true rfl)
  rw [lg_entry_eq]
  generalize (lg_sl ([.ref (n0 + x0), .ref (n0 + x1)]) ++ List.replicate (2 - (lg_sl ([.ref (n0 + x0), .ref (n0 + x1)])).length) Slot.unset).toArray = ls at hl ⊢
  have hl : lv_has ls 2 [(0, .ref (n0 + x0)), (1, .ref (n0 + x1))] := hl
  exact tX2_enter_0 C h rfl ⟨hR, va_S.rf⟩ hl
theorem in_X2_entryAt_X2 : ∀ w ∈ wsX20, w ∈ wsX2_entryAt := by decide +kernel
abbrev rmX2_entryAt : Room := { frames := 0, cells := 0, slots := 0, locals := 0 }
noncomputable def fX2_entryAt_12 (N : Nat) (x0 : Nat) (z : Hp) : Option (Option Nat) := some (none : Option Nat)
set_option maxHeartbeats 4000000 in
set_option maxRecDepth 100000 in
theorem tX2_entryAt_12 {n0 : Nat} {D : va_G} {Y : Nat → ClassId} {p : Program} {l : Launch} {e : Env} {s : State} {m : MethodId} {args : Array Value} {below : List Frame} {meth : Method} {c : Code} {N : Nat} {fin : Option Nat} {x0 : Nat}  {z : Hp} (C : Cx n0 D Y RX2 cX2_entryAt (some (.object "BreadLaw$Entry")) 2 wsX2_entryAt "entryAt" p s m args meth c) {x : (Option Nat)} (h : fX2_entryAt_12 N x0  z = some x) (hF : (fun x => x = fin) x) {H : Heap} {locs : List Loc} {ls : Array Slot} (hw : Wd n0 D Y z s H locs) (hl : lv_has ls 2 [(0, .ref (n0 + x0))]) : W p l e rmX2_entryAt s m args below meth c H locs 0 0 (MQ below (PosQ n0 D Y z fin) args s 0 0 (AA n0)) (F0 m 12 ls []) := by
  unfold fX2_entryAt_12 at h
  refine lv_null C.1 C.2.1 dX2_entryAt_12 ?_
  refine lv_goto (tgt := 22) C.1 C.2.1 dX2_entryAt_13 (by decide) ?_
  cases h
  replace hF : _ = fin := hF
  subst hF
  exact r_aret (r := (none : Option Nat)) C hw dX2_entryAt_22
noncomputable def fX2_entryAt (N : Nat) (x0 : Nat) (x1 : Int32) (z : Hp) : Option (Option Nat) := br (x1 < 0) (fX2_entryAt_12 N x0 z) (gd (x0 < zn z ∧ zK z x0 = 2) <| br (x1 < (zF z 132 x0)) (bo (zG z 128 x0) fun b5 => gd (b5 < zn z ∧ zK z b5 = 16) <| gd (¬ (x1 < 0 ∨ zL z b5 ≤ (x1).toNatClampNeg)) <| bd (zR z b5 (x1).toNatClampNeg) fun q8 => some q8) (fX2_entryAt_12 N x0 z))
set_option maxHeartbeats 4000000 in
set_option maxRecDepth 100000 in
theorem tX2_entryAt_0 {n0 : Nat} {D : va_G} {Y : Nat → ClassId} {p : Program} {l : Launch} {e : Env} {s : State} {m : MethodId} {args : Array Value} {below : List Frame} {meth : Method} {c : Code} {N : Nat} {fin : Option Nat} {x0 : Nat} {x1 : Int32}  {z : Hp} (C : Cx n0 D Y RX2 cX2_entryAt (some (.object "BreadLaw$Entry")) 2 wsX2_entryAt "entryAt" p s m args meth c) {x : (Option Nat)} (h : fX2_entryAt N x0 x1  z = some x) (hF : (fun x => x = fin) x) {H : Heap} {locs : List Loc} {ls : Array Slot} (hw : Wd n0 D Y z s H locs) (hl : lv_has ls 2 [(0, .ref (n0 + x0)), (1, .int x1)]) : W p l e rmX2_entryAt s m args below meth c H locs 0 0 (MQ below (PosQ n0 D Y z fin) args s 0 0 (AA n0)) (F0 m 0 ls []) := by
  unfold fX2_entryAt at h
  refine lv_iload_n C.1 C.2.1 dX2_entryAt_0 rfl (lv_at hl 1 rfl) ?_
  refine lv_if_lt (tgt := 12) C.1 C.2.1 dX2_entryAt_1 (by decide) (fun c1 => ?_) (fun c1 => ?_)
  · replace h := brT h c1
    exact tX2_entryAt_12 C h hF hw (lv_sub hl [0] rfl)
  · replace h := brF h c1
    refine lv_iload_n C.1 C.2.1 dX2_entryAt_4 rfl (lv_at hl 1 rfl) ?_
    refine lv_aload_n C.1 C.2.1 dX2_entryAt_5 rfl (lv_at hl 0 rfl) ?_
    obtain ⟨g2, h⟩ := gdE h
    refine r_get (v := .int (zF z 132 x0)) C hw g2 (by decide) (Cn := RX2) (T := TX2) (N := 7) rfl in_X2_entryAt_X2 4 (by decide) (by decide +kernel) (fun _ h => h) rfl dX2_entryAt_6 ?_
    refine lv_icmp_lt (tgt := 16) C.1 C.2.1 dX2_entryAt_9 (by decide) (fun c3 => ?_) (fun c3 => ?_)
    · replace h := brT h c3
      refine lv_aload_n C.1 C.2.1 dX2_entryAt_16 rfl (lv_at hl 0 rfl) ?_
      refine r_get (v := rv n0 (zG z 128 x0)) C hw g2 (by decide) (Cn := RX2) (T := TX2) (N := 7) rfl in_X2_entryAt_X2 0 (by decide) (by decide +kernel) (fun _ h => h) rfl dX2_entryAt_17 ?_
      obtain ⟨b5, e4, h⟩ := boE h
      refine r_topr e4 ?_
      refine lv_iload_n C.1 C.2.1 dX2_entryAt_20 rfl (lv_at hl 1 rfl) ?_
      obtain ⟨g6, h⟩ := gdE h
      obtain ⟨i7, h⟩ := gdE h
      refine r_aald C hw (ki := 16) (t0 := 4) (E := RX3) g6 (by decide) rfl i7 dX2_entryAt_21 ?_
      obtain ⟨q8, e9, h⟩ := bdE h
      refine r_topq e9 ?_
      cases h
      replace hF : _ = fin := hF
      subst hF
      exact r_aret C hw dX2_entryAt_22
    · replace h := brF h c3
      exact tX2_entryAt_12 C h hF hw (lv_sub hl [0] rfl)
set_option maxRecDepth 100000 in
theorem kX2_entryAt (l : Launch) (n0 : Nat) (D : va_G) (Y : Nat → ClassId) (N : Nat) (x0 : Nat) (x1 : Int32) (z : Hp) {r : Option Nat} (h : fX2_entryAt N x0 x1 z = some r) : Met l yX2_entryAt wsX2_entryAt rmX2_entryAt (PreC n0 D Y z [.ref (n0 + x0), .int x1]) (PosQ n0 D Y z r) 0 0 (AA n0) := by
  refine Met.ofW (cc := cX2_entryAt) (maxL := 2) (ret := (some (.object "BreadLaw$Entry"))) (by decide) rfl ?_
  intro p e s m args below meth c s₁ B hml hv
  obtain ⟨rfl, hR, hK⟩ := hv
  have C : Cx n0 D Y RX2 cX2_entryAt (some (.object "BreadLaw$Entry")) 2 wsX2_entryAt "entryAt" p s m ([.ref (n0 + x0), .int x1] : List Value).toArray meth c := ⟨B.exec, B.bytes, B.returns, hml, findClass_of_methodNamed B.named, atoms_spec (ws := wsX2_entryAt) B.pre, B.notSynchronized, (name_of_methodNamed B.named B.method).1, hK⟩
  have hl := lv_entry ([.ref (n0 + x0), .int x1]) (n := 2) (Nat.le_of_ble_eq_true rfl)
  rw [lg_entry_eq]
  generalize (lg_sl ([.ref (n0 + x0), .int x1]) ++ List.replicate (2 - (lg_sl ([.ref (n0 + x0), .int x1])).length) Slot.unset).toArray = ls at hl ⊢
  have hl : lv_has ls 2 [(0, .ref (n0 + x0)), (1, .int x1)] := hl
  exact tX2_entryAt_0 C h rfl ⟨hR, va_S.rf⟩ hl
theorem in_X2_queueFlour_X2 : ∀ w ∈ wsX20, w ∈ wsX2_queueFlour := by decide +kernel
abbrev rmX2_queueFlour : Room := { frames := 0, cells := 0, slots := 0, locals := 0 }
noncomputable def fX2_queueFlour_30 (N : Nat) (x0 : Nat) (z : Hp) : Option (Hp) := some z
set_option maxHeartbeats 4000000 in
set_option maxRecDepth 100000 in
theorem tX2_queueFlour_30 {n0 : Nat} {D : va_G} {Y : Nat → ClassId} {p : Program} {l : Launch} {e : Env} {s : State} {m : MethodId} {args : Array Value} {below : List Frame} {meth : Method} {c : Code} {N : Nat} {fin : Hp} {x0 : Nat}  {z : Hp} (C : Cx n0 D Y RX2 cX2_queueFlour none 2 wsX2_queueFlour "queueFlour" p s m args meth c) {x : (Hp)} (h : fX2_queueFlour_30 N x0  z = some x) (hF : (fun x => x = fin) x) {H : Heap} {locs : List Loc} {ls : Array Slot} (hw : Wd n0 D Y z s H locs) (hl : lv_has ls 2 [(0, .ref (n0 + x0))]) : W p l e rmX2_queueFlour s m args below meth c H locs 0 0 (MQ below (PosV n0 D Y fin) args s 0 0 (AA n0)) (F0 m 30 ls []) := by
  unfold fX2_queueFlour_30 at h
  cases h
  replace hF : _ = fin := hF
  subst hF
  exact r_vret C hw dX2_queueFlour_30
noncomputable def fX2_queueFlour (N : Nat) (x0 : Nat) (x1 : Nat) (z : Hp) : Option (Hp) := gd (x0 < zn z ∧ zK z x0 = 2) <| br ((200 : Int32) ≤ (zF z 133 x0)) (fX2_queueFlour_30 N x0 z) (bo (zG z 129 x0) fun b4 => gd (b4 < zn z ∧ zK z b4 = 17) <| gd (¬ ((zF z 133 x0) < 0 ∨ zL z b4 ≤ Int32.toNatClampNeg (zF z 133 x0))) <| gd (x1 < zn z ∧ zK z x1 = 5) <| bd (zsR z b4 (Int32.toNatClampNeg (zF z 133 x0)) (some x1)) fun z8 => bd (zsF z8 133 x0 ((zF z8 133 x0) + (1 : Int32))) fun z11 => fX2_queueFlour_30 N x0 z11)
set_option maxHeartbeats 4000000 in
set_option maxRecDepth 100000 in
theorem tX2_queueFlour_0 {n0 : Nat} {D : va_G} {Y : Nat → ClassId} {p : Program} {l : Launch} {e : Env} {s : State} {m : MethodId} {args : Array Value} {below : List Frame} {meth : Method} {c : Code} {N : Nat} {fin : Hp} {x0 : Nat} {x1 : Nat}  {z : Hp} (C : Cx n0 D Y RX2 cX2_queueFlour none 2 wsX2_queueFlour "queueFlour" p s m args meth c) {x : (Hp)} (h : fX2_queueFlour N x0 x1  z = some x) (hF : (fun x => x = fin) x) {H : Heap} {locs : List Loc} {ls : Array Slot} (hw : Wd n0 D Y z s H locs) (hl : lv_has ls 2 [(0, .ref (n0 + x0)), (1, .ref (n0 + x1))]) : W p l e rmX2_queueFlour s m args below meth c H locs 0 0 (MQ below (PosV n0 D Y fin) args s 0 0 (AA n0)) (F0 m 0 ls []) := by
  unfold fX2_queueFlour at h
  refine lv_aload_n C.1 C.2.1 dX2_queueFlour_0 rfl (lv_at hl 0 rfl) ?_
  obtain ⟨g1, h⟩ := gdE h
  refine r_get (v := .int (zF z 133 x0)) C hw g1 (by decide) (Cn := RX2) (T := TX2) (N := 7) rfl in_X2_queueFlour_X2 5 (by decide) (by decide +kernel) (fun _ h => h) rfl dX2_queueFlour_1 ?_
  refine lv_sipush (v := (200 : Int32)) C.1 C.2.1 dX2_queueFlour_4 (by decide) ?_
  refine lv_icmp_ge (tgt := 30) C.1 C.2.1 dX2_queueFlour_7 (by decide) (fun c2 => ?_) (fun c2 => ?_)
  · replace h := brT h c2
    exact tX2_queueFlour_30 C h hF hw (lv_sub hl [0] rfl)
  · replace h := brF h c2
    refine lv_aload_n C.1 C.2.1 dX2_queueFlour_10 rfl (lv_at hl 0 rfl) ?_
    refine r_get (v := rv n0 (zG z 129 x0)) C hw g1 (by decide) (Cn := RX2) (T := TX2) (N := 7) rfl in_X2_queueFlour_X2 1 (by decide) (by decide +kernel) (fun _ h => h) rfl dX2_queueFlour_11 ?_
    obtain ⟨b4, e3, h⟩ := boE h
    refine r_topr e3 ?_
    refine lv_aload_n C.1 C.2.1 dX2_queueFlour_14 rfl (lv_at hl 0 rfl) ?_
    refine r_get (v := .int (zF z 133 x0)) C hw g1 (by decide) (Cn := RX2) (T := TX2) (N := 7) rfl in_X2_queueFlour_X2 5 (by decide) (by decide +kernel) (fun _ h => h) rfl dX2_queueFlour_15 ?_
    refine lv_aload_n C.1 C.2.1 dX2_queueFlour_18 rfl (lv_at hl 1 rfl) ?_
    obtain ⟨g5, h⟩ := gdE h
    obtain ⟨i6, h⟩ := gdE h
    obtain ⟨g7, h⟩ := gdE h
    obtain ⟨z8, e9, h⟩ := bdE h
    refine r_aast C hw (ki := 17) (kv := 5) (t0 := 5) (E := RX6) g5 (by decide) rfl g7 (by decide) rfl (asg_self C 5 rfl) i6 e9 dX2_queueFlour_19 (fun H locs hw => ?_)
    refine lv_aload_n C.1 C.2.1 dX2_queueFlour_20 rfl (lv_at hl 0 rfl) ?_
    refine lv_dup C.1 C.2.1 dX2_queueFlour_21 rfl ?_
    have g10 : x0 < zn z8 ∧ zK z8 x0 = 2 := by rw [e9]; exact g1
    refine r_get (v := .int (zF z8 133 x0)) C hw g10 (by decide) (Cn := RX2) (T := TX2) (N := 7) rfl in_X2_queueFlour_X2 5 (by decide) (by decide +kernel) (fun _ h => h) rfl dX2_queueFlour_22 ?_
    refine lv_iconst (v := (1 : Int32)) C.1 C.2.1 dX2_queueFlour_25 (by decide) ?_
    refine lv_iadd C.1 C.2.1 dX2_queueFlour_26 ?_
    obtain ⟨z11, e12, h⟩ := bdE h
    refine r_putI C hw g10 (by decide) (Cn := RX2) (T := TX2) (N := 7) rfl in_X2_queueFlour_X2 tyX2 tyX2_ok nmX2 5 (by decide) (by decide +kernel) (fun _ h => h) (Or.inl rfl) (ty := .int) (by decide +kernel) rfl rfl (Nat.le_of_ble_eq_true rfl) (st_2_5 n0 z8 x0 ((zF z8 133 x0) + (1 : Int32))) e12 dX2_queueFlour_27 (fun H locs hw => ?_)
    exact tX2_queueFlour_30 C h hF hw (lv_sub hl [0] rfl)
set_option maxRecDepth 100000 in
theorem kX2_queueFlour (l : Launch) (n0 : Nat) (D : va_G) (Y : Nat → ClassId) (N : Nat) (x0 : Nat) (x1 : Nat) (z : Hp) {z1 : Hp} (h : fX2_queueFlour N x0 x1 z = some z1) : Met l yX2_queueFlour wsX2_queueFlour rmX2_queueFlour (PreC n0 D Y z [.ref (n0 + x0), .ref (n0 + x1)]) (PosV n0 D Y z1) 0 0 (AA n0) := by
  refine Met.ofW (cc := cX2_queueFlour) (maxL := 2) (ret := none) (by decide) rfl ?_
  intro p e s m args below meth c s₁ B hml hv
  obtain ⟨rfl, hR, hK⟩ := hv
  have C : Cx n0 D Y RX2 cX2_queueFlour none 2 wsX2_queueFlour "queueFlour" p s m ([.ref (n0 + x0), .ref (n0 + x1)] : List Value).toArray meth c := ⟨B.exec, B.bytes, B.returns, hml, findClass_of_methodNamed B.named, atoms_spec (ws := wsX2_queueFlour) B.pre, B.notSynchronized, (name_of_methodNamed B.named B.method).1, hK⟩
  have hl := lv_entry ([.ref (n0 + x0), .ref (n0 + x1)]) (n := 2) (Nat.le_of_ble_eq_true rfl)
  rw [lg_entry_eq]
  generalize (lg_sl ([.ref (n0 + x0), .ref (n0 + x1)]) ++ List.replicate (2 - (lg_sl ([.ref (n0 + x0), .ref (n0 + x1)])).length) Slot.unset).toArray = ls at hl ⊢
  have hl : lv_has ls 2 [(0, .ref (n0 + x0)), (1, .ref (n0 + x1))] := hl
  exact tX2_queueFlour_0 C h rfl ⟨hR, va_S.rf⟩ hl
theorem in_X2_noteGift_X1 : ∀ w ∈ wsX10, w ∈ wsX2_noteGift := by decide +kernel
theorem in_X2_noteGift_X2 : ∀ w ∈ wsX20, w ∈ wsX2_noteGift := by decide +kernel
theorem in_X2_noteGift_X6 : ∀ w ∈ wsX60, w ∈ wsX2_noteGift := by decide +kernel
abbrev rmX2_noteGift : Room := { frames := 0, cells := 0, slots := 0, locals := 0 }
noncomputable def fX2_noteGift_53 (N : Nat) (x0 : Nat) (z : Hp) : Option (Hp) := some z
set_option maxHeartbeats 4000000 in
set_option maxRecDepth 100000 in
theorem tX2_noteGift_53 {n0 : Nat} {D : va_G} {Y : Nat → ClassId} {p : Program} {l : Launch} {e : Env} {s : State} {m : MethodId} {args : Array Value} {below : List Frame} {meth : Method} {c : Code} {N : Nat} {fin : Hp} {x0 : Nat}  {z : Hp} (C : Cx n0 D Y RX2 cX2_noteGift none 4 wsX2_noteGift "noteGift" p s m args meth c) {x : (Hp)} (h : fX2_noteGift_53 N x0  z = some x) (hF : (fun x => x = fin) x) {H : Heap} {locs : List Loc} {ls : Array Slot} (hw : Wd n0 D Y z s H locs) (hl : lv_has ls 4 [(0, .ref (n0 + x0))]) : W p l e rmX2_noteGift s m args below meth c H locs 0 0 (MQ below (PosV n0 D Y fin) args s 0 0 (AA n0)) (F0 m 53 ls []) := by
  unfold fX2_noteGift_53 at h
  cases h
  replace hF : _ = fin := hF
  subst hF
  exact r_vret C hw dX2_noteGift_53
noncomputable def fX2_noteGift (N : Nat) (x0 : Nat) (x1 : Nat) (x2 : Nat) (x3 : Int32) (z : Hp) : Option (Hp) := gd (x0 < zn z ∧ zK z x0 = 2) <| br ((200 : Int32) ≤ (zF z 134 x0)) (fX2_noteGift_53 N x0 z) (bo (zG z 130 x0) fun b4 => gd (x2 < zn z ∧ zK z x2 = 5) <| gd (b4 < zn z ∧ zK z b4 = 12) <| gd (¬ ((zF z 134 x0) < 0 ∨ zL z b4 ≤ Int32.toNatClampNeg (zF z 134 x0))) <| bd (zsA z b4 (Int32.toNatClampNeg (zF z 134 x0)) (zF z 769 x2)) fun z8 => bo (zG z8 131 x0) fun b12 => gd (b12 < zn z8 ∧ zK z8 b12 = 12) <| gd (¬ ((zF z8 134 x0) < 0 ∨ zL z8 b12 ≤ Int32.toNatClampNeg (zF z8 134 x0))) <| bd (zsA z8 b12 (Int32.toNatClampNeg (zF z8 134 x0)) x3) fun z15 => bd (zsF z15 134 x0 ((zF z15 134 x0) + (1 : Int32))) fun z18 => gd (x1 < zn z18 ∧ zK z18 x1 = 1) <| bd (zsF z18 72 x1 ((zF z18 72 x1) + (1 : Int32))) fun z21 => fX2_noteGift_53 N x0 z21)
set_option maxHeartbeats 4000000 in
set_option maxRecDepth 100000 in
theorem tX2_noteGift_0 {n0 : Nat} {D : va_G} {Y : Nat → ClassId} {p : Program} {l : Launch} {e : Env} {s : State} {m : MethodId} {args : Array Value} {below : List Frame} {meth : Method} {c : Code} {N : Nat} {fin : Hp} {x0 : Nat} {x1 : Nat} {x2 : Nat} {x3 : Int32}  {z : Hp} (C : Cx n0 D Y RX2 cX2_noteGift none 4 wsX2_noteGift "noteGift" p s m args meth c) {x : (Hp)} (h : fX2_noteGift N x0 x1 x2 x3  z = some x) (hF : (fun x => x = fin) x) {H : Heap} {locs : List Loc} {ls : Array Slot} (hw : Wd n0 D Y z s H locs) (hl : lv_has ls 4 [(0, .ref (n0 + x0)), (1, .ref (n0 + x1)), (2, .ref (n0 + x2)), (3, .int x3)]) : W p l e rmX2_noteGift s m args below meth c H locs 0 0 (MQ below (PosV n0 D Y fin) args s 0 0 (AA n0)) (F0 m 0 ls []) := by
  unfold fX2_noteGift at h
  refine lv_aload_n C.1 C.2.1 dX2_noteGift_0 rfl (lv_at hl 0 rfl) ?_
  obtain ⟨g1, h⟩ := gdE h
  refine r_get (v := .int (zF z 134 x0)) C hw g1 (by decide) (Cn := RX2) (T := TX2) (N := 7) rfl in_X2_noteGift_X2 6 (by decide) (by decide +kernel) (fun _ h => h) rfl dX2_noteGift_1 ?_
  refine lv_sipush (v := (200 : Int32)) C.1 C.2.1 dX2_noteGift_4 (by decide) ?_
  refine lv_icmp_ge (tgt := 53) C.1 C.2.1 dX2_noteGift_7 (by decide) (fun c2 => ?_) (fun c2 => ?_)
  · replace h := brT h c2
    exact tX2_noteGift_53 C h hF hw (lv_sub hl [0] rfl)
  · replace h := brF h c2
    refine lv_aload_n C.1 C.2.1 dX2_noteGift_10 rfl (lv_at hl 0 rfl) ?_
    refine r_get (v := rv n0 (zG z 130 x0)) C hw g1 (by decide) (Cn := RX2) (T := TX2) (N := 7) rfl in_X2_noteGift_X2 2 (by decide) (by decide +kernel) (fun _ h => h) rfl dX2_noteGift_11 ?_
    obtain ⟨b4, e3, h⟩ := boE h
    refine r_topr e3 ?_
    refine lv_aload_n C.1 C.2.1 dX2_noteGift_14 rfl (lv_at hl 0 rfl) ?_
    refine r_get (v := .int (zF z 134 x0)) C hw g1 (by decide) (Cn := RX2) (T := TX2) (N := 7) rfl in_X2_noteGift_X2 6 (by decide) (by decide +kernel) (fun _ h => h) rfl dX2_noteGift_15 ?_
    refine lv_aload_n C.1 C.2.1 dX2_noteGift_18 rfl (lv_at hl 2 rfl) ?_
    obtain ⟨g5, h⟩ := gdE h
    refine r_get (v := .int (zF z 769 x2)) C hw g5 (by decide) (Cn := RX6) (T := TX6) (N := 8) rfl in_X2_noteGift_X6 1 (by decide) (by decide +kernel) (u_same (C.2.2.2.2.2.1 (.sameField "BreadLaw$Lot" "BreadLaw$Entry" "number" "I") (by decide +kernel))) rfl dX2_noteGift_19 ?_
    obtain ⟨g6, h⟩ := gdE h
    obtain ⟨i7, h⟩ := gdE h
    obtain ⟨z8, e9, h⟩ := bdE h
    refine r_iast C hw g6 i7 e9 dX2_noteGift_22 (fun H locs hw => ?_)
    refine lv_aload_n C.1 C.2.1 dX2_noteGift_23 rfl (lv_at hl 0 rfl) ?_
    have g10 : x0 < zn z8 ∧ zK z8 x0 = 2 := by rw [e9]; exact g1
    refine r_get (v := rv n0 (zG z8 131 x0)) C hw g10 (by decide) (Cn := RX2) (T := TX2) (N := 7) rfl in_X2_noteGift_X2 3 (by decide) (by decide +kernel) (fun _ h => h) rfl dX2_noteGift_24 ?_
    obtain ⟨b12, e11, h⟩ := boE h
    refine r_topr e11 ?_
    refine lv_aload_n C.1 C.2.1 dX2_noteGift_27 rfl (lv_at hl 0 rfl) ?_
    refine r_get (v := .int (zF z8 134 x0)) C hw g10 (by decide) (Cn := RX2) (T := TX2) (N := 7) rfl in_X2_noteGift_X2 6 (by decide) (by decide +kernel) (fun _ h => h) rfl dX2_noteGift_28 ?_
    refine lv_iload_n C.1 C.2.1 dX2_noteGift_31 rfl (lv_at hl 3 rfl) ?_
    obtain ⟨g13, h⟩ := gdE h
    obtain ⟨i14, h⟩ := gdE h
    obtain ⟨z15, e16, h⟩ := bdE h
    refine r_iast C hw g13 i14 e16 dX2_noteGift_32 (fun H locs hw => ?_)
    refine lv_aload_n C.1 C.2.1 dX2_noteGift_33 rfl (lv_at hl 0 rfl) ?_
    refine lv_dup C.1 C.2.1 dX2_noteGift_34 rfl ?_
    have g17 : x0 < zn z15 ∧ zK z15 x0 = 2 := by rw [e16]; exact g10
    refine r_get (v := .int (zF z15 134 x0)) C hw g17 (by decide) (Cn := RX2) (T := TX2) (N := 7) rfl in_X2_noteGift_X2 6 (by decide) (by decide +kernel) (fun _ h => h) rfl dX2_noteGift_35 ?_
    refine lv_iconst (v := (1 : Int32)) C.1 C.2.1 dX2_noteGift_38 (by decide) ?_
    refine lv_iadd C.1 C.2.1 dX2_noteGift_39 ?_
    obtain ⟨z18, e19, h⟩ := bdE h
    refine r_putI C hw g17 (by decide) (Cn := RX2) (T := TX2) (N := 7) rfl in_X2_noteGift_X2 tyX2 tyX2_ok nmX2 6 (by decide) (by decide +kernel) (fun _ h => h) (Or.inl rfl) (ty := .int) (by decide +kernel) rfl rfl (Nat.le_of_ble_eq_true rfl) (st_2_6 n0 z15 x0 ((zF z15 134 x0) + (1 : Int32))) e19 dX2_noteGift_40 (fun H locs hw => ?_)
    refine lv_aload_n C.1 C.2.1 dX2_noteGift_43 rfl (lv_at hl 1 rfl) ?_
    refine lv_dup C.1 C.2.1 dX2_noteGift_44 rfl ?_
    obtain ⟨g20, h⟩ := gdE h
    refine r_get (v := .int (zF z18 72 x1)) C hw g20 (by decide) (Cn := RX1) (T := TX1) (N := 9) rfl in_X2_noteGift_X1 8 (by decide) (by decide +kernel) (fun _ h => h) rfl dX2_noteGift_45 ?_
    refine lv_iconst (v := (1 : Int32)) C.1 C.2.1 dX2_noteGift_48 (by decide) ?_
    refine lv_iadd C.1 C.2.1 dX2_noteGift_49 ?_
    obtain ⟨z21, e22, h⟩ := bdE h
    refine r_putI C hw g20 (by decide) (Cn := RX1) (T := TX1) (N := 9) rfl in_X2_noteGift_X1 tyX1 tyX1_ok nmX1 8 (by decide) (by decide +kernel) (fun _ h => h) (Or.inl rfl) (ty := .int) (by decide +kernel) rfl rfl (Nat.le_of_ble_eq_true rfl) (st_1_8 n0 z18 x1 ((zF z18 72 x1) + (1 : Int32))) e22 dX2_noteGift_50 (fun H locs hw => ?_)
    exact tX2_noteGift_53 C h hF hw (lv_sub hl [0] rfl)
set_option maxRecDepth 100000 in
theorem kX2_noteGift (l : Launch) (n0 : Nat) (D : va_G) (Y : Nat → ClassId) (N : Nat) (x0 : Nat) (x1 : Nat) (x2 : Nat) (x3 : Int32) (z : Hp) {z1 : Hp} (h : fX2_noteGift N x0 x1 x2 x3 z = some z1) : Met l yX2_noteGift wsX2_noteGift rmX2_noteGift (PreC n0 D Y z [.ref (n0 + x0), .ref (n0 + x1), .ref (n0 + x2), .int x3]) (PosV n0 D Y z1) 0 0 (AA n0) := by
  refine Met.ofW (cc := cX2_noteGift) (maxL := 4) (ret := none) (by decide) rfl ?_
  intro p e s m args below meth c s₁ B hml hv
  obtain ⟨rfl, hR, hK⟩ := hv
  have C : Cx n0 D Y RX2 cX2_noteGift none 4 wsX2_noteGift "noteGift" p s m ([.ref (n0 + x0), .ref (n0 + x1), .ref (n0 + x2), .int x3] : List Value).toArray meth c := ⟨B.exec, B.bytes, B.returns, hml, findClass_of_methodNamed B.named, atoms_spec (ws := wsX2_noteGift) B.pre, B.notSynchronized, (name_of_methodNamed B.named B.method).1, hK⟩
  have hl := lv_entry ([.ref (n0 + x0), .ref (n0 + x1), .ref (n0 + x2), .int x3]) (n := 4) (Nat.le_of_ble_eq_true rfl)
  rw [lg_entry_eq]
  generalize (lg_sl ([.ref (n0 + x0), .ref (n0 + x1), .ref (n0 + x2), .int x3]) ++ List.replicate (4 - (lg_sl ([.ref (n0 + x0), .ref (n0 + x1), .ref (n0 + x2), .int x3])).length) Slot.unset).toArray = ls at hl ⊢
  have hl : lv_has ls 4 [(0, .ref (n0 + x0)), (1, .ref (n0 + x1)), (2, .ref (n0 + x2)), (3, .int x3)] := hl
  exact tX2_noteGift_0 C h rfl ⟨hR, va_S.rf⟩ hl
theorem in_X2_takeFlour_X1 : ∀ w ∈ wsX10, w ∈ wsX2_takeFlour := by decide +kernel
theorem in_X2_takeFlour_X2 : ∀ w ∈ wsX20, w ∈ wsX2_takeFlour := by decide +kernel
theorem in_X2_takeFlour_X6 : ∀ w ∈ wsX60, w ∈ wsX2_takeFlour := by decide +kernel
abbrev rmX2_takeFlour : Room := { frames := 1, cells := 0, slots := 0, locals := 24 }
noncomputable def fX2_takeFlour_102 (N : Nat) (x0 : Nat) (x1 : Nat) (x2 : Int32) (x3 : Int32) (z : Hp) : Option ((Int32 × Int32 × Hp) ⊕ (Hp)) := bd (x3 + (1 : Int32)) fun v1 => some (.inl (x2, v1, z))
set_option maxHeartbeats 4000000 in
set_option maxRecDepth 100000 in
theorem tX2_takeFlour_102 {n0 : Nat} {D : va_G} {Y : Nat → ClassId} {p : Program} {l : Launch} {e : Env} {s : State} {m : MethodId} {args : Array Value} {below : List Frame} {meth : Method} {c : Code} {N : Nat} {fin : Hp} {x0 : Nat} {x1 : Nat} {x2 : Int32} {x3 : Int32}  {z : Hp} (C : Cx n0 D Y RX2 cX2_takeFlour none 6 wsX2_takeFlour "takeFlour" p s m args meth c) {P20 : Int32 × Int32 × Hp → Prop} (hP20 : ∀ u, P20 u → ∀ (H : Heap) (locs : List Loc) (ls : Array Slot), Wd n0 D Y (u.2.2) s H locs → lv_has ls 6 [(0, .ref (n0 + x0)), (1, .ref (n0 + x1)), (2, .int u.1), (3, .int u.2.1)] → W p l e rmX2_takeFlour s m args below meth c H locs 0 0 (MQ below (PosV n0 D Y fin) args s 0 0 (AA n0)) (F0 m 20 ls [])) {x : ((Int32 × Int32 × Hp) ⊕ (Hp))} (h : fX2_takeFlour_102 N x0 x1 x2 x3  z = some x) (hF : (Fn P20 (fun x => x = fin)) x) {H : Heap} {locs : List Loc} {ls : Array Slot} (hw : Wd n0 D Y z s H locs) (hl : lv_has ls 6 [(0, .ref (n0 + x0)), (1, .ref (n0 + x1)), (2, .int x2), (3, .int x3)]) : W p l e rmX2_takeFlour s m args below meth c H locs 0 0 (MQ below (PosV n0 D Y fin) args s 0 0 (AA n0)) (F0 m 102 ls []) := by
  unfold fX2_takeFlour_102 at h
  obtain ⟨v1, e2, h⟩ := bdE h
  refine lv_iinc (v := v1) (lv' := [(3, .int v1), (0, .ref (n0 + x0)), (1, .ref (n0 + x1)), (2, .int x2)]) C.1 C.2.1 dX2_takeFlour_102 hl (k := 3) rfl (by rw [e2]; rfl) (by decide) rfl (fun ls hl => ?_)
  refine lv_goto (tgt := 20) C.1 C.2.1 dX2_takeFlour_105 (by decide) ?_
  cases h
  exact hP20 _ hF _ _ _ hw (lv_sub hl [1, 2, 3, 0] rfl)
noncomputable def fX2_takeFlour_108 (N : Nat) (x0 : Nat) (z : Hp) : Option (Hp) := some z
set_option maxHeartbeats 4000000 in
set_option maxRecDepth 100000 in
theorem tX2_takeFlour_108 {n0 : Nat} {D : va_G} {Y : Nat → ClassId} {p : Program} {l : Launch} {e : Env} {s : State} {m : MethodId} {args : Array Value} {below : List Frame} {meth : Method} {c : Code} {N : Nat} {fin : Hp} {x0 : Nat}  {z : Hp} (C : Cx n0 D Y RX2 cX2_takeFlour none 6 wsX2_takeFlour "takeFlour" p s m args meth c) {x : (Hp)} (h : fX2_takeFlour_108 N x0  z = some x) (hF : (fun x => x = fin) x) {H : Heap} {locs : List Loc} {ls : Array Slot} (hw : Wd n0 D Y z s H locs) (hl : lv_has ls 6 [(0, .ref (n0 + x0))]) : W p l e rmX2_takeFlour s m args below meth c H locs 0 0 (MQ below (PosV n0 D Y fin) args s 0 0 (AA n0)) (F0 m 108 ls []) := by
  unfold fX2_takeFlour_108 at h
  cases h
  replace hF : _ = fin := hF
  subst hF
  exact r_vret C hw dX2_takeFlour_108
noncomputable def fX2_takeFlour_20 (N : Nat) (x0 : Nat) (x1 : Nat) (x2 : Int32) (x3 : Int32) (z : Hp) : Option ((Int32 × Int32 × Hp) ⊕ (Hp)) := gd (x0 < zn z ∧ zK z x0 = 2) <| br ((zF z 133 x0) ≤ x3) (lf <| fX2_takeFlour_108 N x0 z) (br (x2 ≤ 0) (lf <| fX2_takeFlour_108 N x0 z) (bo (zG z 129 x0) fun b7 => gd (b7 < zn z ∧ zK z b7 = 17) <| gd (¬ (x3 < 0 ∨ zL z b7 ≤ (x3).toNatClampNeg)) <| bd (zR z b7 (x3).toNatClampNeg) fun q10 => cs q10 (fX2_takeFlour_102 N x0 x1 x2 x3 z) (fun b12 => gd (b12 < zn z ∧ zK z b12 = 5) <| gd (x1 < zn z ∧ zK z x1 = 1) <| br ((zF z 771 b12) = (zF z 771 x1)) (br ((zF z 327 b12) ≤ 0) (fX2_takeFlour_102 N x0 x1 x2 x3 z) (bd (if (zF z 327 b12) < x2 then (zF z 327 b12) else x2) fun v18 => bd (zsF z 327 b12 ((zF z 327 b12) - v18)) fun z20 => bd (x2 - v18) fun v22 => bo (fX2_noteGift N x0 x1 b12 v18 z20) fun z25 => fX2_takeFlour_102 N x0 x1 v22 x3 z25)) (fX2_takeFlour_102 N x0 x1 x2 x3 z))))
set_option maxHeartbeats 4000000 in
set_option maxRecDepth 100000 in
theorem tX2_takeFlour_20 {n0 : Nat} {D : va_G} {Y : Nat → ClassId} {p : Program} {l : Launch} {e : Env} {s : State} {m : MethodId} {args : Array Value} {below : List Frame} {meth : Method} {c : Code} {N : Nat} {fin : Hp} {x0 : Nat} {x1 : Nat} {x2 : Int32} {x3 : Int32}  {z : Hp} (C : Cx n0 D Y RX2 cX2_takeFlour none 6 wsX2_takeFlour "takeFlour" p s m args meth c) {P20 : Int32 × Int32 × Hp → Prop} (hP20 : ∀ u, P20 u → ∀ (H : Heap) (locs : List Loc) (ls : Array Slot), Wd n0 D Y (u.2.2) s H locs → lv_has ls 6 [(0, .ref (n0 + x0)), (1, .ref (n0 + x1)), (2, .int u.1), (3, .int u.2.1)] → W p l e rmX2_takeFlour s m args below meth c H locs 0 0 (MQ below (PosV n0 D Y fin) args s 0 0 (AA n0)) (F0 m 20 ls [])) {x : ((Int32 × Int32 × Hp) ⊕ (Hp))} (h : fX2_takeFlour_20 N x0 x1 x2 x3  z = some x) (hF : (Fn P20 (fun x => x = fin)) x) {H : Heap} {locs : List Loc} {ls : Array Slot} (hw : Wd n0 D Y z s H locs) (hl : lv_has ls 6 [(0, .ref (n0 + x0)), (1, .ref (n0 + x1)), (2, .int x2), (3, .int x3)]) : W p l e rmX2_takeFlour s m args below meth c H locs 0 0 (MQ below (PosV n0 D Y fin) args s 0 0 (AA n0)) (F0 m 20 ls []) := by
  unfold fX2_takeFlour_20 at h
  refine lv_iload_n C.1 C.2.1 dX2_takeFlour_20 rfl (lv_at hl 3 rfl) ?_
  refine lv_aload_n C.1 C.2.1 dX2_takeFlour_21 rfl (lv_at hl 0 rfl) ?_
  obtain ⟨g1, h⟩ := gdE h
  refine r_get (v := .int (zF z 133 x0)) C hw g1 (by decide) (Cn := RX2) (T := TX2) (N := 7) rfl in_X2_takeFlour_X2 5 (by decide) (by decide +kernel) (fun _ h => h) rfl dX2_takeFlour_22 ?_
  refine lv_icmp_ge (tgt := 108) C.1 C.2.1 dX2_takeFlour_25 (by decide) (fun c2 => ?_) (fun c2 => ?_)
  · replace h := brT h c2
    obtain ⟨y3, h, hF⟩ := lfX h hF
    exact tX2_takeFlour_108 C h hF hw (lv_sub hl [0] rfl)
  · replace h := brF h c2
    refine lv_iload_n C.1 C.2.1 dX2_takeFlour_28 rfl (lv_at hl 2 rfl) ?_
    refine lv_if_le (tgt := 108) C.1 C.2.1 dX2_takeFlour_29 (by decide) (fun c4 => ?_) (fun c4 => ?_)
    · replace h := brT h c4
      obtain ⟨y5, h, hF⟩ := lfX h hF
      exact tX2_takeFlour_108 C h hF hw (lv_sub hl [0] rfl)
    · replace h := brF h c4
      refine lv_aload_n C.1 C.2.1 dX2_takeFlour_32 rfl (lv_at hl 0 rfl) ?_
      refine r_get (v := rv n0 (zG z 129 x0)) C hw g1 (by decide) (Cn := RX2) (T := TX2) (N := 7) rfl in_X2_takeFlour_X2 1 (by decide) (by decide +kernel) (fun _ h => h) rfl dX2_takeFlour_33 ?_
      obtain ⟨b7, e6, h⟩ := boE h
      refine r_topr e6 ?_
      refine lv_iload_n C.1 C.2.1 dX2_takeFlour_36 rfl (lv_at hl 3 rfl) ?_
      obtain ⟨g8, h⟩ := gdE h
      obtain ⟨i9, h⟩ := gdE h
      refine r_aald C hw (ki := 17) (t0 := 5) (E := RX6) g8 (by decide) rfl i9 dX2_takeFlour_37 ?_
      obtain ⟨q10, e11, h⟩ := bdE h
      refine r_topq e11 ?_
      refine r_astore (i := 4) (r := q10) (lv' := [(4, rv n0 q10), (0, .ref (n0 + x0)), (1, .ref (n0 + x1)), (2, .int x2), (3, .int x3)]) C dX2_takeFlour_38 hl (by decide) rfl (fun ls hl => ?_)
      refine r_aload (r := q10) C dX2_takeFlour_40 (lv_at hl 0 rfl) ?_
      refine r_ifnull (tgt := 102) C dX2_takeFlour_42 (by decide) (fun c13 => ?_) (fun b12 c13 => ?_)
      · subst c13
        replace h := csN h
        exact tX2_takeFlour_102 C hP20 h hF hw (lv_sub hl [1, 2, 3, 4] rfl)
      · subst c13
        replace h := csS h
        refine lv_aload C.1 C.2.1 dX2_takeFlour_45 (lv_at hl 0 rfl) ?_
        obtain ⟨g14, h⟩ := gdE h
        refine r_get (v := .int (zF z 771 b12)) C hw g14 (by decide) (Cn := RX6) (T := TX6) (N := 8) rfl in_X2_takeFlour_X6 3 (by decide) (by decide +kernel) (u_same (C.2.2.2.2.2.1 (.sameField "BreadLaw$Lot" "BreadLaw$Entry" "baker" "I") (by decide +kernel))) rfl dX2_takeFlour_47 ?_
        refine lv_aload_n C.1 C.2.1 dX2_takeFlour_50 rfl (lv_at hl 2 rfl) ?_
        obtain ⟨g15, h⟩ := gdE h
        refine r_get (v := .int (zF z 771 x1)) C hw g15 (by decide) (Cn := RX1) (T := TX1) (N := 9) rfl in_X2_takeFlour_X1 3 (by decide) (by decide +kernel) (u_same (C.2.2.2.2.2.1 (.sameField "BreadLaw$Batch" "BreadLaw$Entry" "baker" "I") (by decide +kernel))) rfl dX2_takeFlour_51 ?_
        refine lv_icmp_ne (tgt := 102) C.1 C.2.1 dX2_takeFlour_54 (by decide) (fun c16 => ?_) (fun c16 => ?_)
        · replace h := brF h c16
          exact tX2_takeFlour_102 C hP20 h hF hw (lv_sub hl [1, 2, 3, 4] rfl)
        · replace h := brT h c16
          refine lv_aload C.1 C.2.1 dX2_takeFlour_57 (lv_at hl 0 rfl) ?_
          refine r_get (v := .int (zF z 327 b12)) C hw g14 (by decide) (Cn := RX6) (T := TX6) (N := 8) rfl in_X2_takeFlour_X6 7 (by decide) (by decide +kernel) (fun _ h => h) rfl dX2_takeFlour_59 ?_
          refine lv_if_le (tgt := 102) C.1 C.2.1 dX2_takeFlour_62 (by decide) (fun c17 => ?_) (fun c17 => ?_)
          · replace h := brT h c17
            exact tX2_takeFlour_102 C hP20 h hF hw (lv_sub hl [1, 2, 3, 4] rfl)
          · replace h := brF h c17
            refine lv_iload_n C.1 C.2.1 dX2_takeFlour_65 rfl (lv_at hl 3 rfl) ?_
            refine lv_aload C.1 C.2.1 dX2_takeFlour_66 (lv_at hl 0 rfl) ?_
            refine r_get (v := .int (zF z 327 b12)) C hw g14 (by decide) (Cn := RX6) (T := TX6) (N := 8) rfl in_X2_takeFlour_X6 7 (by decide) (by decide +kernel) (fun _ h => h) rfl dX2_takeFlour_68 ?_
            refine va_mmin C.1 C.2.1 (C.2.2.2.1.trans hl.1.symm) C.2.2.2.2.1 (C.2.2.2.2.2.1 (.methodLink RX2 62 Lib.Math.min.name) (by decide +kernel)) (C.2.2.2.2.2.1 (.static Lib.Math.min.name) (by decide +kernel)) (C.2.2.2.2.2.1 (.initialized "java/lang/Math") (by decide +kernel)) (C.2.2.2.2.2.1 _ (List.mem_of_getElem? (i := 15) rfl)) (Nat.le_of_ble_eq_true rfl) (Nat.le_of_ble_eq_true rfl) (Nat.le_of_ble_eq_true rfl) (Nat.le_of_ble_eq_true rfl) dX2_takeFlour_71 ?_
            obtain ⟨v18, e19, h⟩ := bdE h
            refine r_topi e19 ?_
            refine lv_istore (i := 5) (lv' := [(5, .int v18), (4, .ref (n0 + b12)), (0, .ref (n0 + x0)), (1, .ref (n0 + x1)), (2, .int x2), (3, .int x3)]) C.1 C.2.1 dX2_takeFlour_74 hl (by decide) rfl (fun ls hl => ?_)
            refine lv_aload C.1 C.2.1 dX2_takeFlour_76 (lv_at hl 1 rfl) ?_
            refine lv_dup C.1 C.2.1 dX2_takeFlour_78 rfl ?_
            refine r_get (v := .int (zF z 327 b12)) C hw g14 (by decide) (Cn := RX6) (T := TX6) (N := 8) rfl in_X2_takeFlour_X6 7 (by decide) (by decide +kernel) (fun _ h => h) rfl dX2_takeFlour_79 ?_
            refine lv_iload C.1 C.2.1 dX2_takeFlour_82 (lv_at hl 0 rfl) ?_
            refine lv_isub C.1 C.2.1 dX2_takeFlour_84 ?_
            obtain ⟨z20, e21, h⟩ := bdE h
            refine r_putI C hw g14 (by decide) (Cn := RX6) (T := TX6) (N := 8) rfl in_X2_takeFlour_X6 tyX6 tyX6_ok nmX6 7 (by decide) (by decide +kernel) (fun _ h => h) (Or.inl rfl) (ty := .int) (by decide +kernel) rfl rfl (Nat.le_of_ble_eq_true rfl) (st_5_7 n0 z b12 ((zF z 327 b12) - v18)) e21 dX2_takeFlour_85 (fun H locs hw => ?_)
            refine lv_iload_n C.1 C.2.1 dX2_takeFlour_88 rfl (lv_at hl 4 rfl) ?_
            refine lv_iload C.1 C.2.1 dX2_takeFlour_89 (lv_at hl 0 rfl) ?_
            refine lv_isub C.1 C.2.1 dX2_takeFlour_91 ?_
            obtain ⟨v22, e23, h⟩ := bdE h
            refine r_topi e23 ?_
            refine lv_istore_n (i := 2) (lv' := [(2, .int v22), (5, .int v18), (4, .ref (n0 + b12)), (0, .ref (n0 + x0)), (1, .ref (n0 + x1)), (3, .int x3)]) C.1 C.2.1 dX2_takeFlour_92 rfl hl (by decide) rfl (fun ls hl => ?_)
            refine lv_aload_n C.1 C.2.1 dX2_takeFlour_93 rfl (lv_at hl 3 rfl) ?_
            refine lv_aload_n C.1 C.2.1 dX2_takeFlour_94 rfl (lv_at hl 4 rfl) ?_
            refine lv_aload C.1 C.2.1 dX2_takeFlour_95 (lv_at hl 2 rfl) ?_
            refine lv_iload C.1 C.2.1 dX2_takeFlour_97 (lv_at hl 1 rfl) ?_
            obtain ⟨z25, e24, h⟩ := boE h
            have g26 : x0 < zn z20 ∧ zK z20 x0 = 2 := by rw [e21]; exact g1
            refine r_aftv hw (r_runV (As := [.ref (n0 + x1), .ref (n0 + b12), .int v18]) (rest := []) C hw (ki := 2) g26 (by decide) rfl (kX2_noteGift l n0 D Y N x0 x1 b12 v18 z20 e24) (cwV 3 C.2.2.2.2.2.1 gX2_takeFlour_X2_noteGift rfl rfl rfl (by decide +kernel) ⟨(Nat.le_of_ble_eq_true rfl), (Nat.le_of_ble_eq_true rfl)⟩) rfl hl.1 rfl (Nat.le_of_ble_eq_true rfl) dX2_takeFlour_99 ⟨(Nat.le_of_ble_eq_true rfl), (Nat.le_of_ble_eq_true rfl)⟩) (fun H locs hw => ?_)
            exact tX2_takeFlour_102 C hP20 h hF hw (lv_sub hl [3, 4, 0, 5] rfl)
set_option maxHeartbeats 4000000 in
set_option maxRecDepth 100000 in
theorem lX2_takeFlour_20 {n0 : Nat} {D : va_G} {Y : Nat → ClassId} {p : Program} {l : Launch} {e : Env} {s : State} {m : MethodId} {args : Array Value} {below : List Frame} {meth : Method} {c : Code} {N : Nat} {fin : Hp} {x0 : Nat} {x1 : Nat} (C : Cx n0 D Y RX2 cX2_takeFlour none 6 wsX2_takeFlour "takeFlour" p s m args meth c) {x : (Hp)} : ∀ (n : Nat) (u : Int32 × Int32 × Hp), wh (fun (u : Int32 × Int32 × Hp) => fX2_takeFlour_20 N x0 x1 u.1 u.2.1 u.2.2) n u = some x → (fun x => x = fin) x → ∀ (H : Heap) (locs : List Loc) (ls : Array Slot), Wd n0 D Y (u.2.2) s H locs → lv_has ls 6 [(0, .ref (n0 + x0)), (1, .ref (n0 + x1)), (2, .int u.1), (3, .int u.2.1)] → W p l e rmX2_takeFlour s m args below meth c H locs 0 0 (MQ below (PosV n0 D Y fin) args s 0 0 (AA n0)) (F0 m 20 ls []) := fun n u h g => wh_ind (P := fun u => ∀ (H : Heap) (locs : List Loc) (ls : Array Slot), Wd n0 D Y (u.2.2) s H locs → lv_has ls 6 [(0, .ref (n0 + x0)), (1, .ref (n0 + x1)), (2, .int u.1), (3, .int u.2.1)] → W p l e rmX2_takeFlour s m args below meth c H locs 0 0 (MQ below (PosV n0 D Y fin) args s 0 0 (AA n0)) (F0 m 20 ls [])) (G := (fun x => x = fin)) (fun u x h hF H locs ls hw hl => tX2_takeFlour_20 C (P20 := fun u => ∀ (H : Heap) (locs : List Loc) (ls : Array Slot), Wd n0 D Y (u.2.2) s H locs → lv_has ls 6 [(0, .ref (n0 + x0)), (1, .ref (n0 + x1)), (2, .int u.1), (3, .int u.2.1)] → W p l e rmX2_takeFlour s m args below meth c H locs 0 0 (MQ below (PosV n0 D Y fin) args s 0 0 (AA n0)) (F0 m 20 ls [])) (fun _ h => h) h hF hw hl) n u x h g
noncomputable def fX2_takeFlour (N : Nat) (x0 : Nat) (x1 : Nat) (z : Hp) : Option (Hp) := gd (x1 < zn z ∧ zK z x1 = 1) <| bd ((zF z 69 x1) * (zF z 70 x1)) fun v2 => gd (x0 < zn z ∧ zK z x0 = 2) <| bd (zsF z 71 x1 (zF z 134 x0)) fun z5 => wh (fun (u : Int32 × Int32 × Hp) => fX2_takeFlour_20 N x0 x1 u.1 u.2.1 u.2.2) N (v2, (0 : Int32), z5)
set_option maxHeartbeats 4000000 in
set_option maxRecDepth 100000 in
theorem tX2_takeFlour_0 {n0 : Nat} {D : va_G} {Y : Nat → ClassId} {p : Program} {l : Launch} {e : Env} {s : State} {m : MethodId} {args : Array Value} {below : List Frame} {meth : Method} {c : Code} {N : Nat} {fin : Hp} {x0 : Nat} {x1 : Nat}  {z : Hp} (C : Cx n0 D Y RX2 cX2_takeFlour none 6 wsX2_takeFlour "takeFlour" p s m args meth c) {x : (Hp)} (h : fX2_takeFlour N x0 x1  z = some x) (hF : (fun x => x = fin) x) {H : Heap} {locs : List Loc} {ls : Array Slot} (hw : Wd n0 D Y z s H locs) (hl : lv_has ls 6 [(0, .ref (n0 + x0)), (1, .ref (n0 + x1))]) : W p l e rmX2_takeFlour s m args below meth c H locs 0 0 (MQ below (PosV n0 D Y fin) args s 0 0 (AA n0)) (F0 m 0 ls []) := by
  unfold fX2_takeFlour at h
  refine lv_aload_n C.1 C.2.1 dX2_takeFlour_0 rfl (lv_at hl 1 rfl) ?_
  obtain ⟨g1, h⟩ := gdE h
  refine r_get (v := .int (zF z 69 x1)) C hw g1 (by decide) (Cn := RX1) (T := TX1) (N := 9) rfl in_X2_takeFlour_X1 5 (by decide) (by decide +kernel) (fun _ h => h) rfl dX2_takeFlour_1 ?_
  refine lv_aload_n C.1 C.2.1 dX2_takeFlour_4 rfl (lv_at hl 1 rfl) ?_
  refine r_get (v := .int (zF z 70 x1)) C hw g1 (by decide) (Cn := RX1) (T := TX1) (N := 9) rfl in_X2_takeFlour_X1 6 (by decide) (by decide +kernel) (fun _ h => h) rfl dX2_takeFlour_5 ?_
  refine lv_imul C.1 C.2.1 dX2_takeFlour_8 ?_
  obtain ⟨v2, e3, h⟩ := bdE h
  refine r_topi e3 ?_
  refine lv_istore_n (i := 2) (lv' := [(2, .int v2), (0, .ref (n0 + x0)), (1, .ref (n0 + x1))]) C.1 C.2.1 dX2_takeFlour_9 rfl hl (by decide) rfl (fun ls hl => ?_)
  refine lv_aload_n C.1 C.2.1 dX2_takeFlour_10 rfl (lv_at hl 2 rfl) ?_
  refine lv_aload_n C.1 C.2.1 dX2_takeFlour_11 rfl (lv_at hl 1 rfl) ?_
  obtain ⟨g4, h⟩ := gdE h
  refine r_get (v := .int (zF z 134 x0)) C hw g4 (by decide) (Cn := RX2) (T := TX2) (N := 7) rfl in_X2_takeFlour_X2 6 (by decide) (by decide +kernel) (fun _ h => h) rfl dX2_takeFlour_12 ?_
  obtain ⟨z5, e6, h⟩ := bdE h
  refine r_putI C hw g1 (by decide) (Cn := RX1) (T := TX1) (N := 9) rfl in_X2_takeFlour_X1 tyX1 tyX1_ok nmX1 7 (by decide) (by decide +kernel) (fun _ h => h) (Or.inl rfl) (ty := .int) (by decide +kernel) rfl rfl (Nat.le_of_ble_eq_true rfl) (st_1_7 n0 z x1 (zF z 134 x0)) e6 dX2_takeFlour_15 (fun H locs hw => ?_)
  refine lv_iconst (v := (0 : Int32)) C.1 C.2.1 dX2_takeFlour_18 (by decide) ?_
  refine lv_istore_n (i := 3) (lv' := [(3, .int (0 : Int32)), (2, .int v2), (0, .ref (n0 + x0)), (1, .ref (n0 + x1))]) C.1 C.2.1 dX2_takeFlour_19 rfl hl (by decide) rfl (fun ls hl => ?_)
  exact lX2_takeFlour_20 C _ _ h hF _ _ _ hw (lv_sub hl [2, 3, 1, 0] rfl)
set_option maxRecDepth 100000 in
theorem kX2_takeFlour (l : Launch) (n0 : Nat) (D : va_G) (Y : Nat → ClassId) (N : Nat) (x0 : Nat) (x1 : Nat) (z : Hp) {z1 : Hp} (h : fX2_takeFlour N x0 x1 z = some z1) : Met l yX2_takeFlour wsX2_takeFlour rmX2_takeFlour (PreC n0 D Y z [.ref (n0 + x0), .ref (n0 + x1)]) (PosV n0 D Y z1) 0 0 (AA n0) := by
  refine Met.ofW (cc := cX2_takeFlour) (maxL := 6) (ret := none) (by decide) rfl ?_
  intro p e s m args below meth c s₁ B hml hv
  obtain ⟨rfl, hR, hK⟩ := hv
  have C : Cx n0 D Y RX2 cX2_takeFlour none 6 wsX2_takeFlour "takeFlour" p s m ([.ref (n0 + x0), .ref (n0 + x1)] : List Value).toArray meth c := ⟨B.exec, B.bytes, B.returns, hml, findClass_of_methodNamed B.named, atoms_spec (ws := wsX2_takeFlour) B.pre, B.notSynchronized, (name_of_methodNamed B.named B.method).1, hK⟩
  have hl := lv_entry ([.ref (n0 + x0), .ref (n0 + x1)]) (n := 6) (Nat.le_of_ble_eq_true rfl)
  rw [lg_entry_eq]
  generalize (lg_sl ([.ref (n0 + x0), .ref (n0 + x1)]) ++ List.replicate (6 - (lg_sl ([.ref (n0 + x0), .ref (n0 + x1)])).length) Slot.unset).toArray = ls at hl ⊢
  have hl : lv_has ls 6 [(0, .ref (n0 + x0)), (1, .ref (n0 + x1))] := hl
  exact tX2_takeFlour_0 C h rfl ⟨hR, va_S.rf⟩ hl
theorem in_X2_giftDetail_X1 : ∀ w ∈ wsX10, w ∈ wsX2_giftDetail := by decide +kernel
theorem in_X2_giftDetail_X2 : ∀ w ∈ wsX20, w ∈ wsX2_giftDetail := by decide +kernel
abbrev rmX2_giftDetail : Room := { frames := 0, cells := 0, slots := 0, locals := 0 }
noncomputable def fX2_giftDetail_14 (N : Nat) (x0 : Nat) (z : Hp) : Option (Int32) := some (-6 : Int32)
set_option maxHeartbeats 4000000 in
set_option maxRecDepth 100000 in
theorem tX2_giftDetail_14 {n0 : Nat} {D : va_G} {Y : Nat → ClassId} {p : Program} {l : Launch} {e : Env} {s : State} {m : MethodId} {args : Array Value} {below : List Frame} {meth : Method} {c : Code} {N : Nat} {fin : Int32} {x0 : Nat}  {z : Hp} (C : Cx n0 D Y RX2 cX2_giftDetail (some .int) 4 wsX2_giftDetail "giftDetail" p s m args meth c) {x : (Int32)} (h : fX2_giftDetail_14 N x0  z = some x) (hF : (fun x => x = fin) x) {H : Heap} {locs : List Loc} {ls : Array Slot} (hw : Wd n0 D Y z s H locs) (hl : lv_has ls 4 [(0, .ref (n0 + x0))]) : W p l e rmX2_giftDetail s m args below meth c H locs 0 0 (MQ below (PosI n0 D Y z fin) args s 0 0 (AA n0)) (F0 m 14 ls []) := by
  unfold fX2_giftDetail_14 at h
  refine lv_bipush (v := (-6 : Int32)) C.1 C.2.1 dX2_giftDetail_14 (by decide) ?_
  cases h
  replace hF : _ = fin := hF
  subst hF
  exact r_iret C hw dX2_giftDetail_16
noncomputable def fX2_giftDetail_38 (N : Nat) (x0 : Nat) (z : Hp) : Option (Int32) := some (-6 : Int32)
set_option maxHeartbeats 4000000 in
set_option maxRecDepth 100000 in
theorem tX2_giftDetail_38 {n0 : Nat} {D : va_G} {Y : Nat → ClassId} {p : Program} {l : Launch} {e : Env} {s : State} {m : MethodId} {args : Array Value} {below : List Frame} {meth : Method} {c : Code} {N : Nat} {fin : Int32} {x0 : Nat}  {z : Hp} (C : Cx n0 D Y RX2 cX2_giftDetail (some .int) 4 wsX2_giftDetail "giftDetail" p s m args meth c) {x : (Int32)} (h : fX2_giftDetail_38 N x0  z = some x) (hF : (fun x => x = fin) x) {H : Heap} {locs : List Loc} {ls : Array Slot} (hw : Wd n0 D Y z s H locs) (hl : lv_has ls 4 [(0, .ref (n0 + x0))]) : W p l e rmX2_giftDetail s m args below meth c H locs 0 0 (MQ below (PosI n0 D Y z fin) args s 0 0 (AA n0)) (F0 m 38 ls []) := by
  unfold fX2_giftDetail_38 at h
  refine lv_bipush (v := (-6 : Int32)) C.1 C.2.1 dX2_giftDetail_38 (by decide) ?_
  cases h
  replace hF : _ = fin := hF
  subst hF
  exact r_iret C hw dX2_giftDetail_40
noncomputable def fX2_giftDetail (N : Nat) (x0 : Nat) (x1 : Nat) (x2 : Int32) (z : Hp) : Option (Int32) := br (x2 < 0) (fX2_giftDetail_14 N x0 z) (gd (x1 < zn z ∧ zK z x1 = 1) <| br ((x2 / (2 : Int32)) < (zF z 72 x1)) (bd ((zF z 71 x1) + (x2 / (2 : Int32))) fun v4 => br (v4 < 0) (fX2_giftDetail_38 N x0 z) (gd (x0 < zn z ∧ zK z x0 = 2) <| br (v4 < (zF z 134 x0)) (br ((irm x2 (2 : Int32)) = 0) (bo (zG z 130 x0) fun b15 => gd (b15 < zn z ∧ zK z b15 = 12) <| gd (¬ (v4 < 0 ∨ zL z b15 ≤ (v4).toNatClampNeg)) <| some (zA z b15 (v4).toNatClampNeg)) (bo (zG z 131 x0) fun b11 => gd (b11 < zn z ∧ zK z b11 = 12) <| gd (¬ (v4 < 0 ∨ zL z b11 ≤ (v4).toNatClampNeg)) <| some (zA z b11 (v4).toNatClampNeg))) (fX2_giftDetail_38 N x0 z))) (fX2_giftDetail_14 N x0 z))
set_option maxHeartbeats 4000000 in
set_option maxRecDepth 100000 in
theorem tX2_giftDetail_0 {n0 : Nat} {D : va_G} {Y : Nat → ClassId} {p : Program} {l : Launch} {e : Env} {s : State} {m : MethodId} {args : Array Value} {below : List Frame} {meth : Method} {c : Code} {N : Nat} {fin : Int32} {x0 : Nat} {x1 : Nat} {x2 : Int32}  {z : Hp} (C : Cx n0 D Y RX2 cX2_giftDetail (some .int) 4 wsX2_giftDetail "giftDetail" p s m args meth c) {x : (Int32)} (h : fX2_giftDetail N x0 x1 x2  z = some x) (hF : (fun x => x = fin) x) {H : Heap} {locs : List Loc} {ls : Array Slot} (hw : Wd n0 D Y z s H locs) (hl : lv_has ls 4 [(0, .ref (n0 + x0)), (1, .ref (n0 + x1)), (2, .int x2)]) : W p l e rmX2_giftDetail s m args below meth c H locs 0 0 (MQ below (PosI n0 D Y z fin) args s 0 0 (AA n0)) (F0 m 0 ls []) := by
  unfold fX2_giftDetail at h
  refine lv_iload_n C.1 C.2.1 dX2_giftDetail_0 rfl (lv_at hl 2 rfl) ?_
  refine lv_if_lt (tgt := 14) C.1 C.2.1 dX2_giftDetail_1 (by decide) (fun c1 => ?_) (fun c1 => ?_)
  · replace h := brT h c1
    exact tX2_giftDetail_14 C h hF hw (lv_sub hl [0] rfl)
  · replace h := brF h c1
    refine lv_iload_n C.1 C.2.1 dX2_giftDetail_4 rfl (lv_at hl 2 rfl) ?_
    refine lv_iconst (v := (2 : Int32)) C.1 C.2.1 dX2_giftDetail_5 (by decide) ?_
    refine lv_idiv C.1 C.2.1 dX2_giftDetail_6 (by decide) ?_
    refine lv_aload_n C.1 C.2.1 dX2_giftDetail_7 rfl (lv_at hl 1 rfl) ?_
    obtain ⟨g2, h⟩ := gdE h
    refine r_get (v := .int (zF z 72 x1)) C hw g2 (by decide) (Cn := RX1) (T := TX1) (N := 9) rfl in_X2_giftDetail_X1 8 (by decide) (by decide +kernel) (fun _ h => h) rfl dX2_giftDetail_8 ?_
    refine lv_icmp_lt (tgt := 17) C.1 C.2.1 dX2_giftDetail_11 (by decide) (fun c3 => ?_) (fun c3 => ?_)
    · replace h := brT h c3
      refine lv_aload_n C.1 C.2.1 dX2_giftDetail_17 rfl (lv_at hl 1 rfl) ?_
      refine r_get (v := .int (zF z 71 x1)) C hw g2 (by decide) (Cn := RX1) (T := TX1) (N := 9) rfl in_X2_giftDetail_X1 7 (by decide) (by decide +kernel) (fun _ h => h) rfl dX2_giftDetail_18 ?_
      refine lv_iload_n C.1 C.2.1 dX2_giftDetail_21 rfl (lv_at hl 2 rfl) ?_
      refine lv_iconst (v := (2 : Int32)) C.1 C.2.1 dX2_giftDetail_22 (by decide) ?_
      refine lv_idiv C.1 C.2.1 dX2_giftDetail_23 (by decide) ?_
      refine lv_iadd C.1 C.2.1 dX2_giftDetail_24 ?_
      obtain ⟨v4, e5, h⟩ := bdE h
      refine r_topi e5 ?_
      refine lv_istore_n (i := 3) (lv' := [(3, .int v4), (0, .ref (n0 + x0)), (1, .ref (n0 + x1)), (2, .int x2)]) C.1 C.2.1 dX2_giftDetail_25 rfl hl (by decide) rfl (fun ls hl => ?_)
      refine lv_iload_n C.1 C.2.1 dX2_giftDetail_26 rfl (lv_at hl 0 rfl) ?_
      refine lv_if_lt (tgt := 38) C.1 C.2.1 dX2_giftDetail_27 (by decide) (fun c6 => ?_) (fun c6 => ?_)
      · replace h := brT h c6
        exact tX2_giftDetail_38 C h hF hw (lv_sub hl [1] rfl)
      · replace h := brF h c6
        refine lv_iload_n C.1 C.2.1 dX2_giftDetail_30 rfl (lv_at hl 0 rfl) ?_
        refine lv_aload_n C.1 C.2.1 dX2_giftDetail_31 rfl (lv_at hl 1 rfl) ?_
        obtain ⟨g7, h⟩ := gdE h
        refine r_get (v := .int (zF z 134 x0)) C hw g7 (by decide) (Cn := RX2) (T := TX2) (N := 7) rfl in_X2_giftDetail_X2 6 (by decide) (by decide +kernel) (fun _ h => h) rfl dX2_giftDetail_32 ?_
        refine lv_icmp_lt (tgt := 41) C.1 C.2.1 dX2_giftDetail_35 (by decide) (fun c8 => ?_) (fun c8 => ?_)
        · replace h := brT h c8
          refine lv_iload_n C.1 C.2.1 dX2_giftDetail_41 rfl (lv_at hl 3 rfl) ?_
          refine lv_iconst (v := (2 : Int32)) C.1 C.2.1 dX2_giftDetail_42 (by decide) ?_
          refine lv_irem C.1 C.2.1 dX2_giftDetail_43 (by decide) ?_
          refine r_topi (y := irm x2 (2 : Int32)) rfl ?_
          refine lv_if_ne (tgt := 56) C.1 C.2.1 dX2_giftDetail_44 (by decide) (fun c9 => ?_) (fun c9 => ?_)
          · replace h := brF h c9
            refine lv_aload_n C.1 C.2.1 dX2_giftDetail_56 rfl (lv_at hl 1 rfl) ?_
            refine r_get (v := rv n0 (zG z 131 x0)) C hw g7 (by decide) (Cn := RX2) (T := TX2) (N := 7) rfl in_X2_giftDetail_X2 3 (by decide) (by decide +kernel) (fun _ h => h) rfl dX2_giftDetail_57 ?_
            obtain ⟨b11, e10, h⟩ := boE h
            refine r_topr e10 ?_
            refine lv_iload_n C.1 C.2.1 dX2_giftDetail_60 rfl (lv_at hl 0 rfl) ?_
            obtain ⟨g12, h⟩ := gdE h
            obtain ⟨i13, h⟩ := gdE h
            refine r_iald C hw g12 i13 dX2_giftDetail_61 ?_
            cases h
            replace hF : _ = fin := hF
            subst hF
            exact r_iret C hw dX2_giftDetail_62
          · replace h := brT h c9
            refine lv_aload_n C.1 C.2.1 dX2_giftDetail_47 rfl (lv_at hl 1 rfl) ?_
            refine r_get (v := rv n0 (zG z 130 x0)) C hw g7 (by decide) (Cn := RX2) (T := TX2) (N := 7) rfl in_X2_giftDetail_X2 2 (by decide) (by decide +kernel) (fun _ h => h) rfl dX2_giftDetail_48 ?_
            obtain ⟨b15, e14, h⟩ := boE h
            refine r_topr e14 ?_
            refine lv_iload_n C.1 C.2.1 dX2_giftDetail_51 rfl (lv_at hl 0 rfl) ?_
            obtain ⟨g16, h⟩ := gdE h
            obtain ⟨i17, h⟩ := gdE h
            refine r_iald C hw g16 i17 dX2_giftDetail_52 ?_
            refine lv_goto (tgt := 62) C.1 C.2.1 dX2_giftDetail_53 (by decide) ?_
            cases h
            replace hF : _ = fin := hF
            subst hF
            exact r_iret C hw dX2_giftDetail_62
        · replace h := brF h c8
          exact tX2_giftDetail_38 C h hF hw (lv_sub hl [1] rfl)
    · replace h := brF h c3
      exact tX2_giftDetail_14 C h hF hw (lv_sub hl [0] rfl)
set_option maxRecDepth 100000 in
theorem kX2_giftDetail (l : Launch) (n0 : Nat) (D : va_G) (Y : Nat → ClassId) (N : Nat) (x0 : Nat) (x1 : Nat) (x2 : Int32) (z : Hp) {r : Int32} (h : fX2_giftDetail N x0 x1 x2 z = some r) : Met l yX2_giftDetail wsX2_giftDetail rmX2_giftDetail (PreC n0 D Y z [.ref (n0 + x0), .ref (n0 + x1), .int x2]) (PosI n0 D Y z r) 0 0 (AA n0) := by
  refine Met.ofW (cc := cX2_giftDetail) (maxL := 4) (ret := (some .int)) (by decide) rfl ?_
  intro p e s m args below meth c s₁ B hml hv
  obtain ⟨rfl, hR, hK⟩ := hv
  have C : Cx n0 D Y RX2 cX2_giftDetail (some .int) 4 wsX2_giftDetail "giftDetail" p s m ([.ref (n0 + x0), .ref (n0 + x1), .int x2] : List Value).toArray meth c := ⟨B.exec, B.bytes, B.returns, hml, findClass_of_methodNamed B.named, atoms_spec (ws := wsX2_giftDetail) B.pre, B.notSynchronized, (name_of_methodNamed B.named B.method).1, hK⟩
  have hl := lv_entry ([.ref (n0 + x0), .ref (n0 + x1), .int x2]) (n := 4) (Nat.le_of_ble_eq_true rfl)
  rw [lg_entry_eq]
  generalize (lg_sl ([.ref (n0 + x0), .ref (n0 + x1), .int x2]) ++ List.replicate (4 - (lg_sl ([.ref (n0 + x0), .ref (n0 + x1), .int x2])).length) Slot.unset).toArray = ls at hl ⊢
  have hl : lv_has ls 4 [(0, .ref (n0 + x0)), (1, .ref (n0 + x1)), (2, .int x2)] := hl
  exact tX2_giftDetail_0 C h rfl ⟨hR, va_S.rf⟩ hl
theorem in_X3_week_X1 : ∀ w ∈ wsX10, w ∈ wsX3_week := by decide +kernel
theorem in_X3_week_X6 : ∀ w ∈ wsX60, w ∈ wsX3_week := by decide +kernel
theorem in_X3_week_X8 : ∀ w ∈ wsX80, w ∈ wsX3_week := by decide +kernel
abbrev rmX3_week : Room := { frames := 0, cells := 0, slots := 0, locals := 0 }
noncomputable def fX3_week (N : Nat) (x0 : Nat) (z : Hp) : Option (Int32) := gd (x0 < zn z ∧ (zK z x0 = 1 ∨ zK z x0 = 5 ∨ zK z x0 = 7)) <| some ((zF z 770 x0) / (168 : Int32))
set_option maxHeartbeats 4000000 in
set_option maxRecDepth 100000 in
theorem tX3_week_0 {n0 : Nat} {D : va_G} {Y : Nat → ClassId} {p : Program} {l : Launch} {e : Env} {s : State} {m : MethodId} {args : Array Value} {below : List Frame} {meth : Method} {c : Code} {N : Nat} {fin : Int32} {x0 : Nat}  {z : Hp} (C : Cx n0 D Y RX3 cX3_week (some .int) 1 wsX3_week "week" p s m args meth c) {x : (Int32)} (h : fX3_week N x0  z = some x) (hF : (fun x => x = fin) x) {H : Heap} {locs : List Loc} {ls : Array Slot} (hw : Wd n0 D Y z s H locs) (hl : lv_has ls 1 [(0, .ref (n0 + x0))]) : W p l e rmX3_week s m args below meth c H locs 0 0 (MQ below (PosI n0 D Y z fin) args s 0 0 (AA n0)) (F0 m 0 ls []) := by
  unfold fX3_week at h
  refine lv_aload_n C.1 C.2.1 dX3_week_0 rfl (lv_at hl 0 rfl) ?_
  obtain ⟨g1, h⟩ := gdE h
  refine r_getE C hw g1 in_X3_week_X1 in_X3_week_X6 in_X3_week_X8 2 (by decide) (by decide +kernel) (fun _ h => h) dX3_week_1 ?_
  refine lv_sipush (v := (168 : Int32)) C.1 C.2.1 dX3_week_4 (by decide) ?_
  refine lv_idiv C.1 C.2.1 dX3_week_7 (by decide) ?_
  cases h
  replace hF : _ = fin := hF
  subst hF
  exact r_iret C hw dX3_week_8
set_option maxRecDepth 100000 in
theorem kX3_week (l : Launch) (n0 : Nat) (D : va_G) (Y : Nat → ClassId) (N : Nat) (x0 : Nat) (z : Hp) {r : Int32} (h : fX3_week N x0 z = some r) : Met l yX3_week wsX3_week rmX3_week (PreC n0 D Y z [.ref (n0 + x0)]) (PosI n0 D Y z r) 0 0 (AA n0) := by
  refine Met.ofW (cc := cX3_week) (maxL := 1) (ret := (some .int)) (by decide) rfl ?_
  intro p e s m args below meth c s₁ B hml hv
  obtain ⟨rfl, hR, hK⟩ := hv
  have C : Cx n0 D Y RX3 cX3_week (some .int) 1 wsX3_week "week" p s m ([.ref (n0 + x0)] : List Value).toArray meth c := ⟨B.exec, B.bytes, B.returns, hml, findClass_of_methodNamed B.named, atoms_spec (ws := wsX3_week) B.pre, B.notSynchronized, (name_of_methodNamed B.named B.method).1, hK⟩
  have hl := lv_entry ([.ref (n0 + x0)]) (n := 1) (Nat.le_of_ble_eq_true rfl)
  rw [lg_entry_eq]
  generalize (lg_sl ([.ref (n0 + x0)]) ++ List.replicate (1 - (lg_sl ([.ref (n0 + x0)])).length) Slot.unset).toArray = ls at hl ⊢
  have hl : lv_has ls 1 [(0, .ref (n0 + x0))] := hl
  exact tX3_week_0 C h rfl ⟨hR, va_S.rf⟩ hl
theorem in_X4_init_X4 : ∀ w ∈ wsX40, w ∈ wsX4_init := by decide +kernel
abbrev rmX4_init : Room := { frames := 1, cells := 2, slots := 400, locals := 24 }
noncomputable def fX4_init (N : Nat) (x0 : Nat) (z : Hp) : Option (Hp) := bd (zal z 12 200) fun z1 => gd (x0 < zn z1 ∧ zK z1 x0 = 3) <| bd (zsG z1 192 x0 (some (zn z))) fun z4 => bd (zal z4 12 200) fun z7 => bd (zsG z7 193 x0 (some (zn z4))) fun z10 => bd (zsF z10 197 x0 (100 : Int32)) fun z14 => bd (zsF z14 198 x0 (100 : Int32)) fun z17 => some z17
set_option maxHeartbeats 4000000 in
set_option maxRecDepth 100000 in
theorem tX4_init_0 {n0 : Nat} {D : va_G} {Y : Nat → ClassId} {p : Program} {l : Launch} {e : Env} {s : State} {m : MethodId} {args : Array Value} {below : List Frame} {meth : Method} {c : Code} {N : Nat} {fin : Hp} {x0 : Nat}  {z : Hp} (C : Cx n0 D Y RX4 cX4_init none 1 wsX4_init "<init>" p s m args meth c) {x : (Hp)} (h : fX4_init N x0  z = some x) (hF : (fun x => x = fin) x) {H : Heap} {locs : List Loc} {ls : Array Slot} (hw : Wd n0 D Y z s H locs) (hl : lv_has ls 1 [(0, .ref (n0 + x0))]) : W p l e rmX4_init s m args below meth c H locs 0 0 (MQ below (PosV n0 D Y fin) args s 2 400 (AA n0)) (F0 m 0 ls []) := by
  unfold fX4_init at h
  refine lv_aload_n C.1 C.2.1 dX4_init_0 rfl (lv_at hl 0 rfl) ?_
  refine W.objInit C.1 C.2.1 C.2.2.2.2.1 (C.2.2.2.2.2.1 (.methodLink RX4 3 objectInit) (by decide +kernel)) (C.2.2.2.2.2.1 (.instanceMethod objectInit) (by decide +kernel)) (C.2.2.2.2.2.1 _ (List.mem_of_getElem? (i := 3) rfl)) rfl (by rw [C.2.2.2.1]; exact hl.1) rfl dX4_init_1 (Nat.le_of_ble_eq_true rfl) (Nat.le_of_ble_eq_true rfl) ?_
  refine W.eq (g2 := F0 m 4 ls []) rfl ?_
  refine lv_aload_n C.1 C.2.1 dX4_init_4 rfl (lv_at hl 0 rfl) ?_
  refine lv_sipush (v := (200 : Int32)) C.1 C.2.1 dX4_init_5 (by decide) ?_
  obtain ⟨z1, e2, h⟩ := bdE h
  refine r_newi C hw (by decide +kernel) (N' := 200) (by decide) (by decide) (by decide) (by decide) (by decide) dX4_init_8 (fun H hw => ?_)
  rw [← e2] at hw
  have g3 : (zn z) < zn z1 ∧ zK z1 (zn z) = 12 := by rw [e2]; exact ok_new _ _ _
  obtain ⟨g6, h⟩ := gdE h
  obtain ⟨z4, e5, h⟩ := bdE h
  refine r_putG C hw g6 (by decide) (Cn := RX4) (T := TX4) (N := 8) rfl in_X4_init_X4 tyX4 tyX4_ok nmX4 0 (by decide) (by decide +kernel) (fun _ h => h) (Or.inr ⟨rfl, rfl, rfl⟩) (ty := .array .int) (by decide +kernel) rfl rfl (Nat.le_of_ble_eq_true rfl) (st_3_0 n0 z1 x0 (some (zn z))) e5 dX4_init_10 (fun H locs hw => ?_)
  refine lv_aload_n C.1 C.2.1 dX4_init_13 rfl (lv_at hl 0 rfl) ?_
  refine lv_sipush (v := (200 : Int32)) C.1 C.2.1 dX4_init_14 (by decide) ?_
  obtain ⟨z7, e8, h⟩ := bdE h
  refine r_newi C hw (by decide +kernel) (N' := 200) (by decide) (by decide) (by decide) (by decide) (by decide) dX4_init_17 (fun H hw => ?_)
  rw [← e8] at hw
  have g9 : (zn z4) < zn z7 ∧ zK z7 (zn z4) = 12 := by rw [e8]; exact ok_new _ _ _
  have g12 : x0 < zn z4 ∧ zK z4 x0 = 3 := by rw [e5]; exact g6
  have g13 : x0 < zn z7 ∧ zK z7 x0 = 3 := by rw [e8]; exact ok_al _ _ g12
  obtain ⟨z10, e11, h⟩ := bdE h
  refine r_putG C hw g13 (by decide) (Cn := RX4) (T := TX4) (N := 8) rfl in_X4_init_X4 tyX4 tyX4_ok nmX4 1 (by decide) (by decide +kernel) (fun _ h => h) (Or.inr ⟨rfl, rfl, rfl⟩) (ty := .array .int) (by decide +kernel) rfl rfl (Nat.le_of_ble_eq_true rfl) (st_3_1 n0 z7 x0 (some (zn z4))) e11 dX4_init_19 (fun H locs hw => ?_)
  refine lv_aload_n C.1 C.2.1 dX4_init_22 rfl (lv_at hl 0 rfl) ?_
  refine lv_bipush (v := (100 : Int32)) C.1 C.2.1 dX4_init_23 (by decide) ?_
  have g16 : x0 < zn z10 ∧ zK z10 x0 = 3 := by rw [e11]; exact g13
  obtain ⟨z14, e15, h⟩ := bdE h
  refine r_putI C hw g16 (by decide) (Cn := RX4) (T := TX4) (N := 8) rfl in_X4_init_X4 tyX4 tyX4_ok nmX4 5 (by decide) (by decide +kernel) (fun _ h => h) (Or.inl rfl) (ty := .int) (by decide +kernel) rfl rfl (Nat.le_of_ble_eq_true rfl) (st_3_5 n0 z10 x0 (100 : Int32)) e15 dX4_init_25 (fun H locs hw => ?_)
  refine lv_aload_n C.1 C.2.1 dX4_init_28 rfl (lv_at hl 0 rfl) ?_
  refine lv_bipush (v := (100 : Int32)) C.1 C.2.1 dX4_init_29 (by decide) ?_
  have g19 : x0 < zn z14 ∧ zK z14 x0 = 3 := by rw [e15]; exact g16
  obtain ⟨z17, e18, h⟩ := bdE h
  refine r_putI C hw g19 (by decide) (Cn := RX4) (T := TX4) (N := 8) rfl in_X4_init_X4 tyX4 tyX4_ok nmX4 6 (by decide) (by decide +kernel) (fun _ h => h) (Or.inl rfl) (ty := .int) (by decide +kernel) rfl rfl (Nat.le_of_ble_eq_true rfl) (st_3_6 n0 z14 x0 (100 : Int32)) e18 dX4_init_31 (fun H locs hw => ?_)
  cases h
  replace hF : _ = fin := hF
  subst hF
  exact r_vret C hw dX4_init_34
set_option maxRecDepth 100000 in
theorem kX4_init (l : Launch) (n0 : Nat) (D : va_G) (Y : Nat → ClassId) (N : Nat) (x0 : Nat) (z : Hp) {z1 : Hp} (h : fX4_init N x0 z = some z1) : Met l yX4_init wsX4_init rmX4_init (PreC n0 D Y z [.ref (n0 + x0)]) (PosV n0 D Y z1) 2 400 (AA n0) := by
  refine Met.ofW (cc := cX4_init) (maxL := 1) (ret := none) (by decide) rfl ?_
  intro p e s m args below meth c s₁ B hml hv
  obtain ⟨rfl, hR, hK⟩ := hv
  have C : Cx n0 D Y RX4 cX4_init none 1 wsX4_init "<init>" p s m ([.ref (n0 + x0)] : List Value).toArray meth c := ⟨B.exec, B.bytes, B.returns, hml, findClass_of_methodNamed B.named, atoms_spec (ws := wsX4_init) B.pre, B.notSynchronized, (name_of_methodNamed B.named B.method).1, hK⟩
  have hl := lv_entry ([.ref (n0 + x0)]) (n := 1) (Nat.le_of_ble_eq_true rfl)
  rw [lg_entry_eq]
  generalize (lg_sl ([.ref (n0 + x0)]) ++ List.replicate (1 - (lg_sl ([.ref (n0 + x0)])).length) Slot.unset).toArray = ls at hl ⊢
  have hl : lv_has ls 1 [(0, .ref (n0 + x0))] := hl
  exact tX4_init_0 C h rfl ⟨hR, va_S.rf⟩ hl
theorem in_X4_expect_X4 : ∀ w ∈ wsX40, w ∈ wsX4_expect := by decide +kernel
abbrev rmX4_expect : Room := { frames := 0, cells := 0, slots := 0, locals := 0 }
noncomputable def fX4_expect_41 (N : Nat) (x0 : Nat) (z : Hp) : Option (Hp) := some z
set_option maxHeartbeats 4000000 in
set_option maxRecDepth 100000 in
theorem tX4_expect_41 {n0 : Nat} {D : va_G} {Y : Nat → ClassId} {p : Program} {l : Launch} {e : Env} {s : State} {m : MethodId} {args : Array Value} {below : List Frame} {meth : Method} {c : Code} {N : Nat} {fin : Hp} {x0 : Nat}  {z : Hp} (C : Cx n0 D Y RX4 cX4_expect none 3 wsX4_expect "expect" p s m args meth c) {x : (Hp)} (h : fX4_expect_41 N x0  z = some x) (hF : (fun x => x = fin) x) {H : Heap} {locs : List Loc} {ls : Array Slot} (hw : Wd n0 D Y z s H locs) (hl : lv_has ls 3 [(0, .ref (n0 + x0))]) : W p l e rmX4_expect s m args below meth c H locs 0 0 (MQ below (PosV n0 D Y fin) args s 0 0 (AA n0)) (F0 m 41 ls []) := by
  unfold fX4_expect_41 at h
  cases h
  replace hF : _ = fin := hF
  subst hF
  exact r_vret C hw dX4_expect_41
noncomputable def fX4_expect (N : Nat) (x0 : Nat) (x1 : Int32) (x2 : Int32) (z : Hp) : Option (Hp) := br (x1 < 0) (fX4_expect_41 N x0 z) (br ((200 : Int32) ≤ x1) (fX4_expect_41 N x0 z) (gd (x0 < zn z ∧ zK z x0 = 3) <| bo (zG z 192 x0) fun b5 => gd (b5 < zn z ∧ zK z b5 = 12) <| gd (¬ (x1 < 0 ∨ zL z b5 ≤ (x1).toNatClampNeg)) <| gd (¬ (x1 < 0 ∨ zL z b5 ≤ Int32.toNatClampNeg x1)) <| bd (zsA z b5 (Int32.toNatClampNeg x1) ((zA z b5 (x1).toNatClampNeg) + x2)) fun z9 => bo (zG z9 193 x0) fun b13 => gd (b13 < zn z9 ∧ zK z9 b13 = 12) <| gd (¬ (x1 < 0 ∨ zL z9 b13 ≤ (x1).toNatClampNeg)) <| gd (¬ (x1 < 0 ∨ zL z9 b13 ≤ Int32.toNatClampNeg x1)) <| bd (zsA z9 b13 (Int32.toNatClampNeg x1) ((zA z9 b13 (x1).toNatClampNeg) + (1 : Int32))) fun z17 => bd (zsF z17 194 x0 ((zF z17 194 x0) + (1 : Int32))) fun z20 => fX4_expect_41 N x0 z20))
set_option maxHeartbeats 4000000 in
set_option maxRecDepth 100000 in
theorem tX4_expect_0 {n0 : Nat} {D : va_G} {Y : Nat → ClassId} {p : Program} {l : Launch} {e : Env} {s : State} {m : MethodId} {args : Array Value} {below : List Frame} {meth : Method} {c : Code} {N : Nat} {fin : Hp} {x0 : Nat} {x1 : Int32} {x2 : Int32}  {z : Hp} (C : Cx n0 D Y RX4 cX4_expect none 3 wsX4_expect "expect" p s m args meth c) {x : (Hp)} (h : fX4_expect N x0 x1 x2  z = some x) (hF : (fun x => x = fin) x) {H : Heap} {locs : List Loc} {ls : Array Slot} (hw : Wd n0 D Y z s H locs) (hl : lv_has ls 3 [(0, .ref (n0 + x0)), (1, .int x1), (2, .int x2)]) : W p l e rmX4_expect s m args below meth c H locs 0 0 (MQ below (PosV n0 D Y fin) args s 0 0 (AA n0)) (F0 m 0 ls []) := by
  unfold fX4_expect at h
  refine lv_iload_n C.1 C.2.1 dX4_expect_0 rfl (lv_at hl 1 rfl) ?_
  refine lv_if_lt (tgt := 41) C.1 C.2.1 dX4_expect_1 (by decide) (fun c1 => ?_) (fun c1 => ?_)
  · replace h := brT h c1
    exact tX4_expect_41 C h hF hw (lv_sub hl [0] rfl)
  · replace h := brF h c1
    refine lv_iload_n C.1 C.2.1 dX4_expect_4 rfl (lv_at hl 1 rfl) ?_
    refine lv_sipush (v := (200 : Int32)) C.1 C.2.1 dX4_expect_5 (by decide) ?_
    refine lv_icmp_ge (tgt := 41) C.1 C.2.1 dX4_expect_8 (by decide) (fun c2 => ?_) (fun c2 => ?_)
    · replace h := brT h c2
      exact tX4_expect_41 C h hF hw (lv_sub hl [0] rfl)
    · replace h := brF h c2
      refine lv_aload_n C.1 C.2.1 dX4_expect_11 rfl (lv_at hl 0 rfl) ?_
      obtain ⟨g3, h⟩ := gdE h
      refine r_get (v := rv n0 (zG z 192 x0)) C hw g3 (by decide) (Cn := RX4) (T := TX4) (N := 8) rfl in_X4_expect_X4 0 (by decide) (by decide +kernel) (fun _ h => h) rfl dX4_expect_12 ?_
      obtain ⟨b5, e4, h⟩ := boE h
      refine r_topr e4 ?_
      refine lv_iload_n C.1 C.2.1 dX4_expect_15 rfl (lv_at hl 1 rfl) ?_
      refine lv_dup2_11 C.1 C.2.1 dX4_expect_16 rfl rfl ?_
      obtain ⟨g6, h⟩ := gdE h
      obtain ⟨i7, h⟩ := gdE h
      refine r_iald C hw g6 i7 dX4_expect_17 ?_
      refine lv_iload_n C.1 C.2.1 dX4_expect_18 rfl (lv_at hl 2 rfl) ?_
      refine lv_iadd C.1 C.2.1 dX4_expect_19 ?_
      obtain ⟨i8, h⟩ := gdE h
      obtain ⟨z9, e10, h⟩ := bdE h
      refine r_iast C hw g6 i8 e10 dX4_expect_20 (fun H locs hw => ?_)
      refine lv_aload_n C.1 C.2.1 dX4_expect_21 rfl (lv_at hl 0 rfl) ?_
      have g11 : x0 < zn z9 ∧ zK z9 x0 = 3 := by rw [e10]; exact g3
      refine r_get (v := rv n0 (zG z9 193 x0)) C hw g11 (by decide) (Cn := RX4) (T := TX4) (N := 8) rfl in_X4_expect_X4 1 (by decide) (by decide +kernel) (fun _ h => h) rfl dX4_expect_22 ?_
      obtain ⟨b13, e12, h⟩ := boE h
      refine r_topr e12 ?_
      refine lv_iload_n C.1 C.2.1 dX4_expect_25 rfl (lv_at hl 1 rfl) ?_
      refine lv_dup2_11 C.1 C.2.1 dX4_expect_26 rfl rfl ?_
      obtain ⟨g14, h⟩ := gdE h
      obtain ⟨i15, h⟩ := gdE h
      refine r_iald C hw g14 i15 dX4_expect_27 ?_
      refine lv_iconst (v := (1 : Int32)) C.1 C.2.1 dX4_expect_28 (by decide) ?_
      refine lv_iadd C.1 C.2.1 dX4_expect_29 ?_
      obtain ⟨i16, h⟩ := gdE h
      obtain ⟨z17, e18, h⟩ := bdE h
      refine r_iast C hw g14 i16 e18 dX4_expect_30 (fun H locs hw => ?_)
      refine lv_aload_n C.1 C.2.1 dX4_expect_31 rfl (lv_at hl 0 rfl) ?_
      refine lv_dup C.1 C.2.1 dX4_expect_32 rfl ?_
      have g19 : x0 < zn z17 ∧ zK z17 x0 = 3 := by rw [e18]; exact g11
      refine r_get (v := .int (zF z17 194 x0)) C hw g19 (by decide) (Cn := RX4) (T := TX4) (N := 8) rfl in_X4_expect_X4 2 (by decide) (by decide +kernel) (fun _ h => h) rfl dX4_expect_33 ?_
      refine lv_iconst (v := (1 : Int32)) C.1 C.2.1 dX4_expect_36 (by decide) ?_
      refine lv_iadd C.1 C.2.1 dX4_expect_37 ?_
      obtain ⟨z20, e21, h⟩ := bdE h
      refine r_putI C hw g19 (by decide) (Cn := RX4) (T := TX4) (N := 8) rfl in_X4_expect_X4 tyX4 tyX4_ok nmX4 2 (by decide) (by decide +kernel) (fun _ h => h) (Or.inl rfl) (ty := .int) (by decide +kernel) rfl rfl (Nat.le_of_ble_eq_true rfl) (st_3_2 n0 z17 x0 ((zF z17 194 x0) + (1 : Int32))) e21 dX4_expect_38 (fun H locs hw => ?_)
      exact tX4_expect_41 C h hF hw (lv_sub hl [0] rfl)
set_option maxRecDepth 100000 in
theorem kX4_expect (l : Launch) (n0 : Nat) (D : va_G) (Y : Nat → ClassId) (N : Nat) (x0 : Nat) (x1 : Int32) (x2 : Int32) (z : Hp) {z1 : Hp} (h : fX4_expect N x0 x1 x2 z = some z1) : Met l yX4_expect wsX4_expect rmX4_expect (PreC n0 D Y z [.ref (n0 + x0), .int x1, .int x2]) (PosV n0 D Y z1) 0 0 (AA n0) := by
  refine Met.ofW (cc := cX4_expect) (maxL := 3) (ret := none) (by decide) rfl ?_
  intro p e s m args below meth c s₁ B hml hv
  obtain ⟨rfl, hR, hK⟩ := hv
  have C : Cx n0 D Y RX4 cX4_expect none 3 wsX4_expect "expect" p s m ([.ref (n0 + x0), .int x1, .int x2] : List Value).toArray meth c := ⟨B.exec, B.bytes, B.returns, hml, findClass_of_methodNamed B.named, atoms_spec (ws := wsX4_expect) B.pre, B.notSynchronized, (name_of_methodNamed B.named B.method).1, hK⟩
  have hl := lv_entry ([.ref (n0 + x0), .int x1, .int x2]) (n := 3) (Nat.le_of_ble_eq_true rfl)
  rw [lg_entry_eq]
  generalize (lg_sl ([.ref (n0 + x0), .int x1, .int x2]) ++ List.replicate (3 - (lg_sl ([.ref (n0 + x0), .int x1, .int x2])).length) Slot.unset).toArray = ls at hl ⊢
  have hl : lv_has ls 3 [(0, .ref (n0 + x0)), (1, .int x1), (2, .int x2)] := hl
  exact tX4_expect_0 C h rfl ⟨hR, va_S.rf⟩ hl
theorem in_X4_needWith_X4 : ∀ w ∈ wsX40, w ∈ wsX4_needWith := by decide +kernel
abbrev rmX4_needWith : Room := { frames := 0, cells := 0, slots := 0, locals := 0 }
noncomputable def fX4_needWith (N : Nat) (x0 : Nat) (x1 : Int32) (z : Hp) : Option (Int32) := gd (x0 < zn z ∧ zK z x0 = 3) <| some ((((zF z 196 x0) * (zF z 197 x0)) * x1) / (100 : Int32))
set_option maxHeartbeats 4000000 in
set_option maxRecDepth 100000 in
theorem tX4_needWith_0 {n0 : Nat} {D : va_G} {Y : Nat → ClassId} {p : Program} {l : Launch} {e : Env} {s : State} {m : MethodId} {args : Array Value} {below : List Frame} {meth : Method} {c : Code} {N : Nat} {fin : Int32} {x0 : Nat} {x1 : Int32}  {z : Hp} (C : Cx n0 D Y RX4 cX4_needWith (some .int) 2 wsX4_needWith "needWith" p s m args meth c) {x : (Int32)} (h : fX4_needWith N x0 x1  z = some x) (hF : (fun x => x = fin) x) {H : Heap} {locs : List Loc} {ls : Array Slot} (hw : Wd n0 D Y z s H locs) (hl : lv_has ls 2 [(0, .ref (n0 + x0)), (1, .int x1)]) : W p l e rmX4_needWith s m args below meth c H locs 0 0 (MQ below (PosI n0 D Y z fin) args s 0 0 (AA n0)) (F0 m 0 ls []) := by
  unfold fX4_needWith at h
  refine lv_aload_n C.1 C.2.1 dX4_needWith_0 rfl (lv_at hl 0 rfl) ?_
  obtain ⟨g1, h⟩ := gdE h
  refine r_get (v := .int (zF z 196 x0)) C hw g1 (by decide) (Cn := RX4) (T := TX4) (N := 8) rfl in_X4_needWith_X4 4 (by decide) (by decide +kernel) (fun _ h => h) rfl dX4_needWith_1 ?_
  refine lv_aload_n C.1 C.2.1 dX4_needWith_4 rfl (lv_at hl 0 rfl) ?_
  refine r_get (v := .int (zF z 197 x0)) C hw g1 (by decide) (Cn := RX4) (T := TX4) (N := 8) rfl in_X4_needWith_X4 5 (by decide) (by decide +kernel) (fun _ h => h) rfl dX4_needWith_5 ?_
  refine lv_imul C.1 C.2.1 dX4_needWith_8 ?_
  refine lv_iload_n C.1 C.2.1 dX4_needWith_9 rfl (lv_at hl 1 rfl) ?_
  refine lv_imul C.1 C.2.1 dX4_needWith_10 ?_
  refine lv_bipush (v := (100 : Int32)) C.1 C.2.1 dX4_needWith_11 (by decide) ?_
  refine lv_idiv C.1 C.2.1 dX4_needWith_13 (by decide) ?_
  cases h
  replace hF : _ = fin := hF
  subst hF
  exact r_iret C hw dX4_needWith_14
set_option maxRecDepth 100000 in
theorem kX4_needWith (l : Launch) (n0 : Nat) (D : va_G) (Y : Nat → ClassId) (N : Nat) (x0 : Nat) (x1 : Int32) (z : Hp) {r : Int32} (h : fX4_needWith N x0 x1 z = some r) : Met l yX4_needWith wsX4_needWith rmX4_needWith (PreC n0 D Y z [.ref (n0 + x0), .int x1]) (PosI n0 D Y z r) 0 0 (AA n0) := by
  refine Met.ofW (cc := cX4_needWith) (maxL := 2) (ret := (some .int)) (by decide) rfl ?_
  intro p e s m args below meth c s₁ B hml hv
  obtain ⟨rfl, hR, hK⟩ := hv
  have C : Cx n0 D Y RX4 cX4_needWith (some .int) 2 wsX4_needWith "needWith" p s m ([.ref (n0 + x0), .int x1] : List Value).toArray meth c := ⟨B.exec, B.bytes, B.returns, hml, findClass_of_methodNamed B.named, atoms_spec (ws := wsX4_needWith) B.pre, B.notSynchronized, (name_of_methodNamed B.named B.method).1, hK⟩
  have hl := lv_entry ([.ref (n0 + x0), .int x1]) (n := 2) (Nat.le_of_ble_eq_true rfl)
  rw [lg_entry_eq]
  generalize (lg_sl ([.ref (n0 + x0), .int x1]) ++ List.replicate (2 - (lg_sl ([.ref (n0 + x0), .int x1])).length) Slot.unset).toArray = ls at hl ⊢
  have hl : lv_has ls 2 [(0, .ref (n0 + x0)), (1, .int x1)] := hl
  exact tX4_needWith_0 C h rfl ⟨hR, va_S.rf⟩ hl
theorem in_X4_withHarvest_X4 : ∀ w ∈ wsX40, w ∈ wsX4_withHarvest := by decide +kernel
abbrev rmX4_withHarvest : Room := { frames := 1, cells := 0, slots := 0, locals := 24 }
noncomputable def fX4_withHarvest_11 (N : Nat) (x0 : Nat) (x1 : Int32) (z : Hp) : Option (Int32) := some x1
set_option maxHeartbeats 4000000 in
set_option maxRecDepth 100000 in
theorem tX4_withHarvest_11 {n0 : Nat} {D : va_G} {Y : Nat → ClassId} {p : Program} {l : Launch} {e : Env} {s : State} {m : MethodId} {args : Array Value} {below : List Frame} {meth : Method} {c : Code} {N : Nat} {fin : Int32} {x0 : Nat} {x1 : Int32}  {z : Hp} (C : Cx n0 D Y RX4 cX4_withHarvest (some .int) 3 wsX4_withHarvest "withHarvest" p s m args meth c) {x : (Int32)} (h : fX4_withHarvest_11 N x0 x1  z = some x) (hF : (fun x => x = fin) x) {H : Heap} {locs : List Loc} {ls : Array Slot} (hw : Wd n0 D Y z s H locs) (hl : lv_has ls 3 [(0, .ref (n0 + x0)), (1, .int x1)]) : W p l e rmX4_withHarvest s m args below meth c H locs 0 0 (MQ below (PosI n0 D Y z fin) args s 0 0 (AA n0)) (F0 m 11 ls []) := by
  unfold fX4_withHarvest_11 at h
  refine lv_iload_n C.1 C.2.1 dX4_withHarvest_11 rfl (lv_at hl 1 rfl) ?_
  cases h
  replace hF : _ = fin := hF
  subst hF
  exact r_iret C hw dX4_withHarvest_12
noncomputable def fX4_withHarvest (N : Nat) (x0 : Nat) (x1 : Int32) (x2 : Int32) (z : Hp) : Option (Int32) := br (x2 < 0) (fX4_withHarvest_11 N x0 x1 z) (br (x2 < (200 : Int32)) (gd (x0 < zn z ∧ zK z x0 = 3) <| bo (zG z 192 x0) fun b5 => gd (b5 < zn z ∧ zK z b5 = 12) <| gd (¬ (x2 < 0 ∨ zL z b5 ≤ (x2).toNatClampNeg)) <| some (if (x1 + (zA z b5 (x2).toNatClampNeg)) < (100000000 : Int32) then (x1 + (zA z b5 (x2).toNatClampNeg)) else (100000000 : Int32))) (fX4_withHarvest_11 N x0 x1 z))
set_option maxHeartbeats 4000000 in
set_option maxRecDepth 100000 in
theorem tX4_withHarvest_0 {n0 : Nat} {D : va_G} {Y : Nat → ClassId} {p : Program} {l : Launch} {e : Env} {s : State} {m : MethodId} {args : Array Value} {below : List Frame} {meth : Method} {c : Code} {N : Nat} {fin : Int32} {x0 : Nat} {x1 : Int32} {x2 : Int32}  {z : Hp} (C : Cx n0 D Y RX4 cX4_withHarvest (some .int) 3 wsX4_withHarvest "withHarvest" p s m args meth c) {x : (Int32)} (h : fX4_withHarvest N x0 x1 x2  z = some x) (hF : (fun x => x = fin) x) {H : Heap} {locs : List Loc} {ls : Array Slot} (hw : Wd n0 D Y z s H locs) (hl : lv_has ls 3 [(0, .ref (n0 + x0)), (1, .int x1), (2, .int x2)]) : W p l e rmX4_withHarvest s m args below meth c H locs 0 0 (MQ below (PosI n0 D Y z fin) args s 0 0 (AA n0)) (F0 m 0 ls []) := by
  unfold fX4_withHarvest at h
  refine lv_iload_n C.1 C.2.1 dX4_withHarvest_0 rfl (lv_at hl 2 rfl) ?_
  refine lv_if_lt (tgt := 11) C.1 C.2.1 dX4_withHarvest_1 (by decide) (fun c1 => ?_) (fun c1 => ?_)
  · replace h := brT h c1
    exact tX4_withHarvest_11 C h hF hw (lv_sub hl [0, 1] rfl)
  · replace h := brF h c1
    refine lv_iload_n C.1 C.2.1 dX4_withHarvest_4 rfl (lv_at hl 2 rfl) ?_
    refine lv_sipush (v := (200 : Int32)) C.1 C.2.1 dX4_withHarvest_5 (by decide) ?_
    refine lv_icmp_lt (tgt := 13) C.1 C.2.1 dX4_withHarvest_8 (by decide) (fun c2 => ?_) (fun c2 => ?_)
    · replace h := brT h c2
      refine lv_ldc (v := (100000000 : Int32)) C.1 C.2.1 C.2.2.2.2.1 (C.2.2.2.2.2.1 (.constant RX4 31 (100000000 : Int32)) (by decide +kernel)) dX4_withHarvest_13 ?_
      refine lv_iload_n C.1 C.2.1 dX4_withHarvest_15 rfl (lv_at hl 1 rfl) ?_
      refine lv_aload_n C.1 C.2.1 dX4_withHarvest_16 rfl (lv_at hl 0 rfl) ?_
      obtain ⟨g3, h⟩ := gdE h
      refine r_get (v := rv n0 (zG z 192 x0)) C hw g3 (by decide) (Cn := RX4) (T := TX4) (N := 8) rfl in_X4_withHarvest_X4 0 (by decide) (by decide +kernel) (fun _ h => h) rfl dX4_withHarvest_17 ?_
      obtain ⟨b5, e4, h⟩ := boE h
      refine r_topr e4 ?_
      refine lv_iload_n C.1 C.2.1 dX4_withHarvest_20 rfl (lv_at hl 2 rfl) ?_
      obtain ⟨g6, h⟩ := gdE h
      obtain ⟨i7, h⟩ := gdE h
      refine r_iald C hw g6 i7 dX4_withHarvest_21 ?_
      refine lv_iadd C.1 C.2.1 dX4_withHarvest_22 ?_
      refine va_mmin C.1 C.2.1 (C.2.2.2.1.trans hl.1.symm) C.2.2.2.2.1 (C.2.2.2.2.2.1 (.methodLink RX4 32 Lib.Math.min.name) (by decide +kernel)) (C.2.2.2.2.2.1 (.static Lib.Math.min.name) (by decide +kernel)) (C.2.2.2.2.2.1 (.initialized "java/lang/Math") (by decide +kernel)) (C.2.2.2.2.2.1 _ (List.mem_of_getElem? (i := 6) rfl)) (Nat.le_of_ble_eq_true rfl) (Nat.le_of_ble_eq_true rfl) (Nat.le_of_ble_eq_true rfl) (Nat.le_of_ble_eq_true rfl) dX4_withHarvest_23 ?_
      cases h
      replace hF : _ = fin := hF
      subst hF
      exact r_iret C hw dX4_withHarvest_26
    · replace h := brF h c2
      exact tX4_withHarvest_11 C h hF hw (lv_sub hl [0, 1] rfl)
set_option maxRecDepth 100000 in
theorem kX4_withHarvest (l : Launch) (n0 : Nat) (D : va_G) (Y : Nat → ClassId) (N : Nat) (x0 : Nat) (x1 : Int32) (x2 : Int32) (z : Hp) {r : Int32} (h : fX4_withHarvest N x0 x1 x2 z = some r) : Met l yX4_withHarvest wsX4_withHarvest rmX4_withHarvest (PreC n0 D Y z [.ref (n0 + x0), .int x1, .int x2]) (PosI n0 D Y z r) 0 0 (AA n0) := by
  refine Met.ofW (cc := cX4_withHarvest) (maxL := 3) (ret := (some .int)) (by decide) rfl ?_
  intro p e s m args below meth c s₁ B hml hv
  obtain ⟨rfl, hR, hK⟩ := hv
  have C : Cx n0 D Y RX4 cX4_withHarvest (some .int) 3 wsX4_withHarvest "withHarvest" p s m ([.ref (n0 + x0), .int x1, .int x2] : List Value).toArray meth c := ⟨B.exec, B.bytes, B.returns, hml, findClass_of_methodNamed B.named, atoms_spec (ws := wsX4_withHarvest) B.pre, B.notSynchronized, (name_of_methodNamed B.named B.method).1, hK⟩
  have hl := lv_entry ([.ref (n0 + x0), .int x1, .int x2]) (n := 3) (Nat.le_of_ble_eq_true rfl)
  rw [lg_entry_eq]
  generalize (lg_sl ([.ref (n0 + x0), .int x1, .int x2]) ++ List.replicate (3 - (lg_sl ([.ref (n0 + x0), .int x1, .int x2])).length) Slot.unset).toArray = ls at hl ⊢
  have hl : lv_has ls 3 [(0, .ref (n0 + x0)), (1, .int x1), (2, .int x2)] := hl
  exact tX4_withHarvest_0 C h rfl ⟨hR, va_S.rf⟩ hl
theorem in_X4_endWeek_X4 : ∀ w ∈ wsX40, w ∈ wsX4_endWeek := by decide +kernel
abbrev rmX4_endWeek : Room := { frames := 1, cells := 0, slots := 0, locals := 24 }
noncomputable def fX4_endWeek_27 (N : Nat) (x0 : Nat) (x1 : Int32) (z : Hp) : Option (Hp) := gd (x0 < zn z ∧ zK z x0 = 3) <| bd (zsF z 195 x0 (if (0 : Int32) < ((zF z 195 x0) - x1) then ((zF z 195 x0) - x1) else (0 : Int32))) fun z2 => some z2
set_option maxHeartbeats 4000000 in
set_option maxRecDepth 100000 in
theorem tX4_endWeek_27 {n0 : Nat} {D : va_G} {Y : Nat → ClassId} {p : Program} {l : Launch} {e : Env} {s : State} {m : MethodId} {args : Array Value} {below : List Frame} {meth : Method} {c : Code} {N : Nat} {fin : Hp} {x0 : Nat} {x1 : Int32}  {z : Hp} (C : Cx n0 D Y RX4 cX4_endWeek none 2 wsX4_endWeek "endWeek" p s m args meth c) {x : (Hp)} (h : fX4_endWeek_27 N x0 x1  z = some x) (hF : (fun x => x = fin) x) {H : Heap} {locs : List Loc} {ls : Array Slot} (hw : Wd n0 D Y z s H locs) (hl : lv_has ls 2 [(0, .ref (n0 + x0)), (1, .int x1)]) : W p l e rmX4_endWeek s m args below meth c H locs 0 0 (MQ below (PosV n0 D Y fin) args s 0 0 (AA n0)) (F0 m 27 ls []) := by
  unfold fX4_endWeek_27 at h
  refine lv_aload_n C.1 C.2.1 dX4_endWeek_27 rfl (lv_at hl 0 rfl) ?_
  refine lv_iconst (v := (0 : Int32)) C.1 C.2.1 dX4_endWeek_28 (by decide) ?_
  refine lv_aload_n C.1 C.2.1 dX4_endWeek_29 rfl (lv_at hl 0 rfl) ?_
  obtain ⟨g1, h⟩ := gdE h
  refine r_get (v := .int (zF z 195 x0)) C hw g1 (by decide) (Cn := RX4) (T := TX4) (N := 8) rfl in_X4_endWeek_X4 3 (by decide) (by decide +kernel) (fun _ h => h) rfl dX4_endWeek_30 ?_
  refine lv_iload_n C.1 C.2.1 dX4_endWeek_33 rfl (lv_at hl 1 rfl) ?_
  refine lv_isub C.1 C.2.1 dX4_endWeek_34 ?_
  refine va_mmax C.1 C.2.1 (C.2.2.2.1.trans hl.1.symm) C.2.2.2.2.1 (C.2.2.2.2.2.1 (.methodLink RX4 48 Lib.Math.max.name) (by decide +kernel)) (C.2.2.2.2.2.1 (.static Lib.Math.max.name) (by decide +kernel)) (C.2.2.2.2.2.1 (.initialized "java/lang/Math") (by decide +kernel)) (C.2.2.2.2.2.1 _ (List.mem_of_getElem? (i := 7) rfl)) (Nat.le_of_ble_eq_true rfl) (Nat.le_of_ble_eq_true rfl) (Nat.le_of_ble_eq_true rfl) (Nat.le_of_ble_eq_true rfl) dX4_endWeek_35 ?_
  obtain ⟨z2, e3, h⟩ := bdE h
  refine r_putI C hw g1 (by decide) (Cn := RX4) (T := TX4) (N := 8) rfl in_X4_endWeek_X4 tyX4 tyX4_ok nmX4 3 (by decide) (by decide +kernel) (fun _ h => h) (Or.inl rfl) (ty := .int) (by decide +kernel) rfl rfl (Nat.le_of_ble_eq_true rfl) (st_3_3 n0 z x0 (if (0 : Int32) < ((zF z 195 x0) - x1) then ((zF z 195 x0) - x1) else (0 : Int32))) e3 dX4_endWeek_38 (fun H locs hw => ?_)
  cases h
  replace hF : _ = fin := hF
  subst hF
  exact r_vret C hw dX4_endWeek_41
noncomputable def fX4_endWeek (N : Nat) (x0 : Nat) (z : Hp) : Option (Hp) := gd (x0 < zn z ∧ zK z x0 = 3) <| bo (fX4_needWith N x0 (zF z 198 x0) z) fun r3 => br (r3 ≤ (zF z 195 x0)) (fX4_endWeek_27 N x0 r3 z) (bd (zsF z 199 x0 ((zF z 199 x0) + (1 : Int32))) fun z5 => fX4_endWeek_27 N x0 r3 z5)
set_option maxHeartbeats 4000000 in
set_option maxRecDepth 100000 in
theorem tX4_endWeek_0 {n0 : Nat} {D : va_G} {Y : Nat → ClassId} {p : Program} {l : Launch} {e : Env} {s : State} {m : MethodId} {args : Array Value} {below : List Frame} {meth : Method} {c : Code} {N : Nat} {fin : Hp} {x0 : Nat}  {z : Hp} (C : Cx n0 D Y RX4 cX4_endWeek none 2 wsX4_endWeek "endWeek" p s m args meth c) {x : (Hp)} (h : fX4_endWeek N x0  z = some x) (hF : (fun x => x = fin) x) {H : Heap} {locs : List Loc} {ls : Array Slot} (hw : Wd n0 D Y z s H locs) (hl : lv_has ls 2 [(0, .ref (n0 + x0))]) : W p l e rmX4_endWeek s m args below meth c H locs 0 0 (MQ below (PosV n0 D Y fin) args s 0 0 (AA n0)) (F0 m 0 ls []) := by
  unfold fX4_endWeek at h
  refine lv_aload_n C.1 C.2.1 dX4_endWeek_0 rfl (lv_at hl 0 rfl) ?_
  refine lv_aload_n C.1 C.2.1 dX4_endWeek_1 rfl (lv_at hl 0 rfl) ?_
  obtain ⟨g1, h⟩ := gdE h
  refine r_get (v := .int (zF z 198 x0)) C hw g1 (by decide) (Cn := RX4) (T := TX4) (N := 8) rfl in_X4_endWeek_X4 6 (by decide) (by decide +kernel) (fun _ h => h) rfl dX4_endWeek_2 ?_
  obtain ⟨r3, e2, h⟩ := boE h
  refine r_afti hw (r_runV (As := [.int (zF z 198 x0)]) (rest := []) C hw (ki := 3) g1 (by decide) rfl (kX4_needWith l n0 D Y N x0 (zF z 198 x0) z e2) (cwV 1 C.2.2.2.2.2.1 gX4_endWeek_X4_needWith rfl rfl rfl (by decide +kernel) ⟨(Nat.le_of_ble_eq_true rfl), (Nat.le_of_ble_eq_true rfl)⟩) rfl hl.1 rfl (Nat.le_of_ble_eq_true rfl) dX4_endWeek_5 ⟨(Nat.le_of_ble_eq_true rfl), (Nat.le_of_ble_eq_true rfl)⟩) (fun H locs hw => ?_)
  refine lv_istore_n (i := 1) (lv' := [(1, .int r3), (0, .ref (n0 + x0))]) C.1 C.2.1 dX4_endWeek_8 rfl hl (by decide) rfl (fun ls hl => ?_)
  refine lv_aload_n C.1 C.2.1 dX4_endWeek_9 rfl (lv_at hl 1 rfl) ?_
  refine r_get (v := .int (zF z 195 x0)) C hw g1 (by decide) (Cn := RX4) (T := TX4) (N := 8) rfl in_X4_endWeek_X4 3 (by decide) (by decide +kernel) (fun _ h => h) rfl dX4_endWeek_10 ?_
  refine lv_iload_n C.1 C.2.1 dX4_endWeek_13 rfl (lv_at hl 0 rfl) ?_
  refine lv_icmp_ge (tgt := 27) C.1 C.2.1 dX4_endWeek_14 (by decide) (fun c4 => ?_) (fun c4 => ?_)
  · replace h := brT h c4
    exact tX4_endWeek_27 C h hF hw (lv_sub hl [1, 0] rfl)
  · replace h := brF h c4
    refine lv_aload_n C.1 C.2.1 dX4_endWeek_17 rfl (lv_at hl 1 rfl) ?_
    refine lv_dup C.1 C.2.1 dX4_endWeek_18 rfl ?_
    refine r_get (v := .int (zF z 199 x0)) C hw g1 (by decide) (Cn := RX4) (T := TX4) (N := 8) rfl in_X4_endWeek_X4 7 (by decide) (by decide +kernel) (fun _ h => h) rfl dX4_endWeek_19 ?_
    refine lv_iconst (v := (1 : Int32)) C.1 C.2.1 dX4_endWeek_22 (by decide) ?_
    refine lv_iadd C.1 C.2.1 dX4_endWeek_23 ?_
    obtain ⟨z5, e6, h⟩ := bdE h
    refine r_putI C hw g1 (by decide) (Cn := RX4) (T := TX4) (N := 8) rfl in_X4_endWeek_X4 tyX4 tyX4_ok nmX4 7 (by decide) (by decide +kernel) (fun _ h => h) (Or.inl rfl) (ty := .int) (by decide +kernel) rfl rfl (Nat.le_of_ble_eq_true rfl) (st_3_7 n0 z x0 ((zF z 199 x0) + (1 : Int32))) e6 dX4_endWeek_24 (fun H locs hw => ?_)
    exact tX4_endWeek_27 C h hF hw (lv_sub hl [1, 0] rfl)
set_option maxRecDepth 100000 in
theorem kX4_endWeek (l : Launch) (n0 : Nat) (D : va_G) (Y : Nat → ClassId) (N : Nat) (x0 : Nat) (z : Hp) {z1 : Hp} (h : fX4_endWeek N x0 z = some z1) : Met l yX4_endWeek wsX4_endWeek rmX4_endWeek (PreC n0 D Y z [.ref (n0 + x0)]) (PosV n0 D Y z1) 0 0 (AA n0) := by
  refine Met.ofW (cc := cX4_endWeek) (maxL := 2) (ret := none) (by decide) rfl ?_
  intro p e s m args below meth c s₁ B hml hv
  obtain ⟨rfl, hR, hK⟩ := hv
  have C : Cx n0 D Y RX4 cX4_endWeek none 2 wsX4_endWeek "endWeek" p s m ([.ref (n0 + x0)] : List Value).toArray meth c := ⟨B.exec, B.bytes, B.returns, hml, findClass_of_methodNamed B.named, atoms_spec (ws := wsX4_endWeek) B.pre, B.notSynchronized, (name_of_methodNamed B.named B.method).1, hK⟩
  have hl := lv_entry ([.ref (n0 + x0)]) (n := 2) (Nat.le_of_ble_eq_true rfl)
  rw [lg_entry_eq]
  generalize (lg_sl ([.ref (n0 + x0)]) ++ List.replicate (2 - (lg_sl ([.ref (n0 + x0)])).length) Slot.unset).toArray = ls at hl ⊢
  have hl : lv_has ls 2 [(0, .ref (n0 + x0))] := hl
  exact tX4_endWeek_0 C h rfl ⟨hR, va_S.rf⟩ hl
theorem in_X4_beginWeek_X4 : ∀ w ∈ wsX40, w ∈ wsX4_beginWeek := by decide +kernel
abbrev rmX4_beginWeek : Room := { frames := 2, cells := 0, slots := 0, locals := 46 }
noncomputable def fX4_beginWeek_39 (N : Nat) (x0 : Nat) (z : Hp) : Option (Hp) := some z
set_option maxHeartbeats 4000000 in
set_option maxRecDepth 100000 in
theorem tX4_beginWeek_39 {n0 : Nat} {D : va_G} {Y : Nat → ClassId} {p : Program} {l : Launch} {e : Env} {s : State} {m : MethodId} {args : Array Value} {below : List Frame} {meth : Method} {c : Code} {N : Nat} {fin : Hp} {x0 : Nat}  {z : Hp} (C : Cx n0 D Y RX4 cX4_beginWeek none 2 wsX4_beginWeek "beginWeek" p s m args meth c) {x : (Hp)} (h : fX4_beginWeek_39 N x0  z = some x) (hF : (fun x => x = fin) x) {H : Heap} {locs : List Loc} {ls : Array Slot} (hw : Wd n0 D Y z s H locs) (hl : lv_has ls 2 [(0, .ref (n0 + x0))]) : W p l e rmX4_beginWeek s m args below meth c H locs 0 0 (MQ below (PosV n0 D Y fin) args s 0 0 (AA n0)) (F0 m 39 ls []) := by
  unfold fX4_beginWeek_39 at h
  cases h
  replace hF : _ = fin := hF
  subst hF
  exact r_vret C hw dX4_beginWeek_39
noncomputable def fX4_beginWeek (N : Nat) (x0 : Nat) (x1 : Int32) (z : Hp) : Option (Hp) := gd (x0 < zn z ∧ zK z x0 = 3) <| bo (fX4_withHarvest N x0 (zF z 195 x0) x1 z) fun r3 => bd (zsF z 195 x0 r3) fun z4 => br (x1 < 0) (fX4_beginWeek_39 N x0 z4) (br ((200 : Int32) ≤ x1) (fX4_beginWeek_39 N x0 z4) (bo (zG z4 193 x0) fun b10 => gd (b10 < zn z4 ∧ zK z4 b10 = 12) <| gd (¬ (x1 < 0 ∨ zL z4 b10 ≤ (x1).toNatClampNeg)) <| bd (zsF z4 194 x0 ((zF z4 194 x0) - (zA z4 b10 (x1).toNatClampNeg))) fun z13 => fX4_beginWeek_39 N x0 z13))
set_option maxHeartbeats 4000000 in
set_option maxRecDepth 100000 in
theorem tX4_beginWeek_0 {n0 : Nat} {D : va_G} {Y : Nat → ClassId} {p : Program} {l : Launch} {e : Env} {s : State} {m : MethodId} {args : Array Value} {below : List Frame} {meth : Method} {c : Code} {N : Nat} {fin : Hp} {x0 : Nat} {x1 : Int32}  {z : Hp} (C : Cx n0 D Y RX4 cX4_beginWeek none 2 wsX4_beginWeek "beginWeek" p s m args meth c) {x : (Hp)} (h : fX4_beginWeek N x0 x1  z = some x) (hF : (fun x => x = fin) x) {H : Heap} {locs : List Loc} {ls : Array Slot} (hw : Wd n0 D Y z s H locs) (hl : lv_has ls 2 [(0, .ref (n0 + x0)), (1, .int x1)]) : W p l e rmX4_beginWeek s m args below meth c H locs 0 0 (MQ below (PosV n0 D Y fin) args s 0 0 (AA n0)) (F0 m 0 ls []) := by
  unfold fX4_beginWeek at h
  refine lv_aload_n C.1 C.2.1 dX4_beginWeek_0 rfl (lv_at hl 0 rfl) ?_
  refine lv_aload_n C.1 C.2.1 dX4_beginWeek_1 rfl (lv_at hl 0 rfl) ?_
  refine lv_aload_n C.1 C.2.1 dX4_beginWeek_2 rfl (lv_at hl 0 rfl) ?_
  obtain ⟨g1, h⟩ := gdE h
  refine r_get (v := .int (zF z 195 x0)) C hw g1 (by decide) (Cn := RX4) (T := TX4) (N := 8) rfl in_X4_beginWeek_X4 3 (by decide) (by decide +kernel) (fun _ h => h) rfl dX4_beginWeek_3 ?_
  refine lv_iload_n C.1 C.2.1 dX4_beginWeek_6 rfl (lv_at hl 1 rfl) ?_
  obtain ⟨r3, e2, h⟩ := boE h
  refine r_afti hw (r_runV (As := [.int (zF z 195 x0), .int x1]) (rest := [.ref (n0 + x0)]) C hw (ki := 3) g1 (by decide) rfl (kX4_withHarvest l n0 D Y N x0 (zF z 195 x0) x1 z e2) (cwV 2 C.2.2.2.2.2.1 gX4_beginWeek_X4_withHarvest rfl rfl rfl (by decide +kernel) ⟨(Nat.le_of_ble_eq_true rfl), (Nat.le_of_ble_eq_true rfl)⟩) rfl hl.1 rfl (Nat.le_of_ble_eq_true rfl) dX4_beginWeek_7 ⟨(Nat.le_of_ble_eq_true rfl), (Nat.le_of_ble_eq_true rfl)⟩) (fun H locs hw => ?_)
  obtain ⟨z4, e5, h⟩ := bdE h
  refine r_putI C hw g1 (by decide) (Cn := RX4) (T := TX4) (N := 8) rfl in_X4_beginWeek_X4 tyX4 tyX4_ok nmX4 3 (by decide) (by decide +kernel) (fun _ h => h) (Or.inl rfl) (ty := .int) (by decide +kernel) rfl rfl (Nat.le_of_ble_eq_true rfl) (st_3_3 n0 z x0 r3) e5 dX4_beginWeek_10 (fun H locs hw => ?_)
  refine lv_iload_n C.1 C.2.1 dX4_beginWeek_13 rfl (lv_at hl 1 rfl) ?_
  refine lv_if_lt (tgt := 39) C.1 C.2.1 dX4_beginWeek_14 (by decide) (fun c6 => ?_) (fun c6 => ?_)
  · replace h := brT h c6
    exact tX4_beginWeek_39 C h hF hw (lv_sub hl [0] rfl)
  · replace h := brF h c6
    refine lv_iload_n C.1 C.2.1 dX4_beginWeek_17 rfl (lv_at hl 1 rfl) ?_
    refine lv_sipush (v := (200 : Int32)) C.1 C.2.1 dX4_beginWeek_18 (by decide) ?_
    refine lv_icmp_ge (tgt := 39) C.1 C.2.1 dX4_beginWeek_21 (by decide) (fun c7 => ?_) (fun c7 => ?_)
    · replace h := brT h c7
      exact tX4_beginWeek_39 C h hF hw (lv_sub hl [0] rfl)
    · replace h := brF h c7
      refine lv_aload_n C.1 C.2.1 dX4_beginWeek_24 rfl (lv_at hl 0 rfl) ?_
      refine lv_dup C.1 C.2.1 dX4_beginWeek_25 rfl ?_
      have g8 : x0 < zn z4 ∧ zK z4 x0 = 3 := by rw [e5]; exact g1
      refine r_get (v := .int (zF z4 194 x0)) C hw g8 (by decide) (Cn := RX4) (T := TX4) (N := 8) rfl in_X4_beginWeek_X4 2 (by decide) (by decide +kernel) (fun _ h => h) rfl dX4_beginWeek_26 ?_
      refine lv_aload_n C.1 C.2.1 dX4_beginWeek_29 rfl (lv_at hl 0 rfl) ?_
      refine r_get (v := rv n0 (zG z4 193 x0)) C hw g8 (by decide) (Cn := RX4) (T := TX4) (N := 8) rfl in_X4_beginWeek_X4 1 (by decide) (by decide +kernel) (fun _ h => h) rfl dX4_beginWeek_30 ?_
      obtain ⟨b10, e9, h⟩ := boE h
      refine r_topr e9 ?_
      refine lv_iload_n C.1 C.2.1 dX4_beginWeek_33 rfl (lv_at hl 1 rfl) ?_
      obtain ⟨g11, h⟩ := gdE h
      obtain ⟨i12, h⟩ := gdE h
      refine r_iald C hw g11 i12 dX4_beginWeek_34 ?_
      refine lv_isub C.1 C.2.1 dX4_beginWeek_35 ?_
      obtain ⟨z13, e14, h⟩ := bdE h
      refine r_putI C hw g8 (by decide) (Cn := RX4) (T := TX4) (N := 8) rfl in_X4_beginWeek_X4 tyX4 tyX4_ok nmX4 2 (by decide) (by decide +kernel) (fun _ h => h) (Or.inl rfl) (ty := .int) (by decide +kernel) rfl rfl (Nat.le_of_ble_eq_true rfl) (st_3_2 n0 z4 x0 ((zF z4 194 x0) - (zA z4 b10 (x1).toNatClampNeg))) e14 dX4_beginWeek_36 (fun H locs hw => ?_)
      exact tX4_beginWeek_39 C h hF hw (lv_sub hl [0] rfl)
set_option maxRecDepth 100000 in
theorem kX4_beginWeek (l : Launch) (n0 : Nat) (D : va_G) (Y : Nat → ClassId) (N : Nat) (x0 : Nat) (x1 : Int32) (z : Hp) {z1 : Hp} (h : fX4_beginWeek N x0 x1 z = some z1) : Met l yX4_beginWeek wsX4_beginWeek rmX4_beginWeek (PreC n0 D Y z [.ref (n0 + x0), .int x1]) (PosV n0 D Y z1) 0 0 (AA n0) := by
  refine Met.ofW (cc := cX4_beginWeek) (maxL := 2) (ret := none) (by decide) rfl ?_
  intro p e s m args below meth c s₁ B hml hv
  obtain ⟨rfl, hR, hK⟩ := hv
  have C : Cx n0 D Y RX4 cX4_beginWeek none 2 wsX4_beginWeek "beginWeek" p s m ([.ref (n0 + x0), .int x1] : List Value).toArray meth c := ⟨B.exec, B.bytes, B.returns, hml, findClass_of_methodNamed B.named, atoms_spec (ws := wsX4_beginWeek) B.pre, B.notSynchronized, (name_of_methodNamed B.named B.method).1, hK⟩
  have hl := lv_entry ([.ref (n0 + x0), .int x1]) (n := 2) (Nat.le_of_ble_eq_true rfl)
  rw [lg_entry_eq]
  generalize (lg_sl ([.ref (n0 + x0), .int x1]) ++ List.replicate (2 - (lg_sl ([.ref (n0 + x0), .int x1])).length) Slot.unset).toArray = ls at hl ⊢
  have hl : lv_has ls 2 [(0, .ref (n0 + x0)), (1, .int x1)] := hl
  exact tX4_beginWeek_0 C h rfl ⟨hR, va_S.rf⟩ hl
theorem in_X4_firstHunger_X4 : ∀ w ∈ wsX40, w ∈ wsX4_firstHunger := by decide +kernel
abbrev rmX4_firstHunger : Room := { frames := 2, cells := 0, slots := 0, locals := 46 }
noncomputable def fX4_firstHunger_38 (N : Nat) (x0 : Nat) (x1 : Int32) (x2 : Int32) (x4 : Int32) (x5 : Int32) (x6 : Int32) (z : Hp) : Option ((Int32 × Int32) ⊕ (Int32)) := br (x4 ≤ x5) (bd (x5 - x4) fun v2 => bd (x6 + (1 : Int32)) fun v4 => some (.inl (v2, v4))) (lf <| some x6)
set_option maxHeartbeats 4000000 in
set_option maxRecDepth 100000 in
theorem tX4_firstHunger_38 {n0 : Nat} {D : va_G} {Y : Nat → ClassId} {p : Program} {l : Launch} {e : Env} {s : State} {m : MethodId} {args : Array Value} {below : List Frame} {meth : Method} {c : Code} {N : Nat} {fin : Int32} {x0 : Nat} {x1 : Int32} {x2 : Int32} {x4 : Int32} {x5 : Int32} {x6 : Int32}  {z : Hp} (C : Cx n0 D Y RX4 cX4_firstHunger (some .int) 7 wsX4_firstHunger "firstHunger" p s m args meth c) {P16 : Int32 × Int32 → Prop} (hP16 : ∀ u, P16 u → ∀ (H : Heap) (locs : List Loc) (ls : Array Slot), Wd n0 D Y z s H locs → lv_has ls 7 [(0, .ref (n0 + x0)), (1, .int x1), (2, .int x2), (4, .int x4), (5, .int u.1), (6, .int u.2)] → W p l e rmX4_firstHunger s m args below meth c H locs 0 0 (MQ below (PosI n0 D Y z fin) args s 0 0 (AA n0)) (F0 m 16 ls [])) {x : ((Int32 × Int32) ⊕ (Int32))} (h : fX4_firstHunger_38 N x0 x1 x2 x4 x5 x6  z = some x) (hF : (Fn P16 (fun x => x = fin)) x) {H : Heap} {locs : List Loc} {ls : Array Slot} (hw : Wd n0 D Y z s H locs) (hl : lv_has ls 7 [(0, .ref (n0 + x0)), (1, .int x1), (2, .int x2), (4, .int x4), (5, .int x5), (6, .int x6)]) : W p l e rmX4_firstHunger s m args below meth c H locs 0 0 (MQ below (PosI n0 D Y z fin) args s 0 0 (AA n0)) (F0 m 38 ls []) := by
  unfold fX4_firstHunger_38 at h
  refine lv_iload C.1 C.2.1 dX4_firstHunger_38 (lv_at hl 4 rfl) ?_
  refine lv_iload C.1 C.2.1 dX4_firstHunger_40 (lv_at hl 3 rfl) ?_
  refine lv_icmp_ge (tgt := 48) C.1 C.2.1 dX4_firstHunger_42 (by decide) (fun c1 => ?_) (fun c1 => ?_)
  · replace h := brT h c1
    refine lv_iload C.1 C.2.1 dX4_firstHunger_48 (lv_at hl 4 rfl) ?_
    refine lv_iload C.1 C.2.1 dX4_firstHunger_50 (lv_at hl 3 rfl) ?_
    refine lv_isub C.1 C.2.1 dX4_firstHunger_52 ?_
    obtain ⟨v2, e3, h⟩ := bdE h
    refine r_topi e3 ?_
    refine lv_istore (i := 5) (lv' := [(5, .int v2), (0, .ref (n0 + x0)), (1, .int x1), (2, .int x2), (4, .int x4), (6, .int x6)]) C.1 C.2.1 dX4_firstHunger_53 hl (by decide) rfl (fun ls hl => ?_)
    obtain ⟨v4, e5, h⟩ := bdE h
    refine lv_iinc (v := v4) (lv' := [(6, .int v4), (5, .int v2), (0, .ref (n0 + x0)), (1, .int x1), (2, .int x2), (4, .int x4)]) C.1 C.2.1 dX4_firstHunger_55 hl (k := 5) rfl (by rw [e5]; rfl) (by decide) rfl (fun ls hl => ?_)
    refine lv_goto (tgt := 16) C.1 C.2.1 dX4_firstHunger_58 (by decide) ?_
    cases h
    exact hP16 _ hF _ _ _ hw (lv_sub hl [2, 3, 4, 5, 1, 0] rfl)
  · replace h := brF h c1
    refine lv_iload C.1 C.2.1 dX4_firstHunger_45 (lv_at hl 5 rfl) ?_
    obtain ⟨y6, h, hF⟩ := lfX h hF
    cases h
    replace hF : _ = fin := hF
    subst hF
    exact r_iret C hw dX4_firstHunger_47
noncomputable def fX4_firstHunger_16 (N : Nat) (x0 : Nat) (x1 : Int32) (x2 : Int32) (x4 : Int32) (x5 : Int32) (x6 : Int32) (z : Hp) : Option ((Int32 × Int32) ⊕ (Int32)) := br (x2 < x6) (lf <| some (-6 : Int32)) (br (x6 ≤ x1) (fX4_firstHunger_38 N x0 x1 x2 x4 x5 x6 z) (gd (x0 < zn z ∧ zK z x0 = 3) <| bo (fX4_withHarvest N x0 x5 x6 z) fun r5 => fX4_firstHunger_38 N x0 x1 x2 x4 r5 x6 z))
set_option maxHeartbeats 4000000 in
set_option maxRecDepth 100000 in
theorem tX4_firstHunger_16 {n0 : Nat} {D : va_G} {Y : Nat → ClassId} {p : Program} {l : Launch} {e : Env} {s : State} {m : MethodId} {args : Array Value} {below : List Frame} {meth : Method} {c : Code} {N : Nat} {fin : Int32} {x0 : Nat} {x1 : Int32} {x2 : Int32} {x4 : Int32} {x5 : Int32} {x6 : Int32}  {z : Hp} (C : Cx n0 D Y RX4 cX4_firstHunger (some .int) 7 wsX4_firstHunger "firstHunger" p s m args meth c) {P16 : Int32 × Int32 → Prop} (hP16 : ∀ u, P16 u → ∀ (H : Heap) (locs : List Loc) (ls : Array Slot), Wd n0 D Y z s H locs → lv_has ls 7 [(0, .ref (n0 + x0)), (1, .int x1), (2, .int x2), (4, .int x4), (5, .int u.1), (6, .int u.2)] → W p l e rmX4_firstHunger s m args below meth c H locs 0 0 (MQ below (PosI n0 D Y z fin) args s 0 0 (AA n0)) (F0 m 16 ls [])) {x : ((Int32 × Int32) ⊕ (Int32))} (h : fX4_firstHunger_16 N x0 x1 x2 x4 x5 x6  z = some x) (hF : (Fn P16 (fun x => x = fin)) x) {H : Heap} {locs : List Loc} {ls : Array Slot} (hw : Wd n0 D Y z s H locs) (hl : lv_has ls 7 [(0, .ref (n0 + x0)), (1, .int x1), (2, .int x2), (4, .int x4), (5, .int x5), (6, .int x6)]) : W p l e rmX4_firstHunger s m args below meth c H locs 0 0 (MQ below (PosI n0 D Y z fin) args s 0 0 (AA n0)) (F0 m 16 ls []) := by
  unfold fX4_firstHunger_16 at h
  refine lv_iload C.1 C.2.1 dX4_firstHunger_16 (lv_at hl 5 rfl) ?_
  refine lv_iload_n C.1 C.2.1 dX4_firstHunger_18 rfl (lv_at hl 2 rfl) ?_
  refine lv_icmp_gt (tgt := 61) C.1 C.2.1 dX4_firstHunger_19 (by decide) (fun c1 => ?_) (fun c1 => ?_)
  · replace h := brT h c1
    obtain ⟨y2, h, hF⟩ := lfX h hF
    refine lv_bipush (v := (-6 : Int32)) C.1 C.2.1 dX4_firstHunger_61 (by decide) ?_
    cases h
    replace hF : _ = fin := hF
    subst hF
    exact r_iret C hw dX4_firstHunger_63
  · replace h := brF h c1
    refine lv_iload C.1 C.2.1 dX4_firstHunger_22 (lv_at hl 5 rfl) ?_
    refine lv_iload_n C.1 C.2.1 dX4_firstHunger_24 rfl (lv_at hl 1 rfl) ?_
    refine lv_icmp_le (tgt := 38) C.1 C.2.1 dX4_firstHunger_25 (by decide) (fun c3 => ?_) (fun c3 => ?_)
    · replace h := brT h c3
      exact tX4_firstHunger_38 C hP16 h hF hw (lv_sub hl [0, 1, 2, 3, 4, 5] rfl)
    · replace h := brF h c3
      refine lv_aload_n C.1 C.2.1 dX4_firstHunger_28 rfl (lv_at hl 0 rfl) ?_
      refine lv_iload C.1 C.2.1 dX4_firstHunger_29 (lv_at hl 4 rfl) ?_
      refine lv_iload C.1 C.2.1 dX4_firstHunger_31 (lv_at hl 5 rfl) ?_
      obtain ⟨g6, h⟩ := gdE h
      obtain ⟨r5, e4, h⟩ := boE h
      refine r_afti hw (r_runV (As := [.int x5, .int x6]) (rest := []) C hw (ki := 3) g6 (by decide) rfl (kX4_withHarvest l n0 D Y N x0 x5 x6 z e4) (cwV 2 C.2.2.2.2.2.1 gX4_firstHunger_X4_withHarvest rfl rfl rfl (by decide +kernel) ⟨(Nat.le_of_ble_eq_true rfl), (Nat.le_of_ble_eq_true rfl)⟩) rfl hl.1 rfl (Nat.le_of_ble_eq_true rfl) dX4_firstHunger_33 ⟨(Nat.le_of_ble_eq_true rfl), (Nat.le_of_ble_eq_true rfl)⟩) (fun H locs hw => ?_)
      refine lv_istore (i := 5) (lv' := [(5, .int r5), (0, .ref (n0 + x0)), (1, .int x1), (2, .int x2), (4, .int x4), (6, .int x6)]) C.1 C.2.1 dX4_firstHunger_36 hl (by decide) rfl (fun ls hl => ?_)
      exact tX4_firstHunger_38 C hP16 h hF hw (lv_sub hl [1, 2, 3, 4, 0, 5] rfl)
set_option maxHeartbeats 4000000 in
set_option maxRecDepth 100000 in
theorem lX4_firstHunger_16 {n0 : Nat} {D : va_G} {Y : Nat → ClassId} {p : Program} {l : Launch} {e : Env} {s : State} {m : MethodId} {args : Array Value} {below : List Frame} {meth : Method} {c : Code} {N : Nat} {fin : Int32} {x0 : Nat} {x1 : Int32} {x2 : Int32} {x4 : Int32} {z : Hp} (C : Cx n0 D Y RX4 cX4_firstHunger (some .int) 7 wsX4_firstHunger "firstHunger" p s m args meth c) {x : (Int32)} : ∀ (n : Nat) (u : Int32 × Int32), wh (fun (u : Int32 × Int32) => fX4_firstHunger_16 N x0 x1 x2 x4 u.1 u.2 z) n u = some x → (fun x => x = fin) x → ∀ (H : Heap) (locs : List Loc) (ls : Array Slot), Wd n0 D Y z s H locs → lv_has ls 7 [(0, .ref (n0 + x0)), (1, .int x1), (2, .int x2), (4, .int x4), (5, .int u.1), (6, .int u.2)] → W p l e rmX4_firstHunger s m args below meth c H locs 0 0 (MQ below (PosI n0 D Y z fin) args s 0 0 (AA n0)) (F0 m 16 ls []) := fun n u h g => wh_ind (P := fun u => ∀ (H : Heap) (locs : List Loc) (ls : Array Slot), Wd n0 D Y z s H locs → lv_has ls 7 [(0, .ref (n0 + x0)), (1, .int x1), (2, .int x2), (4, .int x4), (5, .int u.1), (6, .int u.2)] → W p l e rmX4_firstHunger s m args below meth c H locs 0 0 (MQ below (PosI n0 D Y z fin) args s 0 0 (AA n0)) (F0 m 16 ls [])) (G := (fun x => x = fin)) (fun u x h hF H locs ls hw hl => tX4_firstHunger_16 C (P16 := fun u => ∀ (H : Heap) (locs : List Loc) (ls : Array Slot), Wd n0 D Y z s H locs → lv_has ls 7 [(0, .ref (n0 + x0)), (1, .int x1), (2, .int x2), (4, .int x4), (5, .int u.1), (6, .int u.2)] → W p l e rmX4_firstHunger s m args below meth c H locs 0 0 (MQ below (PosI n0 D Y z fin) args s 0 0 (AA n0)) (F0 m 16 ls [])) (fun _ h => h) h hF hw hl) n u x h g
noncomputable def fX4_firstHunger (N : Nat) (x0 : Nat) (x1 : Int32) (x2 : Int32) (x3 : Int32) (z : Hp) : Option (Int32) := gd (x0 < zn z ∧ zK z x0 = 3) <| bo (fX4_needWith N x0 x3 z) fun r2 => bd (zF z 195 x0) fun v4 => wh (fun (u : Int32 × Int32) => fX4_firstHunger_16 N x0 x1 x2 r2 u.1 u.2 z) N (v4, x1)
set_option maxHeartbeats 4000000 in
set_option maxRecDepth 100000 in
theorem tX4_firstHunger_0 {n0 : Nat} {D : va_G} {Y : Nat → ClassId} {p : Program} {l : Launch} {e : Env} {s : State} {m : MethodId} {args : Array Value} {below : List Frame} {meth : Method} {c : Code} {N : Nat} {fin : Int32} {x0 : Nat} {x1 : Int32} {x2 : Int32} {x3 : Int32}  {z : Hp} (C : Cx n0 D Y RX4 cX4_firstHunger (some .int) 7 wsX4_firstHunger "firstHunger" p s m args meth c) {x : (Int32)} (h : fX4_firstHunger N x0 x1 x2 x3  z = some x) (hF : (fun x => x = fin) x) {H : Heap} {locs : List Loc} {ls : Array Slot} (hw : Wd n0 D Y z s H locs) (hl : lv_has ls 7 [(0, .ref (n0 + x0)), (1, .int x1), (2, .int x2), (3, .int x3)]) : W p l e rmX4_firstHunger s m args below meth c H locs 0 0 (MQ below (PosI n0 D Y z fin) args s 0 0 (AA n0)) (F0 m 0 ls []) := by
  unfold fX4_firstHunger at h
  refine lv_aload_n C.1 C.2.1 dX4_firstHunger_0 rfl (lv_at hl 0 rfl) ?_
  refine lv_iload_n C.1 C.2.1 dX4_firstHunger_1 rfl (lv_at hl 3 rfl) ?_
  obtain ⟨g3, h⟩ := gdE h
  obtain ⟨r2, e1, h⟩ := boE h
  refine r_afti hw (r_runV (As := [.int x3]) (rest := []) C hw (ki := 3) g3 (by decide) rfl (kX4_needWith l n0 D Y N x0 x3 z e1) (cwV 1 C.2.2.2.2.2.1 gX4_firstHunger_X4_needWith rfl rfl rfl (by decide +kernel) ⟨(Nat.le_of_ble_eq_true rfl), (Nat.le_of_ble_eq_true rfl)⟩) rfl hl.1 rfl (Nat.le_of_ble_eq_true rfl) dX4_firstHunger_2 ⟨(Nat.le_of_ble_eq_true rfl), (Nat.le_of_ble_eq_true rfl)⟩) (fun H locs hw => ?_)
  refine lv_istore (i := 4) (lv' := [(4, .int r2), (0, .ref (n0 + x0)), (1, .int x1), (2, .int x2), (3, .int x3)]) C.1 C.2.1 dX4_firstHunger_5 hl (by decide) rfl (fun ls hl => ?_)
  refine lv_aload_n C.1 C.2.1 dX4_firstHunger_7 rfl (lv_at hl 1 rfl) ?_
  refine r_get (v := .int (zF z 195 x0)) C hw g3 (by decide) (Cn := RX4) (T := TX4) (N := 8) rfl in_X4_firstHunger_X4 3 (by decide) (by decide +kernel) (fun _ h => h) rfl dX4_firstHunger_8 ?_
  obtain ⟨v4, e5, h⟩ := bdE h
  refine r_topi e5 ?_
  refine lv_istore (i := 5) (lv' := [(5, .int v4), (4, .int r2), (0, .ref (n0 + x0)), (1, .int x1), (2, .int x2), (3, .int x3)]) C.1 C.2.1 dX4_firstHunger_11 hl (by decide) rfl (fun ls hl => ?_)
  refine lv_iload_n C.1 C.2.1 dX4_firstHunger_13 rfl (lv_at hl 3 rfl) ?_
  refine lv_istore (i := 6) (lv' := [(6, .int x1), (5, .int v4), (4, .int r2), (0, .ref (n0 + x0)), (1, .int x1), (2, .int x2), (3, .int x3)]) C.1 C.2.1 dX4_firstHunger_14 hl (by decide) rfl (fun ls hl => ?_)
  exact lX4_firstHunger_16 C _ _ h hF _ _ _ hw (lv_sub hl [3, 4, 5, 2, 1, 0] rfl)
set_option maxRecDepth 100000 in
theorem kX4_firstHunger (l : Launch) (n0 : Nat) (D : va_G) (Y : Nat → ClassId) (N : Nat) (x0 : Nat) (x1 : Int32) (x2 : Int32) (x3 : Int32) (z : Hp) {r : Int32} (h : fX4_firstHunger N x0 x1 x2 x3 z = some r) : Met l yX4_firstHunger wsX4_firstHunger rmX4_firstHunger (PreC n0 D Y z [.ref (n0 + x0), .int x1, .int x2, .int x3]) (PosI n0 D Y z r) 0 0 (AA n0) := by
  refine Met.ofW (cc := cX4_firstHunger) (maxL := 7) (ret := (some .int)) (by decide) rfl ?_
  intro p e s m args below meth c s₁ B hml hv
  obtain ⟨rfl, hR, hK⟩ := hv
  have C : Cx n0 D Y RX4 cX4_firstHunger (some .int) 7 wsX4_firstHunger "firstHunger" p s m ([.ref (n0 + x0), .int x1, .int x2, .int x3] : List Value).toArray meth c := ⟨B.exec, B.bytes, B.returns, hml, findClass_of_methodNamed B.named, atoms_spec (ws := wsX4_firstHunger) B.pre, B.notSynchronized, (name_of_methodNamed B.named B.method).1, hK⟩
  have hl := lv_entry ([.ref (n0 + x0), .int x1, .int x2, .int x3]) (n := 7) (Nat.le_of_ble_eq_true rfl)
  rw [lg_entry_eq]
  generalize (lg_sl ([.ref (n0 + x0), .int x1, .int x2, .int x3]) ++ List.replicate (7 - (lg_sl ([.ref (n0 + x0), .int x1, .int x2, .int x3])).length) Slot.unset).toArray = ls at hl ⊢
  have hl : lv_has ls 7 [(0, .ref (n0 + x0)), (1, .int x1), (2, .int x2), (3, .int x3)] := hl
  exact tX4_firstHunger_0 C h rfl ⟨hR, va_S.rf⟩ hl
abbrev rmX4_greatestRation : Room := { frames := 3, cells := 0, slots := 0, locals := 72 }
noncomputable def fX4_greatestRation_40 (N : Nat) (x0 : Nat) (x1 : Int32) (x2 : Int32) (x3 : Int32) (x4 : Int32) (z : Hp) : Option ((Int32 × Int32) ⊕ (Int32)) := bd (x4 / (2 : Int32)) fun v1 => some (.inl (x3, v1))
set_option maxHeartbeats 4000000 in
set_option maxRecDepth 100000 in
theorem tX4_greatestRation_40 {n0 : Nat} {D : va_G} {Y : Nat → ClassId} {p : Program} {l : Launch} {e : Env} {s : State} {m : MethodId} {args : Array Value} {below : List Frame} {meth : Method} {c : Code} {N : Nat} {fin : Int32} {x0 : Nat} {x1 : Int32} {x2 : Int32} {x3 : Int32} {x4 : Int32}  {z : Hp} (C : Cx n0 D Y RX4 cX4_greatestRation (some .int) 6 wsX4_greatestRation "greatestRation" p s m args meth c) {P6 : Int32 × Int32 → Prop} (hP6 : ∀ u, P6 u → ∀ (H : Heap) (locs : List Loc) (ls : Array Slot), Wd n0 D Y z s H locs → lv_has ls 6 [(0, .ref (n0 + x0)), (1, .int x1), (2, .int x2), (3, .int u.1), (4, .int u.2)] → W p l e rmX4_greatestRation s m args below meth c H locs 0 0 (MQ below (PosI n0 D Y z fin) args s 0 0 (AA n0)) (F0 m 6 ls [])) {x : ((Int32 × Int32) ⊕ (Int32))} (h : fX4_greatestRation_40 N x0 x1 x2 x3 x4  z = some x) (hF : (Fn P6 (fun x => x = fin)) x) {H : Heap} {locs : List Loc} {ls : Array Slot} (hw : Wd n0 D Y z s H locs) (hl : lv_has ls 6 [(0, .ref (n0 + x0)), (1, .int x1), (2, .int x2), (3, .int x3), (4, .int x4)]) : W p l e rmX4_greatestRation s m args below meth c H locs 0 0 (MQ below (PosI n0 D Y z fin) args s 0 0 (AA n0)) (F0 m 40 ls []) := by
  unfold fX4_greatestRation_40 at h
  refine lv_iload C.1 C.2.1 dX4_greatestRation_40 (lv_at hl 4 rfl) ?_
  refine lv_iconst (v := (2 : Int32)) C.1 C.2.1 dX4_greatestRation_42 (by decide) ?_
  refine lv_idiv C.1 C.2.1 dX4_greatestRation_43 (by decide) ?_
  obtain ⟨v1, e2, h⟩ := bdE h
  refine r_topi e2 ?_
  refine lv_istore (i := 4) (lv' := [(4, .int v1), (0, .ref (n0 + x0)), (1, .int x1), (2, .int x2), (3, .int x3)]) C.1 C.2.1 dX4_greatestRation_44 hl (by decide) rfl (fun ls hl => ?_)
  refine lv_goto (tgt := 6) C.1 C.2.1 dX4_greatestRation_46 (by decide) ?_
  cases h
  exact hP6 _ hF _ _ _ hw (lv_sub hl [1, 2, 3, 4, 0] rfl)
noncomputable def fX4_greatestRation_6 (N : Nat) (x0 : Nat) (x1 : Int32) (x2 : Int32) (x3 : Int32) (x4 : Int32) (z : Hp) : Option ((Int32 × Int32) ⊕ (Int32)) := br (x4 ≤ 0) (lf <| br (x3 = 0) (some (-6 : Int32)) (some x3)) (bd (x3 + x4) fun v4 => br ((100 : Int32) < v4) (fX4_greatestRation_40 N x0 x1 x2 x3 x4 z) (gd (x0 < zn z ∧ zK z x0 = 3) <| bo (fX4_firstHunger N x0 x1 x2 v4 z) fun r8 => br (r8 = (-6 : Int32)) (fX4_greatestRation_40 N x0 x1 x2 v4 x4 z) (fX4_greatestRation_40 N x0 x1 x2 x3 x4 z)))
set_option maxHeartbeats 4000000 in
set_option maxRecDepth 100000 in
theorem tX4_greatestRation_6 {n0 : Nat} {D : va_G} {Y : Nat → ClassId} {p : Program} {l : Launch} {e : Env} {s : State} {m : MethodId} {args : Array Value} {below : List Frame} {meth : Method} {c : Code} {N : Nat} {fin : Int32} {x0 : Nat} {x1 : Int32} {x2 : Int32} {x3 : Int32} {x4 : Int32}  {z : Hp} (C : Cx n0 D Y RX4 cX4_greatestRation (some .int) 6 wsX4_greatestRation "greatestRation" p s m args meth c) {P6 : Int32 × Int32 → Prop} (hP6 : ∀ u, P6 u → ∀ (H : Heap) (locs : List Loc) (ls : Array Slot), Wd n0 D Y z s H locs → lv_has ls 6 [(0, .ref (n0 + x0)), (1, .int x1), (2, .int x2), (3, .int u.1), (4, .int u.2)] → W p l e rmX4_greatestRation s m args below meth c H locs 0 0 (MQ below (PosI n0 D Y z fin) args s 0 0 (AA n0)) (F0 m 6 ls [])) {x : ((Int32 × Int32) ⊕ (Int32))} (h : fX4_greatestRation_6 N x0 x1 x2 x3 x4  z = some x) (hF : (Fn P6 (fun x => x = fin)) x) {H : Heap} {locs : List Loc} {ls : Array Slot} (hw : Wd n0 D Y z s H locs) (hl : lv_has ls 6 [(0, .ref (n0 + x0)), (1, .int x1), (2, .int x2), (3, .int x3), (4, .int x4)]) : W p l e rmX4_greatestRation s m args below meth c H locs 0 0 (MQ below (PosI n0 D Y z fin) args s 0 0 (AA n0)) (F0 m 6 ls []) := by
  unfold fX4_greatestRation_6 at h
  refine lv_iload C.1 C.2.1 dX4_greatestRation_6 (lv_at hl 4 rfl) ?_
  refine lv_if_le (tgt := 49) C.1 C.2.1 dX4_greatestRation_8 (by decide) (fun c1 => ?_) (fun c1 => ?_)
  · replace h := brT h c1
    obtain ⟨y2, h, hF⟩ := lfX h hF
    refine lv_iload_n C.1 C.2.1 dX4_greatestRation_49 rfl (lv_at hl 3 rfl) ?_
    refine lv_if_ne (tgt := 58) C.1 C.2.1 dX4_greatestRation_50 (by decide) (fun c3 => ?_) (fun c3 => ?_)
    · replace h := brF h c3
      refine lv_iload_n C.1 C.2.1 dX4_greatestRation_58 rfl (lv_at hl 3 rfl) ?_
      cases h
      replace hF : _ = fin := hF
      subst hF
      exact r_iret C hw dX4_greatestRation_59
    · replace h := brT h c3
      refine lv_bipush (v := (-6 : Int32)) C.1 C.2.1 dX4_greatestRation_53 (by decide) ?_
      refine lv_goto (tgt := 59) C.1 C.2.1 dX4_greatestRation_55 (by decide) ?_
      cases h
      replace hF : _ = fin := hF
      subst hF
      exact r_iret C hw dX4_greatestRation_59
  · replace h := brF h c1
    refine lv_iload_n C.1 C.2.1 dX4_greatestRation_11 rfl (lv_at hl 3 rfl) ?_
    refine lv_iload C.1 C.2.1 dX4_greatestRation_12 (lv_at hl 4 rfl) ?_
    refine lv_iadd C.1 C.2.1 dX4_greatestRation_14 ?_
    obtain ⟨v4, e5, h⟩ := bdE h
    refine r_topi e5 ?_
    refine lv_istore (i := 5) (lv' := [(5, .int v4), (0, .ref (n0 + x0)), (1, .int x1), (2, .int x2), (3, .int x3), (4, .int x4)]) C.1 C.2.1 dX4_greatestRation_15 hl (by decide) rfl (fun ls hl => ?_)
    refine lv_iload C.1 C.2.1 dX4_greatestRation_17 (lv_at hl 0 rfl) ?_
    refine lv_bipush (v := (100 : Int32)) C.1 C.2.1 dX4_greatestRation_19 (by decide) ?_
    refine lv_icmp_gt (tgt := 40) C.1 C.2.1 dX4_greatestRation_21 (by decide) (fun c6 => ?_) (fun c6 => ?_)
    · replace h := brT h c6
      exact tX4_greatestRation_40 C hP6 h hF hw (lv_sub hl [1, 2, 3, 4, 5] rfl)
    · replace h := brF h c6
      refine lv_aload_n C.1 C.2.1 dX4_greatestRation_24 rfl (lv_at hl 1 rfl) ?_
      refine lv_iload_n C.1 C.2.1 dX4_greatestRation_25 rfl (lv_at hl 2 rfl) ?_
      refine lv_iload_n C.1 C.2.1 dX4_greatestRation_26 rfl (lv_at hl 3 rfl) ?_
      refine lv_iload C.1 C.2.1 dX4_greatestRation_27 (lv_at hl 0 rfl) ?_
      obtain ⟨g9, h⟩ := gdE h
      obtain ⟨r8, e7, h⟩ := boE h
      refine r_afti hw (r_runV (As := [.int x1, .int x2, .int v4]) (rest := []) C hw (ki := 3) g9 (by decide) rfl (kX4_firstHunger l n0 D Y N x0 x1 x2 v4 z e7) (cwV 3 C.2.2.2.2.2.1 gX4_greatestRation_X4_firstHunger rfl rfl rfl (by decide +kernel) ⟨(Nat.le_of_ble_eq_true rfl), (Nat.le_of_ble_eq_true rfl)⟩) rfl hl.1 rfl (Nat.le_of_ble_eq_true rfl) dX4_greatestRation_29 ⟨(Nat.le_of_ble_eq_true rfl), (Nat.le_of_ble_eq_true rfl)⟩) (fun H locs hw => ?_)
      refine lv_bipush (v := (-6 : Int32)) C.1 C.2.1 dX4_greatestRation_32 (by decide) ?_
      refine lv_icmp_ne (tgt := 40) C.1 C.2.1 dX4_greatestRation_34 (by decide) (fun c10 => ?_) (fun c10 => ?_)
      · replace h := brF h c10
        exact tX4_greatestRation_40 C hP6 h hF hw (lv_sub hl [1, 2, 3, 4, 5] rfl)
      · replace h := brT h c10
        refine lv_iload C.1 C.2.1 dX4_greatestRation_37 (lv_at hl 0 rfl) ?_
        refine lv_istore_n (i := 3) (lv' := [(3, .int v4), (5, .int v4), (0, .ref (n0 + x0)), (1, .int x1), (2, .int x2), (4, .int x4)]) C.1 C.2.1 dX4_greatestRation_39 rfl hl (by decide) rfl (fun ls hl => ?_)
        exact tX4_greatestRation_40 C hP6 h hF hw (lv_sub hl [2, 3, 4, 0, 5] rfl)
set_option maxHeartbeats 4000000 in
set_option maxRecDepth 100000 in
theorem lX4_greatestRation_6 {n0 : Nat} {D : va_G} {Y : Nat → ClassId} {p : Program} {l : Launch} {e : Env} {s : State} {m : MethodId} {args : Array Value} {below : List Frame} {meth : Method} {c : Code} {N : Nat} {fin : Int32} {x0 : Nat} {x1 : Int32} {x2 : Int32} {z : Hp} (C : Cx n0 D Y RX4 cX4_greatestRation (some .int) 6 wsX4_greatestRation "greatestRation" p s m args meth c) {x : (Int32)} : ∀ (n : Nat) (u : Int32 × Int32), wh (fun (u : Int32 × Int32) => fX4_greatestRation_6 N x0 x1 x2 u.1 u.2 z) n u = some x → (fun x => x = fin) x → ∀ (H : Heap) (locs : List Loc) (ls : Array Slot), Wd n0 D Y z s H locs → lv_has ls 6 [(0, .ref (n0 + x0)), (1, .int x1), (2, .int x2), (3, .int u.1), (4, .int u.2)] → W p l e rmX4_greatestRation s m args below meth c H locs 0 0 (MQ below (PosI n0 D Y z fin) args s 0 0 (AA n0)) (F0 m 6 ls []) := fun n u h g => wh_ind (P := fun u => ∀ (H : Heap) (locs : List Loc) (ls : Array Slot), Wd n0 D Y z s H locs → lv_has ls 6 [(0, .ref (n0 + x0)), (1, .int x1), (2, .int x2), (3, .int u.1), (4, .int u.2)] → W p l e rmX4_greatestRation s m args below meth c H locs 0 0 (MQ below (PosI n0 D Y z fin) args s 0 0 (AA n0)) (F0 m 6 ls [])) (G := (fun x => x = fin)) (fun u x h hF H locs ls hw hl => tX4_greatestRation_6 C (P6 := fun u => ∀ (H : Heap) (locs : List Loc) (ls : Array Slot), Wd n0 D Y z s H locs → lv_has ls 6 [(0, .ref (n0 + x0)), (1, .int x1), (2, .int x2), (3, .int u.1), (4, .int u.2)] → W p l e rmX4_greatestRation s m args below meth c H locs 0 0 (MQ below (PosI n0 D Y z fin) args s 0 0 (AA n0)) (F0 m 6 ls [])) (fun _ h => h) h hF hw hl) n u x h g
noncomputable def fX4_greatestRation (N : Nat) (x0 : Nat) (x1 : Int32) (x2 : Int32) (z : Hp) : Option (Int32) := wh (fun (u : Int32 × Int32) => fX4_greatestRation_6 N x0 x1 x2 u.1 u.2 z) N ((0 : Int32), (64 : Int32))
set_option maxHeartbeats 4000000 in
set_option maxRecDepth 100000 in
theorem tX4_greatestRation_0 {n0 : Nat} {D : va_G} {Y : Nat → ClassId} {p : Program} {l : Launch} {e : Env} {s : State} {m : MethodId} {args : Array Value} {below : List Frame} {meth : Method} {c : Code} {N : Nat} {fin : Int32} {x0 : Nat} {x1 : Int32} {x2 : Int32}  {z : Hp} (C : Cx n0 D Y RX4 cX4_greatestRation (some .int) 6 wsX4_greatestRation "greatestRation" p s m args meth c) {x : (Int32)} (h : fX4_greatestRation N x0 x1 x2  z = some x) (hF : (fun x => x = fin) x) {H : Heap} {locs : List Loc} {ls : Array Slot} (hw : Wd n0 D Y z s H locs) (hl : lv_has ls 6 [(0, .ref (n0 + x0)), (1, .int x1), (2, .int x2)]) : W p l e rmX4_greatestRation s m args below meth c H locs 0 0 (MQ below (PosI n0 D Y z fin) args s 0 0 (AA n0)) (F0 m 0 ls []) := by
  unfold fX4_greatestRation at h
  refine lv_iconst (v := (0 : Int32)) C.1 C.2.1 dX4_greatestRation_0 (by decide) ?_
  refine lv_istore_n (i := 3) (lv' := [(3, .int (0 : Int32)), (0, .ref (n0 + x0)), (1, .int x1), (2, .int x2)]) C.1 C.2.1 dX4_greatestRation_1 rfl hl (by decide) rfl (fun ls hl => ?_)
  refine lv_bipush (v := (64 : Int32)) C.1 C.2.1 dX4_greatestRation_2 (by decide) ?_
  refine lv_istore (i := 4) (lv' := [(4, .int (64 : Int32)), (3, .int (0 : Int32)), (0, .ref (n0 + x0)), (1, .int x1), (2, .int x2)]) C.1 C.2.1 dX4_greatestRation_4 hl (by decide) rfl (fun ls hl => ?_)
  exact lX4_greatestRation_6 C _ _ h hF _ _ _ hw (lv_sub hl [2, 3, 4, 1, 0] rfl)
set_option maxRecDepth 100000 in
theorem kX4_greatestRation (l : Launch) (n0 : Nat) (D : va_G) (Y : Nat → ClassId) (N : Nat) (x0 : Nat) (x1 : Int32) (x2 : Int32) (z : Hp) {r : Int32} (h : fX4_greatestRation N x0 x1 x2 z = some r) : Met l yX4_greatestRation wsX4_greatestRation rmX4_greatestRation (PreC n0 D Y z [.ref (n0 + x0), .int x1, .int x2]) (PosI n0 D Y z r) 0 0 (AA n0) := by
  refine Met.ofW (cc := cX4_greatestRation) (maxL := 6) (ret := (some .int)) (by decide) rfl ?_
  intro p e s m args below meth c s₁ B hml hv
  obtain ⟨rfl, hR, hK⟩ := hv
  have C : Cx n0 D Y RX4 cX4_greatestRation (some .int) 6 wsX4_greatestRation "greatestRation" p s m ([.ref (n0 + x0), .int x1, .int x2] : List Value).toArray meth c := ⟨B.exec, B.bytes, B.returns, hml, findClass_of_methodNamed B.named, atoms_spec (ws := wsX4_greatestRation) B.pre, B.notSynchronized, (name_of_methodNamed B.named B.method).1, hK⟩
  have hl := lv_entry ([.ref (n0 + x0), .int x1, .int x2]) (n := 6) (Nat.le_of_ble_eq_true rfl)
  rw [lg_entry_eq]
  generalize (lg_sl ([.ref (n0 + x0), .int x1, .int x2]) ++ List.replicate (6 - (lg_sl ([.ref (n0 + x0), .int x1, .int x2])).length) Slot.unset).toArray = ls at hl ⊢
  have hl : lv_has ls 6 [(0, .ref (n0 + x0)), (1, .int x1), (2, .int x2)] := hl
  exact tX4_greatestRation_0 C h rfl ⟨hR, va_S.rf⟩ hl
theorem in_X5_init_X5 : ∀ w ∈ wsX50, w ∈ wsX5_init := by decide +kernel
abbrev rmX5_init : Room := { frames := 1, cells := 1, slots := 6, locals := 24 }
noncomputable def fX5_init (N : Nat) (x0 : Nat) (z : Hp) : Option (Hp) := bd (zal z 18 6) fun z1 => gd (x0 < zn z1 ∧ zK z1 x0 = 4) <| bd (zsG z1 256 x0 (some (zn z))) fun z4 => some z4
set_option maxHeartbeats 4000000 in
set_option maxRecDepth 100000 in
theorem tX5_init_0 {n0 : Nat} {D : va_G} {Y : Nat → ClassId} {p : Program} {l : Launch} {e : Env} {s : State} {m : MethodId} {args : Array Value} {below : List Frame} {meth : Method} {c : Code} {N : Nat} {fin : Hp} {x0 : Nat}  {z : Hp} (C : Cx n0 D Y RX5 cX5_init none 1 wsX5_init "<init>" p s m args meth c) {x : (Hp)} (h : fX5_init N x0  z = some x) (hF : (fun x => x = fin) x) {H : Heap} {locs : List Loc} {ls : Array Slot} (hw : Wd n0 D Y z s H locs) (hl : lv_has ls 1 [(0, .ref (n0 + x0))]) : W p l e rmX5_init s m args below meth c H locs 0 0 (MQ below (PosV n0 D Y fin) args s 1 6 (AA n0)) (F0 m 0 ls []) := by
  unfold fX5_init at h
  refine lv_aload_n C.1 C.2.1 dX5_init_0 rfl (lv_at hl 0 rfl) ?_
  refine W.objInit C.1 C.2.1 C.2.2.2.2.1 (C.2.2.2.2.2.1 (.methodLink RX5 3 objectInit) (by decide +kernel)) (C.2.2.2.2.2.1 (.instanceMethod objectInit) (by decide +kernel)) (C.2.2.2.2.2.1 _ (List.mem_of_getElem? (i := 3) rfl)) rfl (by rw [C.2.2.2.1]; exact hl.1) rfl dX5_init_1 (Nat.le_of_ble_eq_true rfl) (Nat.le_of_ble_eq_true rfl) ?_
  refine W.eq (g2 := F0 m 4 ls []) rfl ?_
  refine lv_aload_n C.1 C.2.1 dX5_init_4 rfl (lv_at hl 0 rfl) ?_
  refine lv_bipush (v := (6 : Int32)) C.1 C.2.1 dX5_init_5 (by decide) ?_
  obtain ⟨z1, e2, h⟩ := bdE h
  refine r_newq C hw (ki := 18) (t0 := 6) (E := RX9) (by decide) rfl (by decide +kernel) C.2.2.2.2.2.2.2.2.2.1.2.2.2 (N' := 6) (by decide) (by decide) (by decide) (by decide) (by decide) dX5_init_7 (fun H hw => ?_)
  rw [← e2] at hw
  have g3 : (zn z) < zn z1 ∧ zK z1 (zn z) = 18 := by rw [e2]; exact ok_new _ _ _
  obtain ⟨g6, h⟩ := gdE h
  obtain ⟨z4, e5, h⟩ := bdE h
  refine r_putG C hw g6 (by decide) (Cn := RX5) (T := TX5) (N := 2) rfl in_X5_init_X5 tyX5 tyX5_ok nmX5 0 (by decide) (by decide +kernel) (fun _ h => h) (Or.inr ⟨rfl, rfl, rfl⟩) (ty := .array (.object "BreadLaw$Text")) (by decide +kernel) rfl rfl (Nat.le_of_ble_eq_true rfl) (st_4_0 n0 z1 x0 (some (zn z))) e5 dX5_init_10 (fun H locs hw => ?_)
  cases h
  replace hF : _ = fin := hF
  subst hF
  exact r_vret C hw dX5_init_13
set_option maxRecDepth 100000 in
theorem kX5_init (l : Launch) (n0 : Nat) (D : va_G) (Y : Nat → ClassId) (N : Nat) (x0 : Nat) (z : Hp) {z1 : Hp} (h : fX5_init N x0 z = some z1) : Met l yX5_init wsX5_init rmX5_init (PreC n0 D Y z [.ref (n0 + x0)]) (PosV n0 D Y z1) 1 6 (AA n0) := by
  refine Met.ofW (cc := cX5_init) (maxL := 1) (ret := none) (by decide) rfl ?_
  intro p e s m args below meth c s₁ B hml hv
  obtain ⟨rfl, hR, hK⟩ := hv
  have C : Cx n0 D Y RX5 cX5_init none 1 wsX5_init "<init>" p s m ([.ref (n0 + x0)] : List Value).toArray meth c := ⟨B.exec, B.bytes, B.returns, hml, findClass_of_methodNamed B.named, atoms_spec (ws := wsX5_init) B.pre, B.notSynchronized, (name_of_methodNamed B.named B.method).1, hK⟩
  have hl := lv_entry ([.ref (n0 + x0)]) (n := 1) (Nat.le_of_ble_eq_true rfl)
  rw [lg_entry_eq]
  generalize (lg_sl ([.ref (n0 + x0)]) ++ List.replicate (1 - (lg_sl ([.ref (n0 + x0)])).length) Slot.unset).toArray = ls at hl ⊢
  have hl : lv_has ls 1 [(0, .ref (n0 + x0))] := hl
  exact tX5_init_0 C h rfl ⟨hR, va_S.rf⟩ hl
theorem in_X5_isFull_X5 : ∀ w ∈ wsX50, w ∈ wsX5_isFull := by decide +kernel
abbrev rmX5_isFull : Room := { frames := 0, cells := 0, slots := 0, locals := 0 }
noncomputable def fX5_isFull (N : Nat) (x0 : Nat) (z : Hp) : Option (Int32) := gd (x0 < zn z ∧ zK z x0 = 4) <| br ((zF z 257 x0) < (6 : Int32)) (some (0 : Int32)) (some (1 : Int32))
set_option maxHeartbeats 4000000 in
set_option maxRecDepth 100000 in
theorem tX5_isFull_0 {n0 : Nat} {D : va_G} {Y : Nat → ClassId} {p : Program} {l : Launch} {e : Env} {s : State} {m : MethodId} {args : Array Value} {below : List Frame} {meth : Method} {c : Code} {N : Nat} {fin : Int32} {x0 : Nat}  {z : Hp} (C : Cx n0 D Y RX5 cX5_isFull (some .boolean) 1 wsX5_isFull "isFull" p s m args meth c) {x : (Int32)} (h : fX5_isFull N x0  z = some x) (hF : (fun x => x = fin) x) {H : Heap} {locs : List Loc} {ls : Array Slot} (hw : Wd n0 D Y z s H locs) (hl : lv_has ls 1 [(0, .ref (n0 + x0))]) : W p l e rmX5_isFull s m args below meth c H locs 0 0 (MQ below (PosI n0 D Y z fin) args s 0 0 (AA n0)) (F0 m 0 ls []) := by
  unfold fX5_isFull at h
  refine lv_aload_n C.1 C.2.1 dX5_isFull_0 rfl (lv_at hl 0 rfl) ?_
  obtain ⟨g1, h⟩ := gdE h
  refine r_get (v := .int (zF z 257 x0)) C hw g1 (by decide) (Cn := RX5) (T := TX5) (N := 2) rfl in_X5_isFull_X5 1 (by decide) (by decide +kernel) (fun _ h => h) rfl dX5_isFull_1 ?_
  refine lv_bipush (v := (6 : Int32)) C.1 C.2.1 dX5_isFull_4 (by decide) ?_
  refine lv_icmp_lt (tgt := 13) C.1 C.2.1 dX5_isFull_6 (by decide) (fun c2 => ?_) (fun c2 => ?_)
  · replace h := brT h c2
    refine lv_iconst (v := (0 : Int32)) C.1 C.2.1 dX5_isFull_13 (by decide) ?_
    cases h
    replace hF : _ = fin := hF
    subst hF
    exact r_zret C hw (by decide) dX5_isFull_14
  · replace h := brF h c2
    refine lv_iconst (v := (1 : Int32)) C.1 C.2.1 dX5_isFull_9 (by decide) ?_
    refine lv_goto (tgt := 14) C.1 C.2.1 dX5_isFull_10 (by decide) ?_
    cases h
    replace hF : _ = fin := hF
    subst hF
    exact r_zret C hw (by decide) dX5_isFull_14
set_option maxRecDepth 100000 in
theorem kX5_isFull (l : Launch) (n0 : Nat) (D : va_G) (Y : Nat → ClassId) (N : Nat) (x0 : Nat) (z : Hp) {r : Int32} (h : fX5_isFull N x0 z = some r) : Met l yX5_isFull wsX5_isFull rmX5_isFull (PreC n0 D Y z [.ref (n0 + x0)]) (PosI n0 D Y z r) 0 0 (AA n0) := by
  refine Met.ofW (cc := cX5_isFull) (maxL := 1) (ret := (some .boolean)) (by decide) rfl ?_
  intro p e s m args below meth c s₁ B hml hv
  obtain ⟨rfl, hR, hK⟩ := hv
  have C : Cx n0 D Y RX5 cX5_isFull (some .boolean) 1 wsX5_isFull "isFull" p s m ([.ref (n0 + x0)] : List Value).toArray meth c := ⟨B.exec, B.bytes, B.returns, hml, findClass_of_methodNamed B.named, atoms_spec (ws := wsX5_isFull) B.pre, B.notSynchronized, (name_of_methodNamed B.named B.method).1, hK⟩
  have hl := lv_entry ([.ref (n0 + x0)]) (n := 1) (Nat.le_of_ble_eq_true rfl)
  rw [lg_entry_eq]
  generalize (lg_sl ([.ref (n0 + x0)]) ++ List.replicate (1 - (lg_sl ([.ref (n0 + x0)])).length) Slot.unset).toArray = ls at hl ⊢
  have hl : lv_has ls 1 [(0, .ref (n0 + x0))] := hl
  exact tX5_isFull_0 C h rfl ⟨hR, va_S.rf⟩ hl
theorem in_X5_enact_X5 : ∀ w ∈ wsX50, w ∈ wsX5_enact := by decide +kernel
abbrev rmX5_enact : Room := { frames := 1, cells := 0, slots := 0, locals := 20 }
noncomputable def fX5_enact_27 (N : Nat) (x0 : Nat) (z : Hp) : Option (Hp) := some z
set_option maxHeartbeats 4000000 in
set_option maxRecDepth 100000 in
theorem tX5_enact_27 {n0 : Nat} {D : va_G} {Y : Nat → ClassId} {p : Program} {l : Launch} {e : Env} {s : State} {m : MethodId} {args : Array Value} {below : List Frame} {meth : Method} {c : Code} {N : Nat} {fin : Hp} {x0 : Nat}  {z : Hp} (C : Cx n0 D Y RX5 cX5_enact none 2 wsX5_enact "enact" p s m args meth c) {x : (Hp)} (h : fX5_enact_27 N x0  z = some x) (hF : (fun x => x = fin) x) {H : Heap} {locs : List Loc} {ls : Array Slot} (hw : Wd n0 D Y z s H locs) (hl : lv_has ls 2 [(0, .ref (n0 + x0))]) : W p l e rmX5_enact s m args below meth c H locs 0 0 (MQ below (PosV n0 D Y fin) args s 0 0 (AA n0)) (F0 m 27 ls []) := by
  unfold fX5_enact_27 at h
  cases h
  replace hF : _ = fin := hF
  subst hF
  exact r_vret C hw dX5_enact_27
noncomputable def fX5_enact (N : Nat) (x0 : Nat) (x1 : Nat) (z : Hp) : Option (Hp) := gd (x0 < zn z ∧ zK z x0 = 4) <| bo (fX5_isFull N x0 z) fun r2 => br (r2 = 0) (bo (zG z 256 x0) fun b6 => gd (b6 < zn z ∧ zK z b6 = 18) <| gd (¬ ((zF z 257 x0) < 0 ∨ zL z b6 ≤ Int32.toNatClampNeg (zF z 257 x0))) <| gd (x1 < zn z ∧ zK z x1 = 8) <| bd (zsR z b6 (Int32.toNatClampNeg (zF z 257 x0)) (some x1)) fun z10 => bd (zsF z10 257 x0 ((zF z10 257 x0) + (1 : Int32))) fun z13 => fX5_enact_27 N x0 z13) (fX5_enact_27 N x0 z)
set_option maxHeartbeats 4000000 in
set_option maxRecDepth 100000 in
theorem tX5_enact_0 {n0 : Nat} {D : va_G} {Y : Nat → ClassId} {p : Program} {l : Launch} {e : Env} {s : State} {m : MethodId} {args : Array Value} {below : List Frame} {meth : Method} {c : Code} {N : Nat} {fin : Hp} {x0 : Nat} {x1 : Nat}  {z : Hp} (C : Cx n0 D Y RX5 cX5_enact none 2 wsX5_enact "enact" p s m args meth c) {x : (Hp)} (h : fX5_enact N x0 x1  z = some x) (hF : (fun x => x = fin) x) {H : Heap} {locs : List Loc} {ls : Array Slot} (hw : Wd n0 D Y z s H locs) (hl : lv_has ls 2 [(0, .ref (n0 + x0)), (1, .ref (n0 + x1))]) : W p l e rmX5_enact s m args below meth c H locs 0 0 (MQ below (PosV n0 D Y fin) args s 0 0 (AA n0)) (F0 m 0 ls []) := by
  unfold fX5_enact at h
  refine lv_aload_n C.1 C.2.1 dX5_enact_0 rfl (lv_at hl 0 rfl) ?_
  obtain ⟨g3, h⟩ := gdE h
  obtain ⟨r2, e1, h⟩ := boE h
  refine r_afti hw (r_runV (As := []) (rest := []) C hw (ki := 4) g3 (by decide) rfl (kX5_isFull l n0 D Y N x0  z e1) (cwV 0 C.2.2.2.2.2.1 gX5_enact_X5_isFull rfl rfl rfl (by decide +kernel) ⟨(Nat.le_of_ble_eq_true rfl), (Nat.le_of_ble_eq_true rfl)⟩) rfl hl.1 rfl (Nat.le_of_ble_eq_true rfl) dX5_enact_1 ⟨(Nat.le_of_ble_eq_true rfl), (Nat.le_of_ble_eq_true rfl)⟩) (fun H locs hw => ?_)
  refine lv_if_ne (tgt := 27) C.1 C.2.1 dX5_enact_4 (by decide) (fun c4 => ?_) (fun c4 => ?_)
  · replace h := brF h c4
    exact tX5_enact_27 C h hF hw (lv_sub hl [0] rfl)
  · replace h := brT h c4
    refine lv_aload_n C.1 C.2.1 dX5_enact_7 rfl (lv_at hl 0 rfl) ?_
    refine r_get (v := rv n0 (zG z 256 x0)) C hw g3 (by decide) (Cn := RX5) (T := TX5) (N := 2) rfl in_X5_enact_X5 0 (by decide) (by decide +kernel) (fun _ h => h) rfl dX5_enact_8 ?_
    obtain ⟨b6, e5, h⟩ := boE h
    refine r_topr e5 ?_
    refine lv_aload_n C.1 C.2.1 dX5_enact_11 rfl (lv_at hl 0 rfl) ?_
    refine r_get (v := .int (zF z 257 x0)) C hw g3 (by decide) (Cn := RX5) (T := TX5) (N := 2) rfl in_X5_enact_X5 1 (by decide) (by decide +kernel) (fun _ h => h) rfl dX5_enact_12 ?_
    refine lv_aload_n C.1 C.2.1 dX5_enact_15 rfl (lv_at hl 1 rfl) ?_
    obtain ⟨g7, h⟩ := gdE h
    obtain ⟨i8, h⟩ := gdE h
    obtain ⟨g9, h⟩ := gdE h
    obtain ⟨z10, e11, h⟩ := bdE h
    refine r_aast C hw (ki := 18) (kv := 8) (t0 := 6) (E := RX9) g7 (by decide) rfl g9 (by decide) rfl (asg_self C 8 rfl) i8 e11 dX5_enact_16 (fun H locs hw => ?_)
    refine lv_aload_n C.1 C.2.1 dX5_enact_17 rfl (lv_at hl 0 rfl) ?_
    refine lv_dup C.1 C.2.1 dX5_enact_18 rfl ?_
    have g12 : x0 < zn z10 ∧ zK z10 x0 = 4 := by rw [e11]; exact g3
    refine r_get (v := .int (zF z10 257 x0)) C hw g12 (by decide) (Cn := RX5) (T := TX5) (N := 2) rfl in_X5_enact_X5 1 (by decide) (by decide +kernel) (fun _ h => h) rfl dX5_enact_19 ?_
    refine lv_iconst (v := (1 : Int32)) C.1 C.2.1 dX5_enact_22 (by decide) ?_
    refine lv_iadd C.1 C.2.1 dX5_enact_23 ?_
    obtain ⟨z13, e14, h⟩ := bdE h
    refine r_putI C hw g12 (by decide) (Cn := RX5) (T := TX5) (N := 2) rfl in_X5_enact_X5 tyX5 tyX5_ok nmX5 1 (by decide) (by decide +kernel) (fun _ h => h) (Or.inl rfl) (ty := .int) (by decide +kernel) rfl rfl (Nat.le_of_ble_eq_true rfl) (st_4_1 n0 z10 x0 ((zF z10 257 x0) + (1 : Int32))) e14 dX5_enact_24 (fun H locs hw => ?_)
    exact tX5_enact_27 C h hF hw (lv_sub hl [0] rfl)
set_option maxRecDepth 100000 in
theorem kX5_enact (l : Launch) (n0 : Nat) (D : va_G) (Y : Nat → ClassId) (N : Nat) (x0 : Nat) (x1 : Nat) (z : Hp) {z1 : Hp} (h : fX5_enact N x0 x1 z = some z1) : Met l yX5_enact wsX5_enact rmX5_enact (PreC n0 D Y z [.ref (n0 + x0), .ref (n0 + x1)]) (PosV n0 D Y z1) 0 0 (AA n0) := by
  refine Met.ofW (cc := cX5_enact) (maxL := 2) (ret := none) (by decide) rfl ?_
  intro p e s m args below meth c s₁ B hml hv
  obtain ⟨rfl, hR, hK⟩ := hv
  have C : Cx n0 D Y RX5 cX5_enact none 2 wsX5_enact "enact" p s m ([.ref (n0 + x0), .ref (n0 + x1)] : List Value).toArray meth c := ⟨B.exec, B.bytes, B.returns, hml, findClass_of_methodNamed B.named, atoms_spec (ws := wsX5_enact) B.pre, B.notSynchronized, (name_of_methodNamed B.named B.method).1, hK⟩
  have hl := lv_entry ([.ref (n0 + x0), .ref (n0 + x1)]) (n := 2) (Nat.le_of_ble_eq_true rfl)
  rw [lg_entry_eq]
  generalize (lg_sl ([.ref (n0 + x0), .ref (n0 + x1)]) ++ List.replicate (2 - (lg_sl ([.ref (n0 + x0), .ref (n0 + x1)])).length) Slot.unset).toArray = ls at hl ⊢
  have hl : lv_has ls 2 [(0, .ref (n0 + x0)), (1, .ref (n0 + x1))] := hl
  exact tX5_enact_0 C h rfl ⟨hR, va_S.rf⟩ hl
theorem in_X5_textAt_X5 : ∀ w ∈ wsX50, w ∈ wsX5_textAt := by decide +kernel
abbrev rmX5_textAt : Room := { frames := 0, cells := 0, slots := 0, locals := 0 }
noncomputable def fX5_textAt_12 (N : Nat) (x0 : Nat) (z : Hp) : Option (Option Nat) := some (none : Option Nat)
set_option maxHeartbeats 4000000 in
set_option maxRecDepth 100000 in
theorem tX5_textAt_12 {n0 : Nat} {D : va_G} {Y : Nat → ClassId} {p : Program} {l : Launch} {e : Env} {s : State} {m : MethodId} {args : Array Value} {below : List Frame} {meth : Method} {c : Code} {N : Nat} {fin : Option Nat} {x0 : Nat}  {z : Hp} (C : Cx n0 D Y RX5 cX5_textAt (some (.object "BreadLaw$Text")) 2 wsX5_textAt "textAt" p s m args meth c) {x : (Option Nat)} (h : fX5_textAt_12 N x0  z = some x) (hF : (fun x => x = fin) x) {H : Heap} {locs : List Loc} {ls : Array Slot} (hw : Wd n0 D Y z s H locs) (hl : lv_has ls 2 [(0, .ref (n0 + x0))]) : W p l e rmX5_textAt s m args below meth c H locs 0 0 (MQ below (PosQ n0 D Y z fin) args s 0 0 (AA n0)) (F0 m 12 ls []) := by
  unfold fX5_textAt_12 at h
  refine lv_null C.1 C.2.1 dX5_textAt_12 ?_
  refine lv_goto (tgt := 22) C.1 C.2.1 dX5_textAt_13 (by decide) ?_
  cases h
  replace hF : _ = fin := hF
  subst hF
  exact r_aret (r := (none : Option Nat)) C hw dX5_textAt_22
noncomputable def fX5_textAt (N : Nat) (x0 : Nat) (x1 : Int32) (z : Hp) : Option (Option Nat) := br (x1 < 0) (fX5_textAt_12 N x0 z) (gd (x0 < zn z ∧ zK z x0 = 4) <| br (x1 < (zF z 257 x0)) (bo (zG z 256 x0) fun b5 => gd (b5 < zn z ∧ zK z b5 = 18) <| gd (¬ (x1 < 0 ∨ zL z b5 ≤ (x1).toNatClampNeg)) <| bd (zR z b5 (x1).toNatClampNeg) fun q8 => some q8) (fX5_textAt_12 N x0 z))
set_option maxHeartbeats 4000000 in
set_option maxRecDepth 100000 in
theorem tX5_textAt_0 {n0 : Nat} {D : va_G} {Y : Nat → ClassId} {p : Program} {l : Launch} {e : Env} {s : State} {m : MethodId} {args : Array Value} {below : List Frame} {meth : Method} {c : Code} {N : Nat} {fin : Option Nat} {x0 : Nat} {x1 : Int32}  {z : Hp} (C : Cx n0 D Y RX5 cX5_textAt (some (.object "BreadLaw$Text")) 2 wsX5_textAt "textAt" p s m args meth c) {x : (Option Nat)} (h : fX5_textAt N x0 x1  z = some x) (hF : (fun x => x = fin) x) {H : Heap} {locs : List Loc} {ls : Array Slot} (hw : Wd n0 D Y z s H locs) (hl : lv_has ls 2 [(0, .ref (n0 + x0)), (1, .int x1)]) : W p l e rmX5_textAt s m args below meth c H locs 0 0 (MQ below (PosQ n0 D Y z fin) args s 0 0 (AA n0)) (F0 m 0 ls []) := by
  unfold fX5_textAt at h
  refine lv_iload_n C.1 C.2.1 dX5_textAt_0 rfl (lv_at hl 1 rfl) ?_
  refine lv_if_lt (tgt := 12) C.1 C.2.1 dX5_textAt_1 (by decide) (fun c1 => ?_) (fun c1 => ?_)
  · replace h := brT h c1
    exact tX5_textAt_12 C h hF hw (lv_sub hl [0] rfl)
  · replace h := brF h c1
    refine lv_iload_n C.1 C.2.1 dX5_textAt_4 rfl (lv_at hl 1 rfl) ?_
    refine lv_aload_n C.1 C.2.1 dX5_textAt_5 rfl (lv_at hl 0 rfl) ?_
    obtain ⟨g2, h⟩ := gdE h
    refine r_get (v := .int (zF z 257 x0)) C hw g2 (by decide) (Cn := RX5) (T := TX5) (N := 2) rfl in_X5_textAt_X5 1 (by decide) (by decide +kernel) (fun _ h => h) rfl dX5_textAt_6 ?_
    refine lv_icmp_lt (tgt := 16) C.1 C.2.1 dX5_textAt_9 (by decide) (fun c3 => ?_) (fun c3 => ?_)
    · replace h := brT h c3
      refine lv_aload_n C.1 C.2.1 dX5_textAt_16 rfl (lv_at hl 0 rfl) ?_
      refine r_get (v := rv n0 (zG z 256 x0)) C hw g2 (by decide) (Cn := RX5) (T := TX5) (N := 2) rfl in_X5_textAt_X5 0 (by decide) (by decide +kernel) (fun _ h => h) rfl dX5_textAt_17 ?_
      obtain ⟨b5, e4, h⟩ := boE h
      refine r_topr e4 ?_
      refine lv_iload_n C.1 C.2.1 dX5_textAt_20 rfl (lv_at hl 1 rfl) ?_
      obtain ⟨g6, h⟩ := gdE h
      obtain ⟨i7, h⟩ := gdE h
      refine r_aald C hw (ki := 18) (t0 := 6) (E := RX9) g6 (by decide) rfl i7 dX5_textAt_21 ?_
      obtain ⟨q8, e9, h⟩ := bdE h
      refine r_topq e9 ?_
      cases h
      replace hF : _ = fin := hF
      subst hF
      exact r_aret C hw dX5_textAt_22
    · replace h := brF h c3
      exact tX5_textAt_12 C h hF hw (lv_sub hl [0] rfl)
set_option maxRecDepth 100000 in
theorem kX5_textAt (l : Launch) (n0 : Nat) (D : va_G) (Y : Nat → ClassId) (N : Nat) (x0 : Nat) (x1 : Int32) (z : Hp) {r : Option Nat} (h : fX5_textAt N x0 x1 z = some r) : Met l yX5_textAt wsX5_textAt rmX5_textAt (PreC n0 D Y z [.ref (n0 + x0), .int x1]) (PosQ n0 D Y z r) 0 0 (AA n0) := by
  refine Met.ofW (cc := cX5_textAt) (maxL := 2) (ret := (some (.object "BreadLaw$Text"))) (by decide) rfl ?_
  intro p e s m args below meth c s₁ B hml hv
  obtain ⟨rfl, hR, hK⟩ := hv
  have C : Cx n0 D Y RX5 cX5_textAt (some (.object "BreadLaw$Text")) 2 wsX5_textAt "textAt" p s m ([.ref (n0 + x0), .int x1] : List Value).toArray meth c := ⟨B.exec, B.bytes, B.returns, hml, findClass_of_methodNamed B.named, atoms_spec (ws := wsX5_textAt) B.pre, B.notSynchronized, (name_of_methodNamed B.named B.method).1, hK⟩
  have hl := lv_entry ([.ref (n0 + x0), .int x1]) (n := 2) (Nat.le_of_ble_eq_true rfl)
  rw [lg_entry_eq]
  generalize (lg_sl ([.ref (n0 + x0), .int x1]) ++ List.replicate (2 - (lg_sl ([.ref (n0 + x0), .int x1])).length) Slot.unset).toArray = ls at hl ⊢
  have hl : lv_has ls 2 [(0, .ref (n0 + x0)), (1, .int x1)] := hl
  exact tX5_textAt_0 C h rfl ⟨hR, va_S.rf⟩ hl
theorem in_X5_ruling_X5 : ∀ w ∈ wsX50, w ∈ wsX5_ruling := by decide +kernel
theorem in_X5_ruling_X9 : ∀ w ∈ wsX90, w ∈ wsX5_ruling := by decide +kernel
abbrev rmX5_ruling : Room := { frames := 0, cells := 0, slots := 0, locals := 0 }
noncomputable def fX5_ruling_53 (N : Nat) (x0 : Nat) (x1 : Int32) (x2 : Option Nat) (x3 : Int32) (z : Hp) : Option (((Option Nat) × Int32) ⊕ (Option Nat)) := bd (x3 + (1 : Int32)) fun v1 => some (.inl (x2, v1))
set_option maxHeartbeats 4000000 in
set_option maxRecDepth 100000 in
theorem tX5_ruling_53 {n0 : Nat} {D : va_G} {Y : Nat → ClassId} {p : Program} {l : Launch} {e : Env} {s : State} {m : MethodId} {args : Array Value} {below : List Frame} {meth : Method} {c : Code} {N : Nat} {fin : Option Nat} {x0 : Nat} {x1 : Int32} {x2 : Option Nat} {x3 : Int32}  {z : Hp} (C : Cx n0 D Y RX5 cX5_ruling (some (.object "BreadLaw$Text")) 5 wsX5_ruling "ruling" p s m args meth c) {P4 : (Option Nat) × Int32 → Prop} (hP4 : ∀ u, P4 u → ∀ (H : Heap) (locs : List Loc) (ls : Array Slot), Wd n0 D Y z s H locs → lv_has ls 5 [(0, .ref (n0 + x0)), (1, .int x1), (2, rv n0 u.1), (3, .int u.2)] → W p l e rmX5_ruling s m args below meth c H locs 0 0 (MQ below (PosQ n0 D Y z fin) args s 0 0 (AA n0)) (F0 m 4 ls [])) {x : (((Option Nat) × Int32) ⊕ (Option Nat))} (h : fX5_ruling_53 N x0 x1 x2 x3  z = some x) (hF : (Fn P4 (fun x => x = fin)) x) {H : Heap} {locs : List Loc} {ls : Array Slot} (hw : Wd n0 D Y z s H locs) (hl : lv_has ls 5 [(0, .ref (n0 + x0)), (1, .int x1), (2, rv n0 x2), (3, .int x3)]) : W p l e rmX5_ruling s m args below meth c H locs 0 0 (MQ below (PosQ n0 D Y z fin) args s 0 0 (AA n0)) (F0 m 53 ls []) := by
  unfold fX5_ruling_53 at h
  obtain ⟨v1, e2, h⟩ := bdE h
  refine lv_iinc (v := v1) (lv' := [(3, .int v1), (0, .ref (n0 + x0)), (1, .int x1), (2, rv n0 x2)]) C.1 C.2.1 dX5_ruling_53 hl (k := 3) rfl (by rw [e2]; rfl) (by decide) (by simp [List.filter, rv_cat]) (fun ls hl => ?_)
  refine lv_goto (tgt := 4) C.1 C.2.1 dX5_ruling_56 (by decide) ?_
  cases h
  exact hP4 _ hF _ _ _ hw (lv_sub hl [1, 2, 3, 0] rfl)
noncomputable def fX5_ruling_50 (N : Nat) (x0 : Nat) (x1 : Int32) (x3 : Int32) (x4 : Nat) (z : Hp) : Option (((Option Nat) × Int32) ⊕ (Option Nat)) := fX5_ruling_53 N x0 x1 (some x4) x3 z
set_option maxHeartbeats 4000000 in
set_option maxRecDepth 100000 in
theorem tX5_ruling_50 {n0 : Nat} {D : va_G} {Y : Nat → ClassId} {p : Program} {l : Launch} {e : Env} {s : State} {m : MethodId} {args : Array Value} {below : List Frame} {meth : Method} {c : Code} {N : Nat} {fin : Option Nat} {x0 : Nat} {x1 : Int32} {x3 : Int32} {x4 : Nat}  {z : Hp} (C : Cx n0 D Y RX5 cX5_ruling (some (.object "BreadLaw$Text")) 5 wsX5_ruling "ruling" p s m args meth c) {P4 : (Option Nat) × Int32 → Prop} (hP4 : ∀ u, P4 u → ∀ (H : Heap) (locs : List Loc) (ls : Array Slot), Wd n0 D Y z s H locs → lv_has ls 5 [(0, .ref (n0 + x0)), (1, .int x1), (2, rv n0 u.1), (3, .int u.2)] → W p l e rmX5_ruling s m args below meth c H locs 0 0 (MQ below (PosQ n0 D Y z fin) args s 0 0 (AA n0)) (F0 m 4 ls [])) {x : (((Option Nat) × Int32) ⊕ (Option Nat))} (h : fX5_ruling_50 N x0 x1 x3 x4  z = some x) (hF : (Fn P4 (fun x => x = fin)) x) {H : Heap} {locs : List Loc} {ls : Array Slot} (hw : Wd n0 D Y z s H locs) (hl : lv_has ls 5 [(0, .ref (n0 + x0)), (1, .int x1), (3, .int x3), (4, .ref (n0 + x4))]) : W p l e rmX5_ruling s m args below meth c H locs 0 0 (MQ below (PosQ n0 D Y z fin) args s 0 0 (AA n0)) (F0 m 50 ls []) := by
  unfold fX5_ruling_50 at h
  refine lv_aload C.1 C.2.1 dX5_ruling_50 (lv_at hl 3 rfl) ?_
  refine lv_astore_n (i := 2) (lv' := [(2, .ref (n0 + x4)), (0, .ref (n0 + x0)), (1, .int x1), (3, .int x3), (4, .ref (n0 + x4))]) C.1 C.2.1 dX5_ruling_52 rfl hl (by decide) rfl (fun ls hl => ?_)
  exact tX5_ruling_53 C hP4 h hF hw (lv_sub hl [1, 2, 0, 3] rfl)
noncomputable def fX5_ruling_4 (N : Nat) (x0 : Nat) (x1 : Int32) (x2 : Option Nat) (x3 : Int32) (z : Hp) : Option (((Option Nat) × Int32) ⊕ (Option Nat)) := gd (x0 < zn z ∧ zK z x0 = 4) <| br ((zF z 257 x0) ≤ x3) (lf <| some x2) (bo (zG z 256 x0) fun b5 => gd (b5 < zn z ∧ zK z b5 = 18) <| gd (¬ (x3 < 0 ∨ zL z b5 ≤ (x3).toNatClampNeg)) <| bd (zR z b5 (x3).toNatClampNeg) fun q8 => cs q8 (fX5_ruling_53 N x0 x1 x2 x3 z) (fun b10 => gd (b10 < zn z ∧ zK z b10 = 8) <| br (x1 < (zF z 513 b10)) (fX5_ruling_53 N x0 x1 x2 x3 z) (cs x2 (fX5_ruling_50 N x0 x1 x3 b10 z) (fun b14 => gd (b14 < zn z ∧ zK z b14 = 8) <| br ((zF z 513 b10) < (zF z 513 b14)) (fX5_ruling_53 N x0 x1 (some b14) x3 z) (fX5_ruling_50 N x0 x1 x3 b10 z)))))
set_option maxHeartbeats 4000000 in
set_option maxRecDepth 100000 in
theorem tX5_ruling_4 {n0 : Nat} {D : va_G} {Y : Nat → ClassId} {p : Program} {l : Launch} {e : Env} {s : State} {m : MethodId} {args : Array Value} {below : List Frame} {meth : Method} {c : Code} {N : Nat} {fin : Option Nat} {x0 : Nat} {x1 : Int32} {x2 : Option Nat} {x3 : Int32}  {z : Hp} (C : Cx n0 D Y RX5 cX5_ruling (some (.object "BreadLaw$Text")) 5 wsX5_ruling "ruling" p s m args meth c) {P4 : (Option Nat) × Int32 → Prop} (hP4 : ∀ u, P4 u → ∀ (H : Heap) (locs : List Loc) (ls : Array Slot), Wd n0 D Y z s H locs → lv_has ls 5 [(0, .ref (n0 + x0)), (1, .int x1), (2, rv n0 u.1), (3, .int u.2)] → W p l e rmX5_ruling s m args below meth c H locs 0 0 (MQ below (PosQ n0 D Y z fin) args s 0 0 (AA n0)) (F0 m 4 ls [])) {x : (((Option Nat) × Int32) ⊕ (Option Nat))} (h : fX5_ruling_4 N x0 x1 x2 x3  z = some x) (hF : (Fn P4 (fun x => x = fin)) x) {H : Heap} {locs : List Loc} {ls : Array Slot} (hw : Wd n0 D Y z s H locs) (hl : lv_has ls 5 [(0, .ref (n0 + x0)), (1, .int x1), (2, rv n0 x2), (3, .int x3)]) : W p l e rmX5_ruling s m args below meth c H locs 0 0 (MQ below (PosQ n0 D Y z fin) args s 0 0 (AA n0)) (F0 m 4 ls []) := by
  unfold fX5_ruling_4 at h
  refine lv_iload_n C.1 C.2.1 dX5_ruling_4 rfl (lv_at hl 3 rfl) ?_
  refine lv_aload_n C.1 C.2.1 dX5_ruling_5 rfl (lv_at hl 0 rfl) ?_
  obtain ⟨g1, h⟩ := gdE h
  refine r_get (v := .int (zF z 257 x0)) C hw g1 (by decide) (Cn := RX5) (T := TX5) (N := 2) rfl in_X5_ruling_X5 1 (by decide) (by decide +kernel) (fun _ h => h) rfl dX5_ruling_6 ?_
  refine lv_icmp_ge (tgt := 59) C.1 C.2.1 dX5_ruling_9 (by decide) (fun c2 => ?_) (fun c2 => ?_)
  · replace h := brT h c2
    obtain ⟨y3, h, hF⟩ := lfX h hF
    refine r_aload_n (r := x2) C dX5_ruling_59 rfl (lv_at hl 2 rfl) ?_
    cases h
    replace hF : _ = fin := hF
    subst hF
    exact r_aret C hw dX5_ruling_60
  · replace h := brF h c2
    refine lv_aload_n C.1 C.2.1 dX5_ruling_12 rfl (lv_at hl 0 rfl) ?_
    refine r_get (v := rv n0 (zG z 256 x0)) C hw g1 (by decide) (Cn := RX5) (T := TX5) (N := 2) rfl in_X5_ruling_X5 0 (by decide) (by decide +kernel) (fun _ h => h) rfl dX5_ruling_13 ?_
    obtain ⟨b5, e4, h⟩ := boE h
    refine r_topr e4 ?_
    refine lv_iload_n C.1 C.2.1 dX5_ruling_16 rfl (lv_at hl 3 rfl) ?_
    obtain ⟨g6, h⟩ := gdE h
    obtain ⟨i7, h⟩ := gdE h
    refine r_aald C hw (ki := 18) (t0 := 6) (E := RX9) g6 (by decide) rfl i7 dX5_ruling_17 ?_
    obtain ⟨q8, e9, h⟩ := bdE h
    refine r_topq e9 ?_
    refine r_astore (i := 4) (r := q8) (lv' := [(4, rv n0 q8), (0, .ref (n0 + x0)), (1, .int x1), (2, rv n0 x2), (3, .int x3)]) C dX5_ruling_18 hl (by decide) rfl (fun ls hl => ?_)
    refine r_aload (r := q8) C dX5_ruling_20 (lv_at hl 0 rfl) ?_
    refine r_ifnull (tgt := 53) C dX5_ruling_22 (by decide) (fun c11 => ?_) (fun b10 c11 => ?_)
    · subst c11
      replace h := csN h
      exact tX5_ruling_53 C hP4 h hF hw (lv_sub hl [1, 2, 3, 4] rfl)
    · subst c11
      replace h := csS h
      refine lv_aload C.1 C.2.1 dX5_ruling_25 (lv_at hl 0 rfl) ?_
      obtain ⟨g12, h⟩ := gdE h
      refine r_get (v := .int (zF z 513 b10)) C hw g12 (by decide) (Cn := RX9) (T := TX9) (N := 7) rfl in_X5_ruling_X9 1 (by decide) (by decide +kernel) (fun _ h => h) rfl dX5_ruling_27 ?_
      refine lv_iload_n C.1 C.2.1 dX5_ruling_30 rfl (lv_at hl 2 rfl) ?_
      refine lv_icmp_gt (tgt := 53) C.1 C.2.1 dX5_ruling_31 (by decide) (fun c13 => ?_) (fun c13 => ?_)
      · replace h := brT h c13
        exact tX5_ruling_53 C hP4 h hF hw (lv_sub hl [1, 2, 3, 4] rfl)
      · replace h := brF h c13
        refine r_aload_n (r := x2) C dX5_ruling_34 rfl (lv_at hl 3 rfl) ?_
        refine r_ifnull (tgt := 50) C dX5_ruling_35 (by decide) (fun c15 => ?_) (fun b14 c15 => ?_)
        · subst c15
          replace h := csN h
          exact tX5_ruling_50 C hP4 h hF hw (lv_sub hl [1, 2, 4, 0] rfl)
        · subst c15
          replace h := csS h
          refine lv_aload C.1 C.2.1 dX5_ruling_38 (lv_at hl 0 rfl) ?_
          refine r_get (v := .int (zF z 513 b10)) C hw g12 (by decide) (Cn := RX9) (T := TX9) (N := 7) rfl in_X5_ruling_X9 1 (by decide) (by decide +kernel) (fun _ h => h) rfl dX5_ruling_40 ?_
          refine lv_aload_n C.1 C.2.1 dX5_ruling_43 rfl (lv_at hl 3 rfl) ?_
          obtain ⟨g16, h⟩ := gdE h
          refine r_get (v := .int (zF z 513 b14)) C hw g16 (by decide) (Cn := RX9) (T := TX9) (N := 7) rfl in_X5_ruling_X9 1 (by decide) (by decide +kernel) (fun _ h => h) rfl dX5_ruling_44 ?_
          refine lv_icmp_lt (tgt := 53) C.1 C.2.1 dX5_ruling_47 (by decide) (fun c17 => ?_) (fun c17 => ?_)
          · replace h := brT h c17
            exact tX5_ruling_53 C hP4 h hF hw (lv_sub hl [1, 2, 3, 4] rfl)
          · replace h := brF h c17
            exact tX5_ruling_50 C hP4 h hF hw (lv_sub hl [1, 2, 4, 0] rfl)
set_option maxHeartbeats 4000000 in
set_option maxRecDepth 100000 in
theorem lX5_ruling_4 {n0 : Nat} {D : va_G} {Y : Nat → ClassId} {p : Program} {l : Launch} {e : Env} {s : State} {m : MethodId} {args : Array Value} {below : List Frame} {meth : Method} {c : Code} {N : Nat} {fin : Option Nat} {x0 : Nat} {x1 : Int32} {z : Hp} (C : Cx n0 D Y RX5 cX5_ruling (some (.object "BreadLaw$Text")) 5 wsX5_ruling "ruling" p s m args meth c) {x : (Option Nat)} : ∀ (n : Nat) (u : (Option Nat) × Int32), wh (fun (u : (Option Nat) × Int32) => fX5_ruling_4 N x0 x1 u.1 u.2 z) n u = some x → (fun x => x = fin) x → ∀ (H : Heap) (locs : List Loc) (ls : Array Slot), Wd n0 D Y z s H locs → lv_has ls 5 [(0, .ref (n0 + x0)), (1, .int x1), (2, rv n0 u.1), (3, .int u.2)] → W p l e rmX5_ruling s m args below meth c H locs 0 0 (MQ below (PosQ n0 D Y z fin) args s 0 0 (AA n0)) (F0 m 4 ls []) := fun n u h g => wh_ind (P := fun u => ∀ (H : Heap) (locs : List Loc) (ls : Array Slot), Wd n0 D Y z s H locs → lv_has ls 5 [(0, .ref (n0 + x0)), (1, .int x1), (2, rv n0 u.1), (3, .int u.2)] → W p l e rmX5_ruling s m args below meth c H locs 0 0 (MQ below (PosQ n0 D Y z fin) args s 0 0 (AA n0)) (F0 m 4 ls [])) (G := (fun x => x = fin)) (fun u x h hF H locs ls hw hl => tX5_ruling_4 C (P4 := fun u => ∀ (H : Heap) (locs : List Loc) (ls : Array Slot), Wd n0 D Y z s H locs → lv_has ls 5 [(0, .ref (n0 + x0)), (1, .int x1), (2, rv n0 u.1), (3, .int u.2)] → W p l e rmX5_ruling s m args below meth c H locs 0 0 (MQ below (PosQ n0 D Y z fin) args s 0 0 (AA n0)) (F0 m 4 ls [])) (fun _ h => h) h hF hw hl) n u x h g
noncomputable def fX5_ruling (N : Nat) (x0 : Nat) (x1 : Int32) (z : Hp) : Option (Option Nat) := wh (fun (u : (Option Nat) × Int32) => fX5_ruling_4 N x0 x1 u.1 u.2 z) N ((none : Option Nat), (0 : Int32))
set_option maxHeartbeats 4000000 in
set_option maxRecDepth 100000 in
theorem tX5_ruling_0 {n0 : Nat} {D : va_G} {Y : Nat → ClassId} {p : Program} {l : Launch} {e : Env} {s : State} {m : MethodId} {args : Array Value} {below : List Frame} {meth : Method} {c : Code} {N : Nat} {fin : Option Nat} {x0 : Nat} {x1 : Int32}  {z : Hp} (C : Cx n0 D Y RX5 cX5_ruling (some (.object "BreadLaw$Text")) 5 wsX5_ruling "ruling" p s m args meth c) {x : (Option Nat)} (h : fX5_ruling N x0 x1  z = some x) (hF : (fun x => x = fin) x) {H : Heap} {locs : List Loc} {ls : Array Slot} (hw : Wd n0 D Y z s H locs) (hl : lv_has ls 5 [(0, .ref (n0 + x0)), (1, .int x1)]) : W p l e rmX5_ruling s m args below meth c H locs 0 0 (MQ below (PosQ n0 D Y z fin) args s 0 0 (AA n0)) (F0 m 0 ls []) := by
  unfold fX5_ruling at h
  refine lv_null C.1 C.2.1 dX5_ruling_0 ?_
  refine r_astore_n (i := 2) (r := (none : Option Nat)) (lv' := [(2, rv n0 (none : Option Nat)), (0, .ref (n0 + x0)), (1, .int x1)]) C dX5_ruling_1 rfl hl (by decide) rfl (fun ls hl => ?_)
  refine lv_iconst (v := (0 : Int32)) C.1 C.2.1 dX5_ruling_2 (by decide) ?_
  refine lv_istore_n (i := 3) (lv' := [(3, .int (0 : Int32)), (2, rv n0 (none : Option Nat)), (0, .ref (n0 + x0)), (1, .int x1)]) C.1 C.2.1 dX5_ruling_3 rfl hl (by decide) rfl (fun ls hl => ?_)
  exact lX5_ruling_4 C _ _ h hF _ _ _ hw (lv_sub hl [2, 3, 1, 0] rfl)
set_option maxRecDepth 100000 in
theorem kX5_ruling (l : Launch) (n0 : Nat) (D : va_G) (Y : Nat → ClassId) (N : Nat) (x0 : Nat) (x1 : Int32) (z : Hp) {r : Option Nat} (h : fX5_ruling N x0 x1 z = some r) : Met l yX5_ruling wsX5_ruling rmX5_ruling (PreC n0 D Y z [.ref (n0 + x0), .int x1]) (PosQ n0 D Y z r) 0 0 (AA n0) := by
  refine Met.ofW (cc := cX5_ruling) (maxL := 5) (ret := (some (.object "BreadLaw$Text"))) (by decide) rfl ?_
  intro p e s m args below meth c s₁ B hml hv
  obtain ⟨rfl, hR, hK⟩ := hv
  have C : Cx n0 D Y RX5 cX5_ruling (some (.object "BreadLaw$Text")) 5 wsX5_ruling "ruling" p s m ([.ref (n0 + x0), .int x1] : List Value).toArray meth c := ⟨B.exec, B.bytes, B.returns, hml, findClass_of_methodNamed B.named, atoms_spec (ws := wsX5_ruling) B.pre, B.notSynchronized, (name_of_methodNamed B.named B.method).1, hK⟩
  have hl := lv_entry ([.ref (n0 + x0), .int x1]) (n := 5) (Nat.le_of_ble_eq_true rfl)
  rw [lg_entry_eq]
  generalize (lg_sl ([.ref (n0 + x0), .int x1]) ++ List.replicate (5 - (lg_sl ([.ref (n0 + x0), .int x1])).length) Slot.unset).toArray = ls at hl ⊢
  have hl : lv_has ls 5 [(0, .ref (n0 + x0)), (1, .int x1)] := hl
  exact tX5_ruling_0 C h rfl ⟨hR, va_S.rf⟩ hl
theorem in_X6_init_X6 : ∀ w ∈ wsX60, w ∈ wsX6_init := by decide +kernel
abbrev rmX6_init : Room := { frames := 2, cells := 0, slots := 0, locals := 48 }
noncomputable def fX6_init (N : Nat) (x0 : Nat) (x1 : Int32) (x2 : Int32) (x3 : Int32) (x4 : Int32) (x5 : Int32) (z : Hp) : Option (Hp) := bo (fX3_init N x0 (1 : Int32) x1 x2 x3 z) fun z2 => gd (x0 < zn z2 ∧ zK z2 x0 = 5) <| bd (zsF z2 324 x0 x4) fun z3 => bd (zsF z3 325 x0 x5) fun z6 => some z6
set_option maxHeartbeats 4000000 in
set_option maxRecDepth 100000 in
theorem tX6_init_0 {n0 : Nat} {D : va_G} {Y : Nat → ClassId} {p : Program} {l : Launch} {e : Env} {s : State} {m : MethodId} {args : Array Value} {below : List Frame} {meth : Method} {c : Code} {N : Nat} {fin : Hp} {x0 : Nat} {x1 : Int32} {x2 : Int32} {x3 : Int32} {x4 : Int32} {x5 : Int32}  {z : Hp} (C : Cx n0 D Y RX6 cX6_init none 6 wsX6_init "<init>" p s m args meth c) {x : (Hp)} (h : fX6_init N x0 x1 x2 x3 x4 x5  z = some x) (hF : (fun x => x = fin) x) {H : Heap} {locs : List Loc} {ls : Array Slot} (hw : Wd n0 D Y z s H locs) (hl : lv_has ls 6 [(0, .ref (n0 + x0)), (1, .int x1), (2, .int x2), (3, .int x3), (4, .int x4), (5, .int x5)]) : W p l e rmX6_init s m args below meth c H locs 0 0 (MQ below (PosV n0 D Y fin) args s 0 0 (AA n0)) (F0 m 0 ls []) := by
  unfold fX6_init at h
  refine lv_aload_n C.1 C.2.1 dX6_init_0 rfl (lv_at hl 0 rfl) ?_
  refine lv_iconst (v := (1 : Int32)) C.1 C.2.1 dX6_init_1 (by decide) ?_
  refine lv_iload_n C.1 C.2.1 dX6_init_2 rfl (lv_at hl 1 rfl) ?_
  refine lv_iload_n C.1 C.2.1 dX6_init_3 rfl (lv_at hl 2 rfl) ?_
  refine lv_iload_n C.1 C.2.1 dX6_init_4 rfl (lv_at hl 3 rfl) ?_
  obtain ⟨z2, e1, h⟩ := boE h
  refine r_aftv hw (r_runI (As := [.int (1 : Int32), .int x1, .int x2, .int x3]) (rest := []) C hw (kX3_init l n0 D Y N x0 (1 : Int32) x1 x2 x3 z e1) (cwI 4 C.2.2.2.2.2.1 gX6_init_X3_init rfl rfl rfl (C.2.2.2.2.2.1 (.initialized RX3) (by decide +kernel)) (C.2.2.2.2.2.1 (.methodLink RX6 3 yX3_init) (by decide +kernel)) (C.2.2.2.2.2.1 (.instanceMethod yX3_init) (by decide +kernel)) rfl (by decide +kernel) ⟨(Nat.le_of_ble_eq_true rfl), (Nat.le_of_ble_eq_true rfl)⟩) rfl hl.1 rfl (Nat.le_of_ble_eq_true rfl) dX6_init_5 ⟨(Nat.le_of_ble_eq_true rfl), (Nat.le_of_ble_eq_true rfl)⟩) (fun H locs hw => ?_)
  refine lv_aload_n C.1 C.2.1 dX6_init_8 rfl (lv_at hl 0 rfl) ?_
  refine lv_iload C.1 C.2.1 dX6_init_9 (lv_at hl 4 rfl) ?_
  obtain ⟨g5, h⟩ := gdE h
  obtain ⟨z3, e4, h⟩ := bdE h
  refine r_putI C hw g5 (by decide) (Cn := RX6) (T := TX6) (N := 8) rfl in_X6_init_X6 tyX6 tyX6_ok nmX6 4 (by decide) (by decide +kernel) (fun _ h => h) (Or.inr ⟨rfl, rfl, rfl⟩) (ty := .int) (by decide +kernel) rfl rfl (Nat.le_of_ble_eq_true rfl) (st_5_4 n0 z2 x0 x4) e4 dX6_init_11 (fun H locs hw => ?_)
  refine lv_aload_n C.1 C.2.1 dX6_init_14 rfl (lv_at hl 0 rfl) ?_
  refine lv_iload C.1 C.2.1 dX6_init_15 (lv_at hl 5 rfl) ?_
  have g8 : x0 < zn z3 ∧ zK z3 x0 = 5 := by rw [e4]; exact g5
  obtain ⟨z6, e7, h⟩ := bdE h
  refine r_putI C hw g8 (by decide) (Cn := RX6) (T := TX6) (N := 8) rfl in_X6_init_X6 tyX6 tyX6_ok nmX6 5 (by decide) (by decide +kernel) (fun _ h => h) (Or.inr ⟨rfl, rfl, rfl⟩) (ty := .int) (by decide +kernel) rfl rfl (Nat.le_of_ble_eq_true rfl) (st_5_5 n0 z3 x0 x5) e7 dX6_init_17 (fun H locs hw => ?_)
  cases h
  replace hF : _ = fin := hF
  subst hF
  exact r_vret C hw dX6_init_20
set_option maxRecDepth 100000 in
theorem kX6_init (l : Launch) (n0 : Nat) (D : va_G) (Y : Nat → ClassId) (N : Nat) (x0 : Nat) (x1 : Int32) (x2 : Int32) (x3 : Int32) (x4 : Int32) (x5 : Int32) (z : Hp) {z1 : Hp} (h : fX6_init N x0 x1 x2 x3 x4 x5 z = some z1) : Met l yX6_init wsX6_init rmX6_init (PreC n0 D Y z [.ref (n0 + x0), .int x1, .int x2, .int x3, .int x4, .int x5]) (PosV n0 D Y z1) 0 0 (AA n0) := by
  refine Met.ofW (cc := cX6_init) (maxL := 6) (ret := none) (by decide) rfl ?_
  intro p e s m args below meth c s₁ B hml hv
  obtain ⟨rfl, hR, hK⟩ := hv
  have C : Cx n0 D Y RX6 cX6_init none 6 wsX6_init "<init>" p s m ([.ref (n0 + x0), .int x1, .int x2, .int x3, .int x4, .int x5] : List Value).toArray meth c := ⟨B.exec, B.bytes, B.returns, hml, findClass_of_methodNamed B.named, atoms_spec (ws := wsX6_init) B.pre, B.notSynchronized, (name_of_methodNamed B.named B.method).1, hK⟩
  have hl := lv_entry ([.ref (n0 + x0), .int x1, .int x2, .int x3, .int x4, .int x5]) (n := 6) (Nat.le_of_ble_eq_true rfl)
  rw [lg_entry_eq]
  generalize (lg_sl ([.ref (n0 + x0), .int x1, .int x2, .int x3, .int x4, .int x5]) ++ List.replicate (6 - (lg_sl ([.ref (n0 + x0), .int x1, .int x2, .int x3, .int x4, .int x5])).length) Slot.unset).toArray = ls at hl ⊢
  have hl : lv_has ls 6 [(0, .ref (n0 + x0)), (1, .int x1), (2, .int x2), (3, .int x3), (4, .int x4), (5, .int x5)] := hl
  exact tX6_init_0 C h rfl ⟨hR, va_S.rf⟩ hl
theorem in_X6_detail_X6 : ∀ w ∈ wsX60, w ∈ wsX6_detail := by decide +kernel
abbrev rmX6_detail : Room := { frames := 0, cells := 0, slots := 0, locals := 0 }
noncomputable def fX6_detail (N : Nat) (x0 : Nat) (x1 : Int32) (z : Hp) : Option (Int32) := br (x1 = (0 : Int32)) (gd (x0 < zn z ∧ zK z x0 = 5) <| some (zF z 324 x0)) <| br (x1 = (1 : Int32)) (gd (x0 < zn z ∧ zK z x0 = 5) <| some (zF z 325 x0)) <| br (x1 = (2 : Int32)) (gd (x0 < zn z ∧ zK z x0 = 5) <| br ((zF z 326 x0) = 0) (some (0 : Int32)) (some (1 : Int32))) <| br (x1 = (3 : Int32)) (gd (x0 < zn z ∧ zK z x0 = 5) <| some (zF z 327 x0)) <| some (-2 : Int32)
set_option maxHeartbeats 4000000 in
set_option maxRecDepth 100000 in
theorem tX6_detail_0 {n0 : Nat} {D : va_G} {Y : Nat → ClassId} {p : Program} {l : Launch} {e : Env} {s : State} {m : MethodId} {args : Array Value} {below : List Frame} {meth : Method} {c : Code} {N : Nat} {fin : Int32} {x0 : Nat} {x1 : Int32}  {z : Hp} (C : Cx n0 D Y RX6 cX6_detail (some .int) 2 wsX6_detail "detail" p s m args meth c) {x : (Int32)} (h : fX6_detail N x0 x1  z = some x) (hF : (fun x => x = fin) x) {H : Heap} {locs : List Loc} {ls : Array Slot} (hw : Wd n0 D Y z s H locs) (hl : lv_has ls 2 [(0, .ref (n0 + x0)), (1, .int x1)]) : W p l e rmX6_detail s m args below meth c H locs 0 0 (MQ below (PosI n0 D Y z fin) args s 0 0 (AA n0)) (F0 m 0 ls []) := by
  unfold fX6_detail at h
  refine lv_iload_n C.1 C.2.1 dX6_detail_0 rfl (lv_at hl 1 rfl) ?_
  by_cases c1 : x1 = (0 : Int32)
  · replace h := brT h c1
    refine lv_tableIn (off := 31) (tgt := 32) C.1 C.2.1 dX6_detail_1 (by rw [c1]; decide) (by rw [c1]; decide) (by rw [c1]; decide) (by decide) ?_
    refine lv_aload_n C.1 C.2.1 dX6_detail_32 rfl (lv_at hl 0 rfl) ?_
    obtain ⟨g2, h⟩ := gdE h
    refine r_get (v := .int (zF z 324 x0)) C hw g2 (by decide) (Cn := RX6) (T := TX6) (N := 8) rfl in_X6_detail_X6 4 (by decide) (by decide +kernel) (fun _ h => h) rfl dX6_detail_33 ?_
    cases h
    replace hF : _ = fin := hF
    subst hF
    exact r_iret C hw dX6_detail_36
  replace h := brF h c1
  by_cases c3 : x1 = (1 : Int32)
  · replace h := brT h c3
    refine lv_tableIn (off := 36) (tgt := 37) C.1 C.2.1 dX6_detail_1 (by rw [c3]; decide) (by rw [c3]; decide) (by rw [c3]; decide) (by decide) ?_
    refine lv_aload_n C.1 C.2.1 dX6_detail_37 rfl (lv_at hl 0 rfl) ?_
    obtain ⟨g4, h⟩ := gdE h
    refine r_get (v := .int (zF z 325 x0)) C hw g4 (by decide) (Cn := RX6) (T := TX6) (N := 8) rfl in_X6_detail_X6 5 (by decide) (by decide +kernel) (fun _ h => h) rfl dX6_detail_38 ?_
    cases h
    replace hF : _ = fin := hF
    subst hF
    exact r_iret C hw dX6_detail_41
  replace h := brF h c3
  by_cases c5 : x1 = (2 : Int32)
  · replace h := brT h c5
    refine lv_tableIn (off := 41) (tgt := 42) C.1 C.2.1 dX6_detail_1 (by rw [c5]; decide) (by rw [c5]; decide) (by rw [c5]; decide) (by decide) ?_
    refine lv_aload_n C.1 C.2.1 dX6_detail_42 rfl (lv_at hl 0 rfl) ?_
    obtain ⟨g6, h⟩ := gdE h
    refine r_get (v := .int (zF z 326 x0)) C hw g6 (by decide) (Cn := RX6) (T := TX6) (N := 8) rfl in_X6_detail_X6 6 (by decide) (by decide +kernel) (fun _ h => h) rfl dX6_detail_43 ?_
    refine lv_if_eq (tgt := 53) C.1 C.2.1 dX6_detail_46 (by decide) (fun c7 => ?_) (fun c7 => ?_)
    · replace h := brT h c7
      refine lv_iconst (v := (0 : Int32)) C.1 C.2.1 dX6_detail_53 (by decide) ?_
      cases h
      replace hF : _ = fin := hF
      subst hF
      exact r_iret C hw dX6_detail_54
    · replace h := brF h c7
      refine lv_iconst (v := (1 : Int32)) C.1 C.2.1 dX6_detail_49 (by decide) ?_
      refine lv_goto (tgt := 54) C.1 C.2.1 dX6_detail_50 (by decide) ?_
      cases h
      replace hF : _ = fin := hF
      subst hF
      exact r_iret C hw dX6_detail_54
  replace h := brF h c5
  by_cases c8 : x1 = (3 : Int32)
  · replace h := brT h c8
    refine lv_tableIn (off := 54) (tgt := 55) C.1 C.2.1 dX6_detail_1 (by rw [c8]; decide) (by rw [c8]; decide) (by rw [c8]; decide) (by decide) ?_
    refine lv_aload_n C.1 C.2.1 dX6_detail_55 rfl (lv_at hl 0 rfl) ?_
    obtain ⟨g9, h⟩ := gdE h
    refine r_get (v := .int (zF z 327 x0)) C hw g9 (by decide) (Cn := RX6) (T := TX6) (N := 8) rfl in_X6_detail_X6 7 (by decide) (by decide +kernel) (fun _ h => h) rfl dX6_detail_56 ?_
    cases h
    replace hF : _ = fin := hF
    subst hF
    exact r_iret C hw dX6_detail_59
  replace h := brF h c8
  refine lv_tableOut (tgt := 60) C.1 C.2.1 dX6_detail_1 (by have := ne_ti c1; have : (0 : Int32).toInt = 0 := (by decide); have := ne_ti c3; have : (1 : Int32).toInt = 1 := (by decide); have := ne_ti c5; have : (2 : Int32).toInt = 2 := (by decide); have := ne_ti c8; have : (3 : Int32).toInt = 3 := (by decide); omega) (by decide) ?_
  refine lv_bipush (v := (-2 : Int32)) C.1 C.2.1 dX6_detail_60 (by decide) ?_
  cases h
  replace hF : _ = fin := hF
  subst hF
  exact r_iret C hw dX6_detail_62
set_option maxRecDepth 100000 in
theorem kX6_detail (l : Launch) (n0 : Nat) (D : va_G) (Y : Nat → ClassId) (N : Nat) (x0 : Nat) (x1 : Int32) (z : Hp) {r : Int32} (h : fX6_detail N x0 x1 z = some r) : Met l yX6_detail wsX6_detail rmX6_detail (PreC n0 D Y z [.ref (n0 + x0), .int x1]) (PosI n0 D Y z r) 0 0 (AA n0) := by
  refine Met.ofW (cc := cX6_detail) (maxL := 2) (ret := (some .int)) (by decide) rfl ?_
  intro p e s m args below meth c s₁ B hml hv
  obtain ⟨rfl, hR, hK⟩ := hv
  have C : Cx n0 D Y RX6 cX6_detail (some .int) 2 wsX6_detail "detail" p s m ([.ref (n0 + x0), .int x1] : List Value).toArray meth c := ⟨B.exec, B.bytes, B.returns, hml, findClass_of_methodNamed B.named, atoms_spec (ws := wsX6_detail) B.pre, B.notSynchronized, (name_of_methodNamed B.named B.method).1, hK⟩
  have hl := lv_entry ([.ref (n0 + x0), .int x1]) (n := 2) (Nat.le_of_ble_eq_true rfl)
  rw [lg_entry_eq]
  generalize (lg_sl ([.ref (n0 + x0), .int x1]) ++ List.replicate (2 - (lg_sl ([.ref (n0 + x0), .int x1])).length) Slot.unset).toArray = ls at hl ⊢
  have hl : lv_has ls 2 [(0, .ref (n0 + x0)), (1, .int x1)] := hl
  exact tX6_detail_0 C h rfl ⟨hR, va_S.rf⟩ hl
theorem in_X7_init_X7 : ∀ w ∈ wsX70, w ∈ wsX7_init := by decide +kernel
abbrev rmX7_init : Room := { frames := 1, cells := 2, slots := 400, locals := 24 }
noncomputable def fX7_init (N : Nat) (x0 : Nat) (z : Hp) : Option (Hp) := bd (zal z 13 200) fun z1 => gd (x0 < zn z1 ∧ zK z1 x0 = 6) <| bd (zsG z1 384 x0 (some (zn z))) fun z4 => bd (zal z4 13 200) fun z7 => bd (zsG z7 385 x0 (some (zn z4))) fun z10 => some z10
set_option maxHeartbeats 4000000 in
set_option maxRecDepth 100000 in
theorem tX7_init_0 {n0 : Nat} {D : va_G} {Y : Nat → ClassId} {p : Program} {l : Launch} {e : Env} {s : State} {m : MethodId} {args : Array Value} {below : List Frame} {meth : Method} {c : Code} {N : Nat} {fin : Hp} {x0 : Nat}  {z : Hp} (C : Cx n0 D Y RX7 cX7_init none 1 wsX7_init "<init>" p s m args meth c) {x : (Hp)} (h : fX7_init N x0  z = some x) (hF : (fun x => x = fin) x) {H : Heap} {locs : List Loc} {ls : Array Slot} (hw : Wd n0 D Y z s H locs) (hl : lv_has ls 1 [(0, .ref (n0 + x0))]) : W p l e rmX7_init s m args below meth c H locs 0 0 (MQ below (PosV n0 D Y fin) args s 2 400 (AA n0)) (F0 m 0 ls []) := by
  unfold fX7_init at h
  refine lv_aload_n C.1 C.2.1 dX7_init_0 rfl (lv_at hl 0 rfl) ?_
  refine W.objInit C.1 C.2.1 C.2.2.2.2.1 (C.2.2.2.2.2.1 (.methodLink RX7 3 objectInit) (by decide +kernel)) (C.2.2.2.2.2.1 (.instanceMethod objectInit) (by decide +kernel)) (C.2.2.2.2.2.1 _ (List.mem_of_getElem? (i := 3) rfl)) rfl (by rw [C.2.2.2.1]; exact hl.1) rfl dX7_init_1 (Nat.le_of_ble_eq_true rfl) (Nat.le_of_ble_eq_true rfl) ?_
  refine W.eq (g2 := F0 m 4 ls []) rfl ?_
  refine lv_aload_n C.1 C.2.1 dX7_init_4 rfl (lv_at hl 0 rfl) ?_
  refine lv_sipush (v := (200 : Int32)) C.1 C.2.1 dX7_init_5 (by decide) ?_
  obtain ⟨z1, e2, h⟩ := bdE h
  refine r_newj C hw (by decide +kernel) (N' := 200) (by decide) (by decide) (by decide) (by decide) (by decide) dX7_init_8 (fun H hw => ?_)
  rw [← e2] at hw
  have g3 : (zn z) < zn z1 ∧ zK z1 (zn z) = 13 := by rw [e2]; exact ok_new _ _ _
  obtain ⟨g6, h⟩ := gdE h
  obtain ⟨z4, e5, h⟩ := bdE h
  refine r_putG C hw g6 (by decide) (Cn := RX7) (T := TX7) (N := 2) rfl in_X7_init_X7 tyX7 tyX7_ok nmX7 0 (by decide) (by decide +kernel) (fun _ h => h) (Or.inr ⟨rfl, rfl, rfl⟩) (ty := .array .long) (by decide +kernel) rfl rfl (Nat.le_of_ble_eq_true rfl) (st_6_0 n0 z1 x0 (some (zn z))) e5 dX7_init_10 (fun H locs hw => ?_)
  refine lv_aload_n C.1 C.2.1 dX7_init_13 rfl (lv_at hl 0 rfl) ?_
  refine lv_sipush (v := (200 : Int32)) C.1 C.2.1 dX7_init_14 (by decide) ?_
  obtain ⟨z7, e8, h⟩ := bdE h
  refine r_newj C hw (by decide +kernel) (N' := 200) (by decide) (by decide) (by decide) (by decide) (by decide) dX7_init_17 (fun H hw => ?_)
  rw [← e8] at hw
  have g9 : (zn z4) < zn z7 ∧ zK z7 (zn z4) = 13 := by rw [e8]; exact ok_new _ _ _
  have g12 : x0 < zn z4 ∧ zK z4 x0 = 6 := by rw [e5]; exact g6
  have g13 : x0 < zn z7 ∧ zK z7 x0 = 6 := by rw [e8]; exact ok_al _ _ g12
  obtain ⟨z10, e11, h⟩ := bdE h
  refine r_putG C hw g13 (by decide) (Cn := RX7) (T := TX7) (N := 2) rfl in_X7_init_X7 tyX7 tyX7_ok nmX7 1 (by decide) (by decide +kernel) (fun _ h => h) (Or.inr ⟨rfl, rfl, rfl⟩) (ty := .array .long) (by decide +kernel) rfl rfl (Nat.le_of_ble_eq_true rfl) (st_6_1 n0 z7 x0 (some (zn z4))) e11 dX7_init_19 (fun H locs hw => ?_)
  cases h
  replace hF : _ = fin := hF
  subst hF
  exact r_vret C hw dX7_init_22
set_option maxRecDepth 100000 in
theorem kX7_init (l : Launch) (n0 : Nat) (D : va_G) (Y : Nat → ClassId) (N : Nat) (x0 : Nat) (z : Hp) {z1 : Hp} (h : fX7_init N x0 z = some z1) : Met l yX7_init wsX7_init rmX7_init (PreC n0 D Y z [.ref (n0 + x0)]) (PosV n0 D Y z1) 2 400 (AA n0) := by
  refine Met.ofW (cc := cX7_init) (maxL := 1) (ret := none) (by decide) rfl ?_
  intro p e s m args below meth c s₁ B hml hv
  obtain ⟨rfl, hR, hK⟩ := hv
  have C : Cx n0 D Y RX7 cX7_init none 1 wsX7_init "<init>" p s m ([.ref (n0 + x0)] : List Value).toArray meth c := ⟨B.exec, B.bytes, B.returns, hml, findClass_of_methodNamed B.named, atoms_spec (ws := wsX7_init) B.pre, B.notSynchronized, (name_of_methodNamed B.named B.method).1, hK⟩
  have hl := lv_entry ([.ref (n0 + x0)]) (n := 1) (Nat.le_of_ble_eq_true rfl)
  rw [lg_entry_eq]
  generalize (lg_sl ([.ref (n0 + x0)]) ++ List.replicate (1 - (lg_sl ([.ref (n0 + x0)])).length) Slot.unset).toArray = ls at hl ⊢
  have hl : lv_has ls 1 [(0, .ref (n0 + x0))] := hl
  exact tX7_init_0 C h rfl ⟨hR, va_S.rf⟩ hl
theorem in_X7_note_X6 : ∀ w ∈ wsX60, w ∈ wsX7_note := by decide +kernel
theorem in_X7_note_X7 : ∀ w ∈ wsX70, w ∈ wsX7_note := by decide +kernel
abbrev rmX7_note : Room := { frames := 1, cells := 0, slots := 0, locals := 20 }
noncomputable def fX7_note_50 (N : Nat) (x0 : Nat) (z : Hp) : Option (Hp) := some z
set_option maxHeartbeats 4000000 in
set_option maxRecDepth 100000 in
theorem tX7_note_50 {n0 : Nat} {D : va_G} {Y : Nat → ClassId} {p : Program} {l : Launch} {e : Env} {s : State} {m : MethodId} {args : Array Value} {below : List Frame} {meth : Method} {c : Code} {N : Nat} {fin : Hp} {x0 : Nat}  {z : Hp} (C : Cx n0 D Y RX7 cX7_note none 3 wsX7_note "note" p s m args meth c) {x : (Hp)} (h : fX7_note_50 N x0  z = some x) (hF : (fun x => x = fin) x) {H : Heap} {locs : List Loc} {ls : Array Slot} (hw : Wd n0 D Y z s H locs) (hl : lv_has ls 3 [(0, .ref (n0 + x0))]) : W p l e rmX7_note s m args below meth c H locs 0 0 (MQ below (PosV n0 D Y fin) args s 0 0 (AA n0)) (F0 m 50 ls []) := by
  unfold fX7_note_50 at h
  cases h
  replace hF : _ = fin := hF
  subst hF
  exact r_vret C hw dX7_note_50
noncomputable def fX7_note (N : Nat) (x0 : Nat) (x1 : Nat) (z : Hp) : Option (Hp) := gd (x1 < zn z ∧ zK z x1 = 5) <| bo (fX3_week N x1 z) fun r2 => br (r2 < 0) (fX7_note_50 N x0 z) (br ((200 : Int32) ≤ r2) (fX7_note_50 N x0 z) (gd (x0 < zn z ∧ zK z x0 = 6) <| bo (zG z 384 x0) fun b8 => gd (b8 < zn z ∧ zK z b8 = 13) <| gd (¬ (r2 < 0 ∨ zL z b8 ≤ (r2).toNatClampNeg)) <| gd (¬ (r2 < 0 ∨ zL z b8 ≤ Int32.toNatClampNeg r2)) <| bd (zsJ z b8 (Int32.toNatClampNeg r2) ((zJ z b8 (r2).toNatClampNeg) + (Int32.toInt64 (zF z 324 x1)))) fun z12 => bo (zG z12 385 x0) fun b16 => gd (b16 < zn z12 ∧ zK z12 b16 = 13) <| gd (¬ (r2 < 0 ∨ zL z12 b16 ≤ (r2).toNatClampNeg)) <| gd (¬ (r2 < 0 ∨ zL z12 b16 ≤ Int32.toNatClampNeg r2)) <| bd (zsJ z12 b16 (Int32.toNatClampNeg r2) ((zJ z12 b16 (r2).toNatClampNeg) + ((Int32.toInt64 (zF z12 325 x1)) * (Int32.toInt64 (zF z12 324 x1))))) fun z21 => fX7_note_50 N x0 z21))
set_option maxHeartbeats 4000000 in
set_option maxRecDepth 100000 in
theorem tX7_note_0 {n0 : Nat} {D : va_G} {Y : Nat → ClassId} {p : Program} {l : Launch} {e : Env} {s : State} {m : MethodId} {args : Array Value} {below : List Frame} {meth : Method} {c : Code} {N : Nat} {fin : Hp} {x0 : Nat} {x1 : Nat}  {z : Hp} (C : Cx n0 D Y RX7 cX7_note none 3 wsX7_note "note" p s m args meth c) {x : (Hp)} (h : fX7_note N x0 x1  z = some x) (hF : (fun x => x = fin) x) {H : Heap} {locs : List Loc} {ls : Array Slot} (hw : Wd n0 D Y z s H locs) (hl : lv_has ls 3 [(0, .ref (n0 + x0)), (1, .ref (n0 + x1))]) : W p l e rmX7_note s m args below meth c H locs 0 0 (MQ below (PosV n0 D Y fin) args s 0 0 (AA n0)) (F0 m 0 ls []) := by
  unfold fX7_note at h
  refine lv_aload_n C.1 C.2.1 dX7_note_0 rfl (lv_at hl 1 rfl) ?_
  obtain ⟨g3, h⟩ := gdE h
  obtain ⟨r2, e1, h⟩ := boE h
  refine r_afti hw (r_runU (As := []) (rest := []) C hw (ki := 5) g3 (by decide) rfl (kX3_week l n0 D Y N x1  z e1) (va_cwU (owner := "BreadLaw$Entry") (x := ⟨"BreadLaw$Lot", "week", "()I"⟩) 0 C.2.2.2.2.2.1 gX7_note_X3_week_u18X6 rfl rfl rfl rfl (by decide +kernel) ⟨(Nat.le_of_ble_eq_true rfl), (Nat.le_of_ble_eq_true rfl)⟩) rfl hl.1 rfl (Nat.le_of_ble_eq_true rfl) dX7_note_1 ⟨(Nat.le_of_ble_eq_true rfl), (Nat.le_of_ble_eq_true rfl)⟩) (fun H locs hw => ?_)
  refine lv_istore_n (i := 2) (lv' := [(2, .int r2), (0, .ref (n0 + x0)), (1, .ref (n0 + x1))]) C.1 C.2.1 dX7_note_4 rfl hl (by decide) rfl (fun ls hl => ?_)
  refine lv_iload_n C.1 C.2.1 dX7_note_5 rfl (lv_at hl 0 rfl) ?_
  refine lv_if_lt (tgt := 50) C.1 C.2.1 dX7_note_6 (by decide) (fun c4 => ?_) (fun c4 => ?_)
  · replace h := brT h c4
    exact tX7_note_50 C h hF hw (lv_sub hl [1] rfl)
  · replace h := brF h c4
    refine lv_iload_n C.1 C.2.1 dX7_note_9 rfl (lv_at hl 0 rfl) ?_
    refine lv_sipush (v := (200 : Int32)) C.1 C.2.1 dX7_note_10 (by decide) ?_
    refine lv_icmp_ge (tgt := 50) C.1 C.2.1 dX7_note_13 (by decide) (fun c5 => ?_) (fun c5 => ?_)
    · replace h := brT h c5
      exact tX7_note_50 C h hF hw (lv_sub hl [1] rfl)
    · replace h := brF h c5
      refine lv_aload_n C.1 C.2.1 dX7_note_16 rfl (lv_at hl 1 rfl) ?_
      obtain ⟨g6, h⟩ := gdE h
      refine r_get (v := rv n0 (zG z 384 x0)) C hw g6 (by decide) (Cn := RX7) (T := TX7) (N := 2) rfl in_X7_note_X7 0 (by decide) (by decide +kernel) (fun _ h => h) rfl dX7_note_17 ?_
      obtain ⟨b8, e7, h⟩ := boE h
      refine r_topr e7 ?_
      refine lv_iload_n C.1 C.2.1 dX7_note_20 rfl (lv_at hl 0 rfl) ?_
      refine lv_dup2_11 C.1 C.2.1 dX7_note_21 rfl rfl ?_
      obtain ⟨g9, h⟩ := gdE h
      obtain ⟨i10, h⟩ := gdE h
      refine r_lald C hw g9 i10 dX7_note_22 ?_
      refine lv_aload_n C.1 C.2.1 dX7_note_23 rfl (lv_at hl 2 rfl) ?_
      refine r_get (v := .int (zF z 324 x1)) C hw g3 (by decide) (Cn := RX6) (T := TX6) (N := 8) rfl in_X7_note_X6 4 (by decide) (by decide +kernel) (fun _ h => h) rfl dX7_note_24 ?_
      refine lv_i2l C.1 C.2.1 dX7_note_27 rfl ?_
      refine lv_ladd C.1 C.2.1 dX7_note_28 ?_
      obtain ⟨i11, h⟩ := gdE h
      obtain ⟨z12, e13, h⟩ := bdE h
      refine r_last C hw g9 i11 e13 dX7_note_29 (fun H locs hw => ?_)
      refine lv_aload_n C.1 C.2.1 dX7_note_30 rfl (lv_at hl 1 rfl) ?_
      have g14 : x0 < zn z12 ∧ zK z12 x0 = 6 := by rw [e13]; exact g6
      refine r_get (v := rv n0 (zG z12 385 x0)) C hw g14 (by decide) (Cn := RX7) (T := TX7) (N := 2) rfl in_X7_note_X7 1 (by decide) (by decide +kernel) (fun _ h => h) rfl dX7_note_31 ?_
      obtain ⟨b16, e15, h⟩ := boE h
      refine r_topr e15 ?_
      refine lv_iload_n C.1 C.2.1 dX7_note_34 rfl (lv_at hl 0 rfl) ?_
      refine lv_dup2_11 C.1 C.2.1 dX7_note_35 rfl rfl ?_
      obtain ⟨g17, h⟩ := gdE h
      obtain ⟨i18, h⟩ := gdE h
      refine r_lald C hw g17 i18 dX7_note_36 ?_
      refine lv_aload_n C.1 C.2.1 dX7_note_37 rfl (lv_at hl 2 rfl) ?_
      have g19 : x1 < zn z12 ∧ zK z12 x1 = 5 := by rw [e13]; exact g3
      refine r_get (v := .int (zF z12 325 x1)) C hw g19 (by decide) (Cn := RX6) (T := TX6) (N := 8) rfl in_X7_note_X6 5 (by decide) (by decide +kernel) (fun _ h => h) rfl dX7_note_38 ?_
      refine lv_i2l C.1 C.2.1 dX7_note_41 rfl ?_
      refine lv_aload_n C.1 C.2.1 dX7_note_42 rfl (lv_at hl 2 rfl) ?_
      refine r_get (v := .int (zF z12 324 x1)) C hw g19 (by decide) (Cn := RX6) (T := TX6) (N := 8) rfl in_X7_note_X6 4 (by decide) (by decide +kernel) (fun _ h => h) rfl dX7_note_43 ?_
      refine lv_i2l C.1 C.2.1 dX7_note_46 rfl ?_
      refine lv_lmul C.1 C.2.1 dX7_note_47 ?_
      refine lv_ladd C.1 C.2.1 dX7_note_48 ?_
      obtain ⟨i20, h⟩ := gdE h
      obtain ⟨z21, e22, h⟩ := bdE h
      refine r_last C hw g17 i20 e22 dX7_note_49 (fun H locs hw => ?_)
      exact tX7_note_50 C h hF hw (lv_sub hl [1] rfl)
set_option maxRecDepth 100000 in
theorem kX7_note (l : Launch) (n0 : Nat) (D : va_G) (Y : Nat → ClassId) (N : Nat) (x0 : Nat) (x1 : Nat) (z : Hp) {z1 : Hp} (h : fX7_note N x0 x1 z = some z1) : Met l yX7_note wsX7_note rmX7_note (PreC n0 D Y z [.ref (n0 + x0), .ref (n0 + x1)]) (PosV n0 D Y z1) 0 0 (AA n0) := by
  refine Met.ofW (cc := cX7_note) (maxL := 3) (ret := none) (by decide) rfl ?_
  intro p e s m args below meth c s₁ B hml hv
  obtain ⟨rfl, hR, hK⟩ := hv
  have C : Cx n0 D Y RX7 cX7_note none 3 wsX7_note "note" p s m ([.ref (n0 + x0), .ref (n0 + x1)] : List Value).toArray meth c := ⟨B.exec, B.bytes, B.returns, hml, findClass_of_methodNamed B.named, atoms_spec (ws := wsX7_note) B.pre, B.notSynchronized, (name_of_methodNamed B.named B.method).1, hK⟩
  have hl := lv_entry ([.ref (n0 + x0), .ref (n0 + x1)]) (n := 3) (Nat.le_of_ble_eq_true rfl)
  rw [lg_entry_eq]
  generalize (lg_sl ([.ref (n0 + x0), .ref (n0 + x1)]) ++ List.replicate (3 - (lg_sl ([.ref (n0 + x0), .ref (n0 + x1)])).length) Slot.unset).toArray = ls at hl ⊢
  have hl : lv_has ls 3 [(0, .ref (n0 + x0)), (1, .ref (n0 + x1))] := hl
  exact tX7_note_0 C h rfl ⟨hR, va_S.rf⟩ hl
theorem in_X7_priceOf_X7 : ∀ w ∈ wsX70, w ∈ wsX7_priceOf := by decide +kernel
abbrev rmX7_priceOf : Room := { frames := 1, cells := 0, slots := 0, locals := 24 }
noncomputable def fX7_priceOf_8 (N : Nat) (x0 : Nat) (x2 : Int32) (z : Hp) : Option ((Int32) ⊕ (Int32)) := br (x2 < 0) (lf <| some (100 : Int32)) (gd (x0 < zn z ∧ zK z x0 = 6) <| bo (zG z 384 x0) fun b5 => gd (b5 < zn z ∧ zK z b5 = 13) <| gd (¬ (x2 < 0 ∨ zL z b5 ≤ (x2).toNatClampNeg)) <| br ((lg_cmp (zJ z b5 (x2).toNatClampNeg) (0 : Int64)) ≤ 0) (bd (x2 + (-1 : Int32)) fun v9 => some (.inl (v9))) (bo (zG z 385 x0) fun b12 => gd (b12 < zn z ∧ zK z b12 = 13) <| gd (¬ (x2 < 0 ∨ zL z b12 ≤ (x2).toNatClampNeg)) <| bo (zG z 384 x0) fun b16 => gd (b16 < zn z ∧ zK z b16 = 13) <| gd (¬ (x2 < 0 ∨ zL z b16 ≤ (x2).toNatClampNeg)) <| gd (¬ (zJ z b16 (x2).toNatClampNeg) = 0) <| lf <| some (Int64.toInt32 ((zJ z b12 (x2).toNatClampNeg) / (zJ z b16 (x2).toNatClampNeg)))))
set_option maxHeartbeats 4000000 in
set_option maxRecDepth 100000 in
theorem tX7_priceOf_8 {n0 : Nat} {D : va_G} {Y : Nat → ClassId} {p : Program} {l : Launch} {e : Env} {s : State} {m : MethodId} {args : Array Value} {below : List Frame} {meth : Method} {c : Code} {N : Nat} {fin : Int32} {x0 : Nat} {x2 : Int32}  {z : Hp} (C : Cx n0 D Y RX7 cX7_priceOf (some .int) 3 wsX7_priceOf "priceOf" p s m args meth c) {P8 : Int32 → Prop} (hP8 : ∀ u, P8 u → ∀ (H : Heap) (locs : List Loc) (ls : Array Slot), Wd n0 D Y z s H locs → lv_has ls 3 [(0, .ref (n0 + x0)), (2, .int u)] → W p l e rmX7_priceOf s m args below meth c H locs 0 0 (MQ below (PosI n0 D Y z fin) args s 0 0 (AA n0)) (F0 m 8 ls [])) {x : ((Int32) ⊕ (Int32))} (h : fX7_priceOf_8 N x0 x2  z = some x) (hF : (Fn P8 (fun x => x = fin)) x) {H : Heap} {locs : List Loc} {ls : Array Slot} (hw : Wd n0 D Y z s H locs) (hl : lv_has ls 3 [(0, .ref (n0 + x0)), (2, .int x2)]) : W p l e rmX7_priceOf s m args below meth c H locs 0 0 (MQ below (PosI n0 D Y z fin) args s 0 0 (AA n0)) (F0 m 8 ls []) := by
  unfold fX7_priceOf_8 at h
  refine lv_iload_n C.1 C.2.1 dX7_priceOf_8 rfl (lv_at hl 1 rfl) ?_
  refine lv_if_lt (tgt := 44) C.1 C.2.1 dX7_priceOf_9 (by decide) (fun c1 => ?_) (fun c1 => ?_)
  · replace h := brT h c1
    obtain ⟨y2, h, hF⟩ := lfX h hF
    refine lv_bipush (v := (100 : Int32)) C.1 C.2.1 dX7_priceOf_44 (by decide) ?_
    cases h
    replace hF : _ = fin := hF
    subst hF
    exact r_iret C hw dX7_priceOf_46
  · replace h := brF h c1
    refine lv_aload_n C.1 C.2.1 dX7_priceOf_12 rfl (lv_at hl 0 rfl) ?_
    obtain ⟨g3, h⟩ := gdE h
    refine r_get (v := rv n0 (zG z 384 x0)) C hw g3 (by decide) (Cn := RX7) (T := TX7) (N := 2) rfl in_X7_priceOf_X7 0 (by decide) (by decide +kernel) (fun _ h => h) rfl dX7_priceOf_13 ?_
    obtain ⟨b5, e4, h⟩ := boE h
    refine r_topr e4 ?_
    refine lv_iload_n C.1 C.2.1 dX7_priceOf_16 rfl (lv_at hl 1 rfl) ?_
    obtain ⟨g6, h⟩ := gdE h
    obtain ⟨i7, h⟩ := gdE h
    refine r_lald C hw g6 i7 dX7_priceOf_17 ?_
    refine lv_lconst (v := (0 : Int64)) C.1 C.2.1 dX7_priceOf_18 (by decide) ?_
    refine W.lcmp C.1 C.2.1 dX7_priceOf_19 ?_
    refine lv_if_le (tgt := 38) C.1 C.2.1 dX7_priceOf_20 (by decide) (fun c8 => ?_) (fun c8 => ?_)
    · replace h := brT h c8
      obtain ⟨v9, e10, h⟩ := bdE h
      refine lv_iinc (v := v9) (lv' := [(2, .int v9), (0, .ref (n0 + x0))]) C.1 C.2.1 dX7_priceOf_38 hl (k := 1) rfl (by rw [e10]; rfl) (by decide) rfl (fun ls hl => ?_)
      refine lv_goto (tgt := 8) C.1 C.2.1 dX7_priceOf_41 (by decide) ?_
      cases h
      exact hP8 _ hF _ _ _ hw (lv_sub hl [1, 0] rfl)
    · replace h := brF h c8
      refine lv_aload_n C.1 C.2.1 dX7_priceOf_23 rfl (lv_at hl 0 rfl) ?_
      refine r_get (v := rv n0 (zG z 385 x0)) C hw g3 (by decide) (Cn := RX7) (T := TX7) (N := 2) rfl in_X7_priceOf_X7 1 (by decide) (by decide +kernel) (fun _ h => h) rfl dX7_priceOf_24 ?_
      obtain ⟨b12, e11, h⟩ := boE h
      refine r_topr e11 ?_
      refine lv_iload_n C.1 C.2.1 dX7_priceOf_27 rfl (lv_at hl 1 rfl) ?_
      obtain ⟨g13, h⟩ := gdE h
      obtain ⟨i14, h⟩ := gdE h
      refine r_lald C hw g13 i14 dX7_priceOf_28 ?_
      refine lv_aload_n C.1 C.2.1 dX7_priceOf_29 rfl (lv_at hl 0 rfl) ?_
      refine r_get (v := rv n0 (zG z 384 x0)) C hw g3 (by decide) (Cn := RX7) (T := TX7) (N := 2) rfl in_X7_priceOf_X7 0 (by decide) (by decide +kernel) (fun _ h => h) rfl dX7_priceOf_30 ?_
      obtain ⟨b16, e15, h⟩ := boE h
      refine r_topr e15 ?_
      refine lv_iload_n C.1 C.2.1 dX7_priceOf_33 rfl (lv_at hl 1 rfl) ?_
      obtain ⟨g17, h⟩ := gdE h
      obtain ⟨i18, h⟩ := gdE h
      refine r_lald C hw g17 i18 dX7_priceOf_34 ?_
      obtain ⟨g19, h⟩ := gdE h
      refine lv_ldiv C.1 C.2.1 dX7_priceOf_35 g19 ?_
      refine lv_l2i C.1 C.2.1 dX7_priceOf_36 rfl ?_
      obtain ⟨y20, h, hF⟩ := lfX h hF
      cases h
      replace hF : _ = fin := hF
      subst hF
      exact r_iret C hw dX7_priceOf_37
set_option maxHeartbeats 4000000 in
set_option maxRecDepth 100000 in
theorem lX7_priceOf_8 {n0 : Nat} {D : va_G} {Y : Nat → ClassId} {p : Program} {l : Launch} {e : Env} {s : State} {m : MethodId} {args : Array Value} {below : List Frame} {meth : Method} {c : Code} {N : Nat} {fin : Int32} {x0 : Nat} {z : Hp} (C : Cx n0 D Y RX7 cX7_priceOf (some .int) 3 wsX7_priceOf "priceOf" p s m args meth c) {x : (Int32)} : ∀ (n : Nat) (u : Int32), wh (fun (u : Int32) => fX7_priceOf_8 N x0 u z) n u = some x → (fun x => x = fin) x → ∀ (H : Heap) (locs : List Loc) (ls : Array Slot), Wd n0 D Y z s H locs → lv_has ls 3 [(0, .ref (n0 + x0)), (2, .int u)] → W p l e rmX7_priceOf s m args below meth c H locs 0 0 (MQ below (PosI n0 D Y z fin) args s 0 0 (AA n0)) (F0 m 8 ls []) := fun n u h g => wh_ind (P := fun u => ∀ (H : Heap) (locs : List Loc) (ls : Array Slot), Wd n0 D Y z s H locs → lv_has ls 3 [(0, .ref (n0 + x0)), (2, .int u)] → W p l e rmX7_priceOf s m args below meth c H locs 0 0 (MQ below (PosI n0 D Y z fin) args s 0 0 (AA n0)) (F0 m 8 ls [])) (G := (fun x => x = fin)) (fun u x h hF H locs ls hw hl => tX7_priceOf_8 C (P8 := fun u => ∀ (H : Heap) (locs : List Loc) (ls : Array Slot), Wd n0 D Y z s H locs → lv_has ls 3 [(0, .ref (n0 + x0)), (2, .int u)] → W p l e rmX7_priceOf s m args below meth c H locs 0 0 (MQ below (PosI n0 D Y z fin) args s 0 0 (AA n0)) (F0 m 8 ls [])) (fun _ h => h) h hF hw hl) n u x h g
noncomputable def fX7_priceOf (N : Nat) (x0 : Nat) (x1 : Int32) (z : Hp) : Option (Int32) := bd (if (199 : Int32) < x1 then (199 : Int32) else x1) fun v1 => wh (fun (u : Int32) => fX7_priceOf_8 N x0 u z) N (v1)
set_option maxHeartbeats 4000000 in
set_option maxRecDepth 100000 in
theorem tX7_priceOf_0 {n0 : Nat} {D : va_G} {Y : Nat → ClassId} {p : Program} {l : Launch} {e : Env} {s : State} {m : MethodId} {args : Array Value} {below : List Frame} {meth : Method} {c : Code} {N : Nat} {fin : Int32} {x0 : Nat} {x1 : Int32}  {z : Hp} (C : Cx n0 D Y RX7 cX7_priceOf (some .int) 3 wsX7_priceOf "priceOf" p s m args meth c) {x : (Int32)} (h : fX7_priceOf N x0 x1  z = some x) (hF : (fun x => x = fin) x) {H : Heap} {locs : List Loc} {ls : Array Slot} (hw : Wd n0 D Y z s H locs) (hl : lv_has ls 3 [(0, .ref (n0 + x0)), (1, .int x1)]) : W p l e rmX7_priceOf s m args below meth c H locs 0 0 (MQ below (PosI n0 D Y z fin) args s 0 0 (AA n0)) (F0 m 0 ls []) := by
  unfold fX7_priceOf at h
  refine lv_iload_n C.1 C.2.1 dX7_priceOf_0 rfl (lv_at hl 1 rfl) ?_
  refine lv_sipush (v := (199 : Int32)) C.1 C.2.1 dX7_priceOf_1 (by decide) ?_
  refine va_mmin C.1 C.2.1 (C.2.2.2.1.trans hl.1.symm) C.2.2.2.2.1 (C.2.2.2.2.2.1 (.methodLink RX7 30 Lib.Math.min.name) (by decide +kernel)) (C.2.2.2.2.2.1 (.static Lib.Math.min.name) (by decide +kernel)) (C.2.2.2.2.2.1 (.initialized "java/lang/Math") (by decide +kernel)) (C.2.2.2.2.2.1 _ (List.mem_of_getElem? (i := 4) rfl)) (Nat.le_of_ble_eq_true rfl) (Nat.le_of_ble_eq_true rfl) (Nat.le_of_ble_eq_true rfl) (Nat.le_of_ble_eq_true rfl) dX7_priceOf_4 ?_
  obtain ⟨v1, e2, h⟩ := bdE h
  refine r_topi e2 ?_
  refine lv_istore_n (i := 2) (lv' := [(2, .int v1), (0, .ref (n0 + x0)), (1, .int x1)]) C.1 C.2.1 dX7_priceOf_7 rfl hl (by decide) rfl (fun ls hl => ?_)
  exact lX7_priceOf_8 C _ _ h hF _ _ _ hw (lv_sub hl [1, 0] rfl)
set_option maxRecDepth 100000 in
theorem kX7_priceOf (l : Launch) (n0 : Nat) (D : va_G) (Y : Nat → ClassId) (N : Nat) (x0 : Nat) (x1 : Int32) (z : Hp) {r : Int32} (h : fX7_priceOf N x0 x1 z = some r) : Met l yX7_priceOf wsX7_priceOf rmX7_priceOf (PreC n0 D Y z [.ref (n0 + x0), .int x1]) (PosI n0 D Y z r) 0 0 (AA n0) := by
  refine Met.ofW (cc := cX7_priceOf) (maxL := 3) (ret := (some .int)) (by decide) rfl ?_
  intro p e s m args below meth c s₁ B hml hv
  obtain ⟨rfl, hR, hK⟩ := hv
  have C : Cx n0 D Y RX7 cX7_priceOf (some .int) 3 wsX7_priceOf "priceOf" p s m ([.ref (n0 + x0), .int x1] : List Value).toArray meth c := ⟨B.exec, B.bytes, B.returns, hml, findClass_of_methodNamed B.named, atoms_spec (ws := wsX7_priceOf) B.pre, B.notSynchronized, (name_of_methodNamed B.named B.method).1, hK⟩
  have hl := lv_entry ([.ref (n0 + x0), .int x1]) (n := 3) (Nat.le_of_ble_eq_true rfl)
  rw [lg_entry_eq]
  generalize (lg_sl ([.ref (n0 + x0), .int x1]) ++ List.replicate (3 - (lg_sl ([.ref (n0 + x0), .int x1])).length) Slot.unset).toArray = ls at hl ⊢
  have hl : lv_has ls 3 [(0, .ref (n0 + x0)), (1, .int x1)] := hl
  exact tX7_priceOf_0 C h rfl ⟨hR, va_S.rf⟩ hl
theorem in_X8_init_X8 : ∀ w ∈ wsX80, w ∈ wsX8_init := by decide +kernel
abbrev rmX8_init : Room := { frames := 2, cells := 0, slots := 0, locals := 48 }
noncomputable def fX8_init (N : Nat) (x0 : Nat) (x1 : Int32) (x2 : Int32) (x3 : Int32) (z : Hp) : Option (Hp) := bo (fX3_init N x0 (3 : Int32) x1 x2 x3 z) fun z2 => gd (x0 < zn z2 ∧ zK z2 x0 = 7) <| bd (zsF z2 452 x0 (-6 : Int32)) fun z3 => some z3
set_option maxHeartbeats 4000000 in
set_option maxRecDepth 100000 in
theorem tX8_init_0 {n0 : Nat} {D : va_G} {Y : Nat → ClassId} {p : Program} {l : Launch} {e : Env} {s : State} {m : MethodId} {args : Array Value} {below : List Frame} {meth : Method} {c : Code} {N : Nat} {fin : Hp} {x0 : Nat} {x1 : Int32} {x2 : Int32} {x3 : Int32}  {z : Hp} (C : Cx n0 D Y RX8 cX8_init none 4 wsX8_init "<init>" p s m args meth c) {x : (Hp)} (h : fX8_init N x0 x1 x2 x3  z = some x) (hF : (fun x => x = fin) x) {H : Heap} {locs : List Loc} {ls : Array Slot} (hw : Wd n0 D Y z s H locs) (hl : lv_has ls 4 [(0, .ref (n0 + x0)), (1, .int x1), (2, .int x2), (3, .int x3)]) : W p l e rmX8_init s m args below meth c H locs 0 0 (MQ below (PosV n0 D Y fin) args s 0 0 (AA n0)) (F0 m 0 ls []) := by
  unfold fX8_init at h
  refine lv_aload_n C.1 C.2.1 dX8_init_0 rfl (lv_at hl 0 rfl) ?_
  refine lv_iconst (v := (3 : Int32)) C.1 C.2.1 dX8_init_1 (by decide) ?_
  refine lv_iload_n C.1 C.2.1 dX8_init_2 rfl (lv_at hl 1 rfl) ?_
  refine lv_iload_n C.1 C.2.1 dX8_init_3 rfl (lv_at hl 2 rfl) ?_
  refine lv_iload_n C.1 C.2.1 dX8_init_4 rfl (lv_at hl 3 rfl) ?_
  obtain ⟨z2, e1, h⟩ := boE h
  refine r_aftv hw (r_runI (As := [.int (3 : Int32), .int x1, .int x2, .int x3]) (rest := []) C hw (kX3_init l n0 D Y N x0 (3 : Int32) x1 x2 x3 z e1) (cwI 4 C.2.2.2.2.2.1 gX8_init_X3_init rfl rfl rfl (C.2.2.2.2.2.1 (.initialized RX3) (by decide +kernel)) (C.2.2.2.2.2.1 (.methodLink RX8 3 yX3_init) (by decide +kernel)) (C.2.2.2.2.2.1 (.instanceMethod yX3_init) (by decide +kernel)) rfl (by decide +kernel) ⟨(Nat.le_of_ble_eq_true rfl), (Nat.le_of_ble_eq_true rfl)⟩) rfl hl.1 rfl (Nat.le_of_ble_eq_true rfl) dX8_init_5 ⟨(Nat.le_of_ble_eq_true rfl), (Nat.le_of_ble_eq_true rfl)⟩) (fun H locs hw => ?_)
  refine lv_aload_n C.1 C.2.1 dX8_init_8 rfl (lv_at hl 0 rfl) ?_
  refine lv_bipush (v := (-6 : Int32)) C.1 C.2.1 dX8_init_9 (by decide) ?_
  obtain ⟨g5, h⟩ := gdE h
  obtain ⟨z3, e4, h⟩ := bdE h
  refine r_putI C hw g5 (by decide) (Cn := RX8) (T := TX8) (N := 10) rfl in_X8_init_X8 tyX8 tyX8_ok nmX8 4 (by decide) (by decide +kernel) (fun _ h => h) (Or.inl rfl) (ty := .int) (by decide +kernel) rfl rfl (Nat.le_of_ble_eq_true rfl) (st_7_4 n0 z2 x0 (-6 : Int32)) e4 dX8_init_11 (fun H locs hw => ?_)
  cases h
  replace hF : _ = fin := hF
  subst hF
  exact r_vret C hw dX8_init_14
set_option maxRecDepth 100000 in
theorem kX8_init (l : Launch) (n0 : Nat) (D : va_G) (Y : Nat → ClassId) (N : Nat) (x0 : Nat) (x1 : Int32) (x2 : Int32) (x3 : Int32) (z : Hp) {z1 : Hp} (h : fX8_init N x0 x1 x2 x3 z = some z1) : Met l yX8_init wsX8_init rmX8_init (PreC n0 D Y z [.ref (n0 + x0), .int x1, .int x2, .int x3]) (PosV n0 D Y z1) 0 0 (AA n0) := by
  refine Met.ofW (cc := cX8_init) (maxL := 4) (ret := none) (by decide) rfl ?_
  intro p e s m args below meth c s₁ B hml hv
  obtain ⟨rfl, hR, hK⟩ := hv
  have C : Cx n0 D Y RX8 cX8_init none 4 wsX8_init "<init>" p s m ([.ref (n0 + x0), .int x1, .int x2, .int x3] : List Value).toArray meth c := ⟨B.exec, B.bytes, B.returns, hml, findClass_of_methodNamed B.named, atoms_spec (ws := wsX8_init) B.pre, B.notSynchronized, (name_of_methodNamed B.named B.method).1, hK⟩
  have hl := lv_entry ([.ref (n0 + x0), .int x1, .int x2, .int x3]) (n := 4) (Nat.le_of_ble_eq_true rfl)
  rw [lg_entry_eq]
  generalize (lg_sl ([.ref (n0 + x0), .int x1, .int x2, .int x3]) ++ List.replicate (4 - (lg_sl ([.ref (n0 + x0), .int x1, .int x2, .int x3])).length) Slot.unset).toArray = ls at hl ⊢
  have hl : lv_has ls 4 [(0, .ref (n0 + x0)), (1, .int x1), (2, .int x2), (3, .int x3)] := hl
  exact tX8_init_0 C h rfl ⟨hR, va_S.rf⟩ hl
theorem in_X8_detail_X8 : ∀ w ∈ wsX80, w ∈ wsX8_detail := by decide +kernel
abbrev rmX8_detail : Room := { frames := 0, cells := 0, slots := 0, locals := 0 }
noncomputable def fX8_detail (N : Nat) (x0 : Nat) (x1 : Int32) (z : Hp) : Option (Int32) := br (x1 = (0 : Int32)) (gd (x0 < zn z ∧ zK z x0 = 7) <| some (zF z 452 x0)) <| br (x1 = (1 : Int32)) (gd (x0 < zn z ∧ zK z x0 = 7) <| some (zF z 453 x0)) <| br (x1 = (2 : Int32)) (gd (x0 < zn z ∧ zK z x0 = 7) <| some (zF z 454 x0)) <| br (x1 = (3 : Int32)) (gd (x0 < zn z ∧ zK z x0 = 7) <| some (zF z 455 x0)) <| br (x1 = (4 : Int32)) (gd (x0 < zn z ∧ zK z x0 = 7) <| br ((zF z 456 x0) = 0) (some (0 : Int32)) (some (1 : Int32))) <| br (x1 = (5 : Int32)) (gd (x0 < zn z ∧ zK z x0 = 7) <| some (zF z 457 x0)) <| some (-2 : Int32)
set_option maxHeartbeats 4000000 in
set_option maxRecDepth 100000 in
theorem tX8_detail_0 {n0 : Nat} {D : va_G} {Y : Nat → ClassId} {p : Program} {l : Launch} {e : Env} {s : State} {m : MethodId} {args : Array Value} {below : List Frame} {meth : Method} {c : Code} {N : Nat} {fin : Int32} {x0 : Nat} {x1 : Int32}  {z : Hp} (C : Cx n0 D Y RX8 cX8_detail (some .int) 2 wsX8_detail "detail" p s m args meth c) {x : (Int32)} (h : fX8_detail N x0 x1  z = some x) (hF : (fun x => x = fin) x) {H : Heap} {locs : List Loc} {ls : Array Slot} (hw : Wd n0 D Y z s H locs) (hl : lv_has ls 2 [(0, .ref (n0 + x0)), (1, .int x1)]) : W p l e rmX8_detail s m args below meth c H locs 0 0 (MQ below (PosI n0 D Y z fin) args s 0 0 (AA n0)) (F0 m 0 ls []) := by
  unfold fX8_detail at h
  refine lv_iload_n C.1 C.2.1 dX8_detail_0 rfl (lv_at hl 1 rfl) ?_
  by_cases c1 : x1 = (0 : Int32)
  · replace h := brT h c1
    refine lv_tableIn (off := 39) (tgt := 40) C.1 C.2.1 dX8_detail_1 (by rw [c1]; decide) (by rw [c1]; decide) (by rw [c1]; decide) (by decide) ?_
    refine lv_aload_n C.1 C.2.1 dX8_detail_40 rfl (lv_at hl 0 rfl) ?_
    obtain ⟨g2, h⟩ := gdE h
    refine r_get (v := .int (zF z 452 x0)) C hw g2 (by decide) (Cn := RX8) (T := TX8) (N := 10) rfl in_X8_detail_X8 4 (by decide) (by decide +kernel) (fun _ h => h) rfl dX8_detail_41 ?_
    cases h
    replace hF : _ = fin := hF
    subst hF
    exact r_iret C hw dX8_detail_44
  replace h := brF h c1
  by_cases c3 : x1 = (1 : Int32)
  · replace h := brT h c3
    refine lv_tableIn (off := 44) (tgt := 45) C.1 C.2.1 dX8_detail_1 (by rw [c3]; decide) (by rw [c3]; decide) (by rw [c3]; decide) (by decide) ?_
    refine lv_aload_n C.1 C.2.1 dX8_detail_45 rfl (lv_at hl 0 rfl) ?_
    obtain ⟨g4, h⟩ := gdE h
    refine r_get (v := .int (zF z 453 x0)) C hw g4 (by decide) (Cn := RX8) (T := TX8) (N := 10) rfl in_X8_detail_X8 5 (by decide) (by decide +kernel) (fun _ h => h) rfl dX8_detail_46 ?_
    cases h
    replace hF : _ = fin := hF
    subst hF
    exact r_iret C hw dX8_detail_49
  replace h := brF h c3
  by_cases c5 : x1 = (2 : Int32)
  · replace h := brT h c5
    refine lv_tableIn (off := 49) (tgt := 50) C.1 C.2.1 dX8_detail_1 (by rw [c5]; decide) (by rw [c5]; decide) (by rw [c5]; decide) (by decide) ?_
    refine lv_aload_n C.1 C.2.1 dX8_detail_50 rfl (lv_at hl 0 rfl) ?_
    obtain ⟨g6, h⟩ := gdE h
    refine r_get (v := .int (zF z 454 x0)) C hw g6 (by decide) (Cn := RX8) (T := TX8) (N := 10) rfl in_X8_detail_X8 6 (by decide) (by decide +kernel) (fun _ h => h) rfl dX8_detail_51 ?_
    cases h
    replace hF : _ = fin := hF
    subst hF
    exact r_iret C hw dX8_detail_54
  replace h := brF h c5
  by_cases c7 : x1 = (3 : Int32)
  · replace h := brT h c7
    refine lv_tableIn (off := 54) (tgt := 55) C.1 C.2.1 dX8_detail_1 (by rw [c7]; decide) (by rw [c7]; decide) (by rw [c7]; decide) (by decide) ?_
    refine lv_aload_n C.1 C.2.1 dX8_detail_55 rfl (lv_at hl 0 rfl) ?_
    obtain ⟨g8, h⟩ := gdE h
    refine r_get (v := .int (zF z 455 x0)) C hw g8 (by decide) (Cn := RX8) (T := TX8) (N := 10) rfl in_X8_detail_X8 7 (by decide) (by decide +kernel) (fun _ h => h) rfl dX8_detail_56 ?_
    cases h
    replace hF : _ = fin := hF
    subst hF
    exact r_iret C hw dX8_detail_59
  replace h := brF h c7
  by_cases c9 : x1 = (4 : Int32)
  · replace h := brT h c9
    refine lv_tableIn (off := 59) (tgt := 60) C.1 C.2.1 dX8_detail_1 (by rw [c9]; decide) (by rw [c9]; decide) (by rw [c9]; decide) (by decide) ?_
    refine lv_aload_n C.1 C.2.1 dX8_detail_60 rfl (lv_at hl 0 rfl) ?_
    obtain ⟨g10, h⟩ := gdE h
    refine r_get (v := .int (zF z 456 x0)) C hw g10 (by decide) (Cn := RX8) (T := TX8) (N := 10) rfl in_X8_detail_X8 8 (by decide) (by decide +kernel) (fun _ h => h) rfl dX8_detail_61 ?_
    refine lv_if_eq (tgt := 71) C.1 C.2.1 dX8_detail_64 (by decide) (fun c11 => ?_) (fun c11 => ?_)
    · replace h := brT h c11
      refine lv_iconst (v := (0 : Int32)) C.1 C.2.1 dX8_detail_71 (by decide) ?_
      cases h
      replace hF : _ = fin := hF
      subst hF
      exact r_iret C hw dX8_detail_72
    · replace h := brF h c11
      refine lv_iconst (v := (1 : Int32)) C.1 C.2.1 dX8_detail_67 (by decide) ?_
      refine lv_goto (tgt := 72) C.1 C.2.1 dX8_detail_68 (by decide) ?_
      cases h
      replace hF : _ = fin := hF
      subst hF
      exact r_iret C hw dX8_detail_72
  replace h := brF h c9
  by_cases c12 : x1 = (5 : Int32)
  · replace h := brT h c12
    refine lv_tableIn (off := 72) (tgt := 73) C.1 C.2.1 dX8_detail_1 (by rw [c12]; decide) (by rw [c12]; decide) (by rw [c12]; decide) (by decide) ?_
    refine lv_aload_n C.1 C.2.1 dX8_detail_73 rfl (lv_at hl 0 rfl) ?_
    obtain ⟨g13, h⟩ := gdE h
    refine r_get (v := .int (zF z 457 x0)) C hw g13 (by decide) (Cn := RX8) (T := TX8) (N := 10) rfl in_X8_detail_X8 9 (by decide) (by decide +kernel) (fun _ h => h) rfl dX8_detail_74 ?_
    cases h
    replace hF : _ = fin := hF
    subst hF
    exact r_iret C hw dX8_detail_77
  replace h := brF h c12
  refine lv_tableOut (tgt := 78) C.1 C.2.1 dX8_detail_1 (by have := ne_ti c1; have : (0 : Int32).toInt = 0 := (by decide); have := ne_ti c3; have : (1 : Int32).toInt = 1 := (by decide); have := ne_ti c5; have : (2 : Int32).toInt = 2 := (by decide); have := ne_ti c7; have : (3 : Int32).toInt = 3 := (by decide); have := ne_ti c9; have : (4 : Int32).toInt = 4 := (by decide); have := ne_ti c12; have : (5 : Int32).toInt = 5 := (by decide); omega) (by decide) ?_
  refine lv_bipush (v := (-2 : Int32)) C.1 C.2.1 dX8_detail_78 (by decide) ?_
  cases h
  replace hF : _ = fin := hF
  subst hF
  exact r_iret C hw dX8_detail_80
set_option maxRecDepth 100000 in
theorem kX8_detail (l : Launch) (n0 : Nat) (D : va_G) (Y : Nat → ClassId) (N : Nat) (x0 : Nat) (x1 : Int32) (z : Hp) {r : Int32} (h : fX8_detail N x0 x1 z = some r) : Met l yX8_detail wsX8_detail rmX8_detail (PreC n0 D Y z [.ref (n0 + x0), .int x1]) (PosI n0 D Y z r) 0 0 (AA n0) := by
  refine Met.ofW (cc := cX8_detail) (maxL := 2) (ret := (some .int)) (by decide) rfl ?_
  intro p e s m args below meth c s₁ B hml hv
  obtain ⟨rfl, hR, hK⟩ := hv
  have C : Cx n0 D Y RX8 cX8_detail (some .int) 2 wsX8_detail "detail" p s m ([.ref (n0 + x0), .int x1] : List Value).toArray meth c := ⟨B.exec, B.bytes, B.returns, hml, findClass_of_methodNamed B.named, atoms_spec (ws := wsX8_detail) B.pre, B.notSynchronized, (name_of_methodNamed B.named B.method).1, hK⟩
  have hl := lv_entry ([.ref (n0 + x0), .int x1]) (n := 2) (Nat.le_of_ble_eq_true rfl)
  rw [lg_entry_eq]
  generalize (lg_sl ([.ref (n0 + x0), .int x1]) ++ List.replicate (2 - (lg_sl ([.ref (n0 + x0), .int x1])).length) Slot.unset).toArray = ls at hl ⊢
  have hl : lv_has ls 2 [(0, .ref (n0 + x0)), (1, .int x1)] := hl
  exact tX8_detail_0 C h rfl ⟨hR, va_S.rf⟩ hl
theorem in_X9_init_X9 : ∀ w ∈ wsX90, w ∈ wsX9_init := by decide +kernel
abbrev rmX9_init : Room := { frames := 1, cells := 3, slots := 19, locals := 24 }
noncomputable def fX9_init (N : Nat) (x0 : Nat) (x1 : Int32) (x2 : Int32) (x3 : Int32) (x4 : Int32) (x5 : Int32) (x6 : Int32) (z : Hp) : Option (Hp) := gd (x0 < zn z ∧ zK z x0 = 8) <| bd (zsF z 512 x0 x1) fun z1 => bd (zsF z1 513 x0 x2) fun z4 => bd (zsF z4 514 x0 x6) fun z7 => bd (zal z7 12 3) fun z10 => bd (zsG z10 515 x0 (some (zn z7))) fun z13 => bo (zG z13 515 x0) fun b19 => gd (b19 < zn z13 ∧ zK z13 b19 = 12) <| gd (¬ ((0 : Int32) < 0 ∨ zL z13 b19 ≤ Int32.toNatClampNeg (0 : Int32))) <| bd (zsA z13 b19 (Int32.toNatClampNeg (0 : Int32)) x3) fun z22 => bo (zG z22 515 x0) fun b26 => gd (b26 < zn z22 ∧ zK z22 b26 = 12) <| gd (¬ ((1 : Int32) < 0 ∨ zL z22 b26 ≤ Int32.toNatClampNeg (1 : Int32))) <| bd (zsA z22 b26 (Int32.toNatClampNeg (1 : Int32)) x4) fun z29 => bo (zG z29 515 x0) fun b33 => gd (b33 < zn z29 ∧ zK z29 b33 = 12) <| gd (¬ ((2 : Int32) < 0 ∨ zL z29 b33 ≤ Int32.toNatClampNeg (2 : Int32))) <| bd (zsA z29 b33 (Int32.toNatClampNeg (2 : Int32)) x5) fun z36 => bd (zal z36 12 8) fun z38 => bd (zsG z38 516 x0 (some (zn z36))) fun z41 => bd (zal z41 12 8) fun z45 => bd (zsG z45 517 x0 (some (zn z41))) fun z48 => some z48
set_option maxHeartbeats 4000000 in
set_option maxRecDepth 100000 in
theorem tX9_init_0 {n0 : Nat} {D : va_G} {Y : Nat → ClassId} {p : Program} {l : Launch} {e : Env} {s : State} {m : MethodId} {args : Array Value} {below : List Frame} {meth : Method} {c : Code} {N : Nat} {fin : Hp} {x0 : Nat} {x1 : Int32} {x2 : Int32} {x3 : Int32} {x4 : Int32} {x5 : Int32} {x6 : Int32}  {z : Hp} (C : Cx n0 D Y RX9 cX9_init none 7 wsX9_init "<init>" p s m args meth c) {x : (Hp)} (h : fX9_init N x0 x1 x2 x3 x4 x5 x6  z = some x) (hF : (fun x => x = fin) x) {H : Heap} {locs : List Loc} {ls : Array Slot} (hw : Wd n0 D Y z s H locs) (hl : lv_has ls 7 [(0, .ref (n0 + x0)), (1, .int x1), (2, .int x2), (3, .int x3), (4, .int x4), (5, .int x5), (6, .int x6)]) : W p l e rmX9_init s m args below meth c H locs 0 0 (MQ below (PosV n0 D Y fin) args s 3 19 (AA n0)) (F0 m 0 ls []) := by
  unfold fX9_init at h
  refine lv_aload_n C.1 C.2.1 dX9_init_0 rfl (lv_at hl 0 rfl) ?_
  refine W.objInit C.1 C.2.1 C.2.2.2.2.1 (C.2.2.2.2.2.1 (.methodLink RX9 3 objectInit) (by decide +kernel)) (C.2.2.2.2.2.1 (.instanceMethod objectInit) (by decide +kernel)) (C.2.2.2.2.2.1 _ (List.mem_of_getElem? (i := 3) rfl)) rfl (by rw [C.2.2.2.1]; exact hl.1) rfl dX9_init_1 (Nat.le_of_ble_eq_true rfl) (Nat.le_of_ble_eq_true rfl) ?_
  refine W.eq (g2 := F0 m 4 ls []) rfl ?_
  refine lv_aload_n C.1 C.2.1 dX9_init_4 rfl (lv_at hl 0 rfl) ?_
  refine lv_iload_n C.1 C.2.1 dX9_init_5 rfl (lv_at hl 1 rfl) ?_
  obtain ⟨g3, h⟩ := gdE h
  obtain ⟨z1, e2, h⟩ := bdE h
  refine r_putI C hw g3 (by decide) (Cn := RX9) (T := TX9) (N := 7) rfl in_X9_init_X9 tyX9 tyX9_ok nmX9 0 (by decide) (by decide +kernel) (fun _ h => h) (Or.inr ⟨rfl, rfl, rfl⟩) (ty := .int) (by decide +kernel) rfl rfl (Nat.le_of_ble_eq_true rfl) (st_8_0 n0 z x0 x1) e2 dX9_init_6 (fun H locs hw => ?_)
  refine lv_aload_n C.1 C.2.1 dX9_init_9 rfl (lv_at hl 0 rfl) ?_
  refine lv_iload_n C.1 C.2.1 dX9_init_10 rfl (lv_at hl 2 rfl) ?_
  have g6 : x0 < zn z1 ∧ zK z1 x0 = 8 := by rw [e2]; exact g3
  obtain ⟨z4, e5, h⟩ := bdE h
  refine r_putI C hw g6 (by decide) (Cn := RX9) (T := TX9) (N := 7) rfl in_X9_init_X9 tyX9 tyX9_ok nmX9 1 (by decide) (by decide +kernel) (fun _ h => h) (Or.inr ⟨rfl, rfl, rfl⟩) (ty := .int) (by decide +kernel) rfl rfl (Nat.le_of_ble_eq_true rfl) (st_8_1 n0 z1 x0 x2) e5 dX9_init_11 (fun H locs hw => ?_)
  refine lv_aload_n C.1 C.2.1 dX9_init_14 rfl (lv_at hl 0 rfl) ?_
  refine lv_iload C.1 C.2.1 dX9_init_15 (lv_at hl 6 rfl) ?_
  have g9 : x0 < zn z4 ∧ zK z4 x0 = 8 := by rw [e5]; exact g6
  obtain ⟨z7, e8, h⟩ := bdE h
  refine r_putI C hw g9 (by decide) (Cn := RX9) (T := TX9) (N := 7) rfl in_X9_init_X9 tyX9 tyX9_ok nmX9 2 (by decide) (by decide +kernel) (fun _ h => h) (Or.inr ⟨rfl, rfl, rfl⟩) (ty := .int) (by decide +kernel) rfl rfl (Nat.le_of_ble_eq_true rfl) (st_8_2 n0 z4 x0 x6) e8 dX9_init_17 (fun H locs hw => ?_)
  refine lv_aload_n C.1 C.2.1 dX9_init_20 rfl (lv_at hl 0 rfl) ?_
  refine lv_iconst (v := (3 : Int32)) C.1 C.2.1 dX9_init_21 (by decide) ?_
  obtain ⟨z10, e11, h⟩ := bdE h
  refine r_newi C hw (by decide +kernel) (N' := 3) (by decide) (by decide) (by decide) (by decide) (by decide) dX9_init_22 (fun H hw => ?_)
  rw [← e11] at hw
  have g12 : (zn z7) < zn z10 ∧ zK z10 (zn z7) = 12 := by rw [e11]; exact ok_new _ _ _
  have g15 : x0 < zn z7 ∧ zK z7 x0 = 8 := by rw [e8]; exact g9
  have g16 : x0 < zn z10 ∧ zK z10 x0 = 8 := by rw [e11]; exact ok_al _ _ g15
  obtain ⟨z13, e14, h⟩ := bdE h
  refine r_putG C hw g16 (by decide) (Cn := RX9) (T := TX9) (N := 7) rfl in_X9_init_X9 tyX9 tyX9_ok nmX9 3 (by decide) (by decide +kernel) (fun _ h => h) (Or.inr ⟨rfl, rfl, rfl⟩) (ty := .array .int) (by decide +kernel) rfl rfl (Nat.le_of_ble_eq_true rfl) (st_8_3 n0 z10 x0 (some (zn z7))) e14 dX9_init_24 (fun H locs hw => ?_)
  refine lv_aload_n C.1 C.2.1 dX9_init_27 rfl (lv_at hl 0 rfl) ?_
  have g17 : x0 < zn z13 ∧ zK z13 x0 = 8 := by rw [e14]; exact g16
  refine r_get (v := rv n0 (zG z13 515 x0)) C hw g17 (by decide) (Cn := RX9) (T := TX9) (N := 7) rfl in_X9_init_X9 3 (by decide) (by decide +kernel) (fun _ h => h) rfl dX9_init_28 ?_
  obtain ⟨b19, e18, h⟩ := boE h
  refine r_topr e18 ?_
  refine lv_iconst (v := (0 : Int32)) C.1 C.2.1 dX9_init_31 (by decide) ?_
  refine lv_iload_n C.1 C.2.1 dX9_init_32 rfl (lv_at hl 3 rfl) ?_
  obtain ⟨g20, h⟩ := gdE h
  obtain ⟨i21, h⟩ := gdE h
  obtain ⟨z22, e23, h⟩ := bdE h
  refine r_iast C hw g20 i21 e23 dX9_init_33 (fun H locs hw => ?_)
  refine lv_aload_n C.1 C.2.1 dX9_init_34 rfl (lv_at hl 0 rfl) ?_
  have g24 : x0 < zn z22 ∧ zK z22 x0 = 8 := by rw [e23]; exact g17
  refine r_get (v := rv n0 (zG z22 515 x0)) C hw g24 (by decide) (Cn := RX9) (T := TX9) (N := 7) rfl in_X9_init_X9 3 (by decide) (by decide +kernel) (fun _ h => h) rfl dX9_init_35 ?_
  obtain ⟨b26, e25, h⟩ := boE h
  refine r_topr e25 ?_
  refine lv_iconst (v := (1 : Int32)) C.1 C.2.1 dX9_init_38 (by decide) ?_
  refine lv_iload C.1 C.2.1 dX9_init_39 (lv_at hl 4 rfl) ?_
  obtain ⟨g27, h⟩ := gdE h
  obtain ⟨i28, h⟩ := gdE h
  obtain ⟨z29, e30, h⟩ := bdE h
  refine r_iast C hw g27 i28 e30 dX9_init_41 (fun H locs hw => ?_)
  refine lv_aload_n C.1 C.2.1 dX9_init_42 rfl (lv_at hl 0 rfl) ?_
  have g31 : x0 < zn z29 ∧ zK z29 x0 = 8 := by rw [e30]; exact g24
  refine r_get (v := rv n0 (zG z29 515 x0)) C hw g31 (by decide) (Cn := RX9) (T := TX9) (N := 7) rfl in_X9_init_X9 3 (by decide) (by decide +kernel) (fun _ h => h) rfl dX9_init_43 ?_
  obtain ⟨b33, e32, h⟩ := boE h
  refine r_topr e32 ?_
  refine lv_iconst (v := (2 : Int32)) C.1 C.2.1 dX9_init_46 (by decide) ?_
  refine lv_iload C.1 C.2.1 dX9_init_47 (lv_at hl 5 rfl) ?_
  obtain ⟨g34, h⟩ := gdE h
  obtain ⟨i35, h⟩ := gdE h
  obtain ⟨z36, e37, h⟩ := bdE h
  refine r_iast C hw g34 i35 e37 dX9_init_49 (fun H locs hw => ?_)
  refine lv_aload_n C.1 C.2.1 dX9_init_50 rfl (lv_at hl 0 rfl) ?_
  refine lv_bipush (v := (8 : Int32)) C.1 C.2.1 dX9_init_51 (by decide) ?_
  obtain ⟨z38, e39, h⟩ := bdE h
  refine r_newi C hw (by decide +kernel) (N' := 8) (by decide) (by decide) (by decide) (by decide) (by decide) dX9_init_53 (fun H hw => ?_)
  rw [← e39] at hw
  have g40 : (zn z36) < zn z38 ∧ zK z38 (zn z36) = 12 := by rw [e39]; exact ok_new _ _ _
  have g43 : x0 < zn z36 ∧ zK z36 x0 = 8 := by rw [e37]; exact g31
  have g44 : x0 < zn z38 ∧ zK z38 x0 = 8 := by rw [e39]; exact ok_al _ _ g43
  obtain ⟨z41, e42, h⟩ := bdE h
  refine r_putG C hw g44 (by decide) (Cn := RX9) (T := TX9) (N := 7) rfl in_X9_init_X9 tyX9 tyX9_ok nmX9 4 (by decide) (by decide +kernel) (fun _ h => h) (Or.inr ⟨rfl, rfl, rfl⟩) (ty := .array .int) (by decide +kernel) rfl rfl (Nat.le_of_ble_eq_true rfl) (st_8_4 n0 z38 x0 (some (zn z36))) e42 dX9_init_55 (fun H locs hw => ?_)
  refine lv_aload_n C.1 C.2.1 dX9_init_58 rfl (lv_at hl 0 rfl) ?_
  refine lv_bipush (v := (8 : Int32)) C.1 C.2.1 dX9_init_59 (by decide) ?_
  obtain ⟨z45, e46, h⟩ := bdE h
  refine r_newi C hw (by decide +kernel) (N' := 8) (by decide) (by decide) (by decide) (by decide) (by decide) dX9_init_61 (fun H hw => ?_)
  rw [← e46] at hw
  have g47 : (zn z41) < zn z45 ∧ zK z45 (zn z41) = 12 := by rw [e46]; exact ok_new _ _ _
  have g50 : x0 < zn z41 ∧ zK z41 x0 = 8 := by rw [e42]; exact g44
  have g51 : x0 < zn z45 ∧ zK z45 x0 = 8 := by rw [e46]; exact ok_al _ _ g50
  obtain ⟨z48, e49, h⟩ := bdE h
  refine r_putG C hw g51 (by decide) (Cn := RX9) (T := TX9) (N := 7) rfl in_X9_init_X9 tyX9 tyX9_ok nmX9 5 (by decide) (by decide +kernel) (fun _ h => h) (Or.inr ⟨rfl, rfl, rfl⟩) (ty := .array .int) (by decide +kernel) rfl rfl (Nat.le_of_ble_eq_true rfl) (st_8_5 n0 z45 x0 (some (zn z41))) e49 dX9_init_63 (fun H locs hw => ?_)
  cases h
  replace hF : _ = fin := hF
  subst hF
  exact r_vret C hw dX9_init_66
set_option maxRecDepth 100000 in
theorem kX9_init (l : Launch) (n0 : Nat) (D : va_G) (Y : Nat → ClassId) (N : Nat) (x0 : Nat) (x1 : Int32) (x2 : Int32) (x3 : Int32) (x4 : Int32) (x5 : Int32) (x6 : Int32) (z : Hp) {z1 : Hp} (h : fX9_init N x0 x1 x2 x3 x4 x5 x6 z = some z1) : Met l yX9_init wsX9_init rmX9_init (PreC n0 D Y z [.ref (n0 + x0), .int x1, .int x2, .int x3, .int x4, .int x5, .int x6]) (PosV n0 D Y z1) 3 19 (AA n0) := by
  refine Met.ofW (cc := cX9_init) (maxL := 7) (ret := none) (by decide) rfl ?_
  intro p e s m args below meth c s₁ B hml hv
  obtain ⟨rfl, hR, hK⟩ := hv
  have C : Cx n0 D Y RX9 cX9_init none 7 wsX9_init "<init>" p s m ([.ref (n0 + x0), .int x1, .int x2, .int x3, .int x4, .int x5, .int x6] : List Value).toArray meth c := ⟨B.exec, B.bytes, B.returns, hml, findClass_of_methodNamed B.named, atoms_spec (ws := wsX9_init) B.pre, B.notSynchronized, (name_of_methodNamed B.named B.method).1, hK⟩
  have hl := lv_entry ([.ref (n0 + x0), .int x1, .int x2, .int x3, .int x4, .int x5, .int x6]) (n := 7) (Nat.le_of_ble_eq_true rfl)
  rw [lg_entry_eq]
  generalize (lg_sl ([.ref (n0 + x0), .int x1, .int x2, .int x3, .int x4, .int x5, .int x6]) ++ List.replicate (7 - (lg_sl ([.ref (n0 + x0), .int x1, .int x2, .int x3, .int x4, .int x5, .int x6])).length) Slot.unset).toArray = ls at hl ⊢
  have hl : lv_has ls 7 [(0, .ref (n0 + x0)), (1, .int x1), (2, .int x2), (3, .int x3), (4, .int x4), (5, .int x5), (6, .int x6)] := hl
  exact tX9_init_0 C h rfl ⟨hR, va_S.rf⟩ hl
theorem in_X9_isFull_X9 : ∀ w ∈ wsX90, w ∈ wsX9_isFull := by decide +kernel
abbrev rmX9_isFull : Room := { frames := 0, cells := 0, slots := 0, locals := 0 }
noncomputable def fX9_isFull (N : Nat) (x0 : Nat) (z : Hp) : Option (Int32) := gd (x0 < zn z ∧ zK z x0 = 8) <| br ((zF z 518 x0) < (8 : Int32)) (some (0 : Int32)) (some (1 : Int32))
set_option maxHeartbeats 4000000 in
set_option maxRecDepth 100000 in
theorem tX9_isFull_0 {n0 : Nat} {D : va_G} {Y : Nat → ClassId} {p : Program} {l : Launch} {e : Env} {s : State} {m : MethodId} {args : Array Value} {below : List Frame} {meth : Method} {c : Code} {N : Nat} {fin : Int32} {x0 : Nat}  {z : Hp} (C : Cx n0 D Y RX9 cX9_isFull (some .boolean) 1 wsX9_isFull "isFull" p s m args meth c) {x : (Int32)} (h : fX9_isFull N x0  z = some x) (hF : (fun x => x = fin) x) {H : Heap} {locs : List Loc} {ls : Array Slot} (hw : Wd n0 D Y z s H locs) (hl : lv_has ls 1 [(0, .ref (n0 + x0))]) : W p l e rmX9_isFull s m args below meth c H locs 0 0 (MQ below (PosI n0 D Y z fin) args s 0 0 (AA n0)) (F0 m 0 ls []) := by
  unfold fX9_isFull at h
  refine lv_aload_n C.1 C.2.1 dX9_isFull_0 rfl (lv_at hl 0 rfl) ?_
  obtain ⟨g1, h⟩ := gdE h
  refine r_get (v := .int (zF z 518 x0)) C hw g1 (by decide) (Cn := RX9) (T := TX9) (N := 7) rfl in_X9_isFull_X9 6 (by decide) (by decide +kernel) (fun _ h => h) rfl dX9_isFull_1 ?_
  refine lv_bipush (v := (8 : Int32)) C.1 C.2.1 dX9_isFull_4 (by decide) ?_
  refine lv_icmp_lt (tgt := 13) C.1 C.2.1 dX9_isFull_6 (by decide) (fun c2 => ?_) (fun c2 => ?_)
  · replace h := brT h c2
    refine lv_iconst (v := (0 : Int32)) C.1 C.2.1 dX9_isFull_13 (by decide) ?_
    cases h
    replace hF : _ = fin := hF
    subst hF
    exact r_zret C hw (by decide) dX9_isFull_14
  · replace h := brF h c2
    refine lv_iconst (v := (1 : Int32)) C.1 C.2.1 dX9_isFull_9 (by decide) ?_
    refine lv_goto (tgt := 14) C.1 C.2.1 dX9_isFull_10 (by decide) ?_
    cases h
    replace hF : _ = fin := hF
    subst hF
    exact r_zret C hw (by decide) dX9_isFull_14
set_option maxRecDepth 100000 in
theorem kX9_isFull (l : Launch) (n0 : Nat) (D : va_G) (Y : Nat → ClassId) (N : Nat) (x0 : Nat) (z : Hp) {r : Int32} (h : fX9_isFull N x0 z = some r) : Met l yX9_isFull wsX9_isFull rmX9_isFull (PreC n0 D Y z [.ref (n0 + x0)]) (PosI n0 D Y z r) 0 0 (AA n0) := by
  refine Met.ofW (cc := cX9_isFull) (maxL := 1) (ret := (some .boolean)) (by decide) rfl ?_
  intro p e s m args below meth c s₁ B hml hv
  obtain ⟨rfl, hR, hK⟩ := hv
  have C : Cx n0 D Y RX9 cX9_isFull (some .boolean) 1 wsX9_isFull "isFull" p s m ([.ref (n0 + x0)] : List Value).toArray meth c := ⟨B.exec, B.bytes, B.returns, hml, findClass_of_methodNamed B.named, atoms_spec (ws := wsX9_isFull) B.pre, B.notSynchronized, (name_of_methodNamed B.named B.method).1, hK⟩
  have hl := lv_entry ([.ref (n0 + x0)]) (n := 1) (Nat.le_of_ble_eq_true rfl)
  rw [lg_entry_eq]
  generalize (lg_sl ([.ref (n0 + x0)]) ++ List.replicate (1 - (lg_sl ([.ref (n0 + x0)])).length) Slot.unset).toArray = ls at hl ⊢
  have hl : lv_has ls 1 [(0, .ref (n0 + x0))] := hl
  exact tX9_isFull_0 C h rfl ⟨hR, va_S.rf⟩ hl
theorem in_X9_addStep_X9 : ∀ w ∈ wsX90, w ∈ wsX9_addStep := by decide +kernel
abbrev rmX9_addStep : Room := { frames := 1, cells := 0, slots := 0, locals := 20 }
noncomputable def fX9_addStep_37 (N : Nat) (x0 : Nat) (z : Hp) : Option (Hp) := some z
set_option maxHeartbeats 4000000 in
set_option maxRecDepth 100000 in
theorem tX9_addStep_37 {n0 : Nat} {D : va_G} {Y : Nat → ClassId} {p : Program} {l : Launch} {e : Env} {s : State} {m : MethodId} {args : Array Value} {below : List Frame} {meth : Method} {c : Code} {N : Nat} {fin : Hp} {x0 : Nat}  {z : Hp} (C : Cx n0 D Y RX9 cX9_addStep none 3 wsX9_addStep "addStep" p s m args meth c) {x : (Hp)} (h : fX9_addStep_37 N x0  z = some x) (hF : (fun x => x = fin) x) {H : Heap} {locs : List Loc} {ls : Array Slot} (hw : Wd n0 D Y z s H locs) (hl : lv_has ls 3 [(0, .ref (n0 + x0))]) : W p l e rmX9_addStep s m args below meth c H locs 0 0 (MQ below (PosV n0 D Y fin) args s 0 0 (AA n0)) (F0 m 37 ls []) := by
  unfold fX9_addStep_37 at h
  cases h
  replace hF : _ = fin := hF
  subst hF
  exact r_vret C hw dX9_addStep_37
noncomputable def fX9_addStep (N : Nat) (x0 : Nat) (x1 : Int32) (x2 : Int32) (z : Hp) : Option (Hp) := gd (x0 < zn z ∧ zK z x0 = 8) <| bo (fX9_isFull N x0 z) fun r2 => br (r2 = 0) (bo (zG z 516 x0) fun b6 => gd (b6 < zn z ∧ zK z b6 = 12) <| gd (¬ ((zF z 518 x0) < 0 ∨ zL z b6 ≤ Int32.toNatClampNeg (zF z 518 x0))) <| bd (zsA z b6 (Int32.toNatClampNeg (zF z 518 x0)) x1) fun z9 => bo (zG z9 517 x0) fun b13 => gd (b13 < zn z9 ∧ zK z9 b13 = 12) <| gd (¬ ((zF z9 518 x0) < 0 ∨ zL z9 b13 ≤ Int32.toNatClampNeg (zF z9 518 x0))) <| bd (zsA z9 b13 (Int32.toNatClampNeg (zF z9 518 x0)) x2) fun z16 => bd (zsF z16 518 x0 ((zF z16 518 x0) + (1 : Int32))) fun z19 => fX9_addStep_37 N x0 z19) (fX9_addStep_37 N x0 z)
set_option maxHeartbeats 4000000 in
set_option maxRecDepth 100000 in
theorem tX9_addStep_0 {n0 : Nat} {D : va_G} {Y : Nat → ClassId} {p : Program} {l : Launch} {e : Env} {s : State} {m : MethodId} {args : Array Value} {below : List Frame} {meth : Method} {c : Code} {N : Nat} {fin : Hp} {x0 : Nat} {x1 : Int32} {x2 : Int32}  {z : Hp} (C : Cx n0 D Y RX9 cX9_addStep none 3 wsX9_addStep "addStep" p s m args meth c) {x : (Hp)} (h : fX9_addStep N x0 x1 x2  z = some x) (hF : (fun x => x = fin) x) {H : Heap} {locs : List Loc} {ls : Array Slot} (hw : Wd n0 D Y z s H locs) (hl : lv_has ls 3 [(0, .ref (n0 + x0)), (1, .int x1), (2, .int x2)]) : W p l e rmX9_addStep s m args below meth c H locs 0 0 (MQ below (PosV n0 D Y fin) args s 0 0 (AA n0)) (F0 m 0 ls []) := by
  unfold fX9_addStep at h
  refine lv_aload_n C.1 C.2.1 dX9_addStep_0 rfl (lv_at hl 0 rfl) ?_
  obtain ⟨g3, h⟩ := gdE h
  obtain ⟨r2, e1, h⟩ := boE h
  refine r_afti hw (r_runV (As := []) (rest := []) C hw (ki := 8) g3 (by decide) rfl (kX9_isFull l n0 D Y N x0  z e1) (cwV 0 C.2.2.2.2.2.1 gX9_addStep_X9_isFull rfl rfl rfl (by decide +kernel) ⟨(Nat.le_of_ble_eq_true rfl), (Nat.le_of_ble_eq_true rfl)⟩) rfl hl.1 rfl (Nat.le_of_ble_eq_true rfl) dX9_addStep_1 ⟨(Nat.le_of_ble_eq_true rfl), (Nat.le_of_ble_eq_true rfl)⟩) (fun H locs hw => ?_)
  refine lv_if_ne (tgt := 37) C.1 C.2.1 dX9_addStep_4 (by decide) (fun c4 => ?_) (fun c4 => ?_)
  · replace h := brF h c4
    exact tX9_addStep_37 C h hF hw (lv_sub hl [0] rfl)
  · replace h := brT h c4
    refine lv_aload_n C.1 C.2.1 dX9_addStep_7 rfl (lv_at hl 0 rfl) ?_
    refine r_get (v := rv n0 (zG z 516 x0)) C hw g3 (by decide) (Cn := RX9) (T := TX9) (N := 7) rfl in_X9_addStep_X9 4 (by decide) (by decide +kernel) (fun _ h => h) rfl dX9_addStep_8 ?_
    obtain ⟨b6, e5, h⟩ := boE h
    refine r_topr e5 ?_
    refine lv_aload_n C.1 C.2.1 dX9_addStep_11 rfl (lv_at hl 0 rfl) ?_
    refine r_get (v := .int (zF z 518 x0)) C hw g3 (by decide) (Cn := RX9) (T := TX9) (N := 7) rfl in_X9_addStep_X9 6 (by decide) (by decide +kernel) (fun _ h => h) rfl dX9_addStep_12 ?_
    refine lv_iload_n C.1 C.2.1 dX9_addStep_15 rfl (lv_at hl 1 rfl) ?_
    obtain ⟨g7, h⟩ := gdE h
    obtain ⟨i8, h⟩ := gdE h
    obtain ⟨z9, e10, h⟩ := bdE h
    refine r_iast C hw g7 i8 e10 dX9_addStep_16 (fun H locs hw => ?_)
    refine lv_aload_n C.1 C.2.1 dX9_addStep_17 rfl (lv_at hl 0 rfl) ?_
    have g11 : x0 < zn z9 ∧ zK z9 x0 = 8 := by rw [e10]; exact g3
    refine r_get (v := rv n0 (zG z9 517 x0)) C hw g11 (by decide) (Cn := RX9) (T := TX9) (N := 7) rfl in_X9_addStep_X9 5 (by decide) (by decide +kernel) (fun _ h => h) rfl dX9_addStep_18 ?_
    obtain ⟨b13, e12, h⟩ := boE h
    refine r_topr e12 ?_
    refine lv_aload_n C.1 C.2.1 dX9_addStep_21 rfl (lv_at hl 0 rfl) ?_
    refine r_get (v := .int (zF z9 518 x0)) C hw g11 (by decide) (Cn := RX9) (T := TX9) (N := 7) rfl in_X9_addStep_X9 6 (by decide) (by decide +kernel) (fun _ h => h) rfl dX9_addStep_22 ?_
    refine lv_iload_n C.1 C.2.1 dX9_addStep_25 rfl (lv_at hl 2 rfl) ?_
    obtain ⟨g14, h⟩ := gdE h
    obtain ⟨i15, h⟩ := gdE h
    obtain ⟨z16, e17, h⟩ := bdE h
    refine r_iast C hw g14 i15 e17 dX9_addStep_26 (fun H locs hw => ?_)
    refine lv_aload_n C.1 C.2.1 dX9_addStep_27 rfl (lv_at hl 0 rfl) ?_
    refine lv_dup C.1 C.2.1 dX9_addStep_28 rfl ?_
    have g18 : x0 < zn z16 ∧ zK z16 x0 = 8 := by rw [e17]; exact g11
    refine r_get (v := .int (zF z16 518 x0)) C hw g18 (by decide) (Cn := RX9) (T := TX9) (N := 7) rfl in_X9_addStep_X9 6 (by decide) (by decide +kernel) (fun _ h => h) rfl dX9_addStep_29 ?_
    refine lv_iconst (v := (1 : Int32)) C.1 C.2.1 dX9_addStep_32 (by decide) ?_
    refine lv_iadd C.1 C.2.1 dX9_addStep_33 ?_
    obtain ⟨z19, e20, h⟩ := bdE h
    refine r_putI C hw g18 (by decide) (Cn := RX9) (T := TX9) (N := 7) rfl in_X9_addStep_X9 tyX9 tyX9_ok nmX9 6 (by decide) (by decide +kernel) (fun _ h => h) (Or.inl rfl) (ty := .int) (by decide +kernel) rfl rfl (Nat.le_of_ble_eq_true rfl) (st_8_6 n0 z16 x0 ((zF z16 518 x0) + (1 : Int32))) e20 dX9_addStep_34 (fun H locs hw => ?_)
    exact tX9_addStep_37 C h hF hw (lv_sub hl [0] rfl)
set_option maxRecDepth 100000 in
theorem kX9_addStep (l : Launch) (n0 : Nat) (D : va_G) (Y : Nat → ClassId) (N : Nat) (x0 : Nat) (x1 : Int32) (x2 : Int32) (z : Hp) {z1 : Hp} (h : fX9_addStep N x0 x1 x2 z = some z1) : Met l yX9_addStep wsX9_addStep rmX9_addStep (PreC n0 D Y z [.ref (n0 + x0), .int x1, .int x2]) (PosV n0 D Y z1) 0 0 (AA n0) := by
  refine Met.ofW (cc := cX9_addStep) (maxL := 3) (ret := none) (by decide) rfl ?_
  intro p e s m args below meth c s₁ B hml hv
  obtain ⟨rfl, hR, hK⟩ := hv
  have C : Cx n0 D Y RX9 cX9_addStep none 3 wsX9_addStep "addStep" p s m ([.ref (n0 + x0), .int x1, .int x2] : List Value).toArray meth c := ⟨B.exec, B.bytes, B.returns, hml, findClass_of_methodNamed B.named, atoms_spec (ws := wsX9_addStep) B.pre, B.notSynchronized, (name_of_methodNamed B.named B.method).1, hK⟩
  have hl := lv_entry ([.ref (n0 + x0), .int x1, .int x2]) (n := 3) (Nat.le_of_ble_eq_true rfl)
  rw [lg_entry_eq]
  generalize (lg_sl ([.ref (n0 + x0), .int x1, .int x2]) ++ List.replicate (3 - (lg_sl ([.ref (n0 + x0), .int x1, .int x2])).length) Slot.unset).toArray = ls at hl ⊢
  have hl : lv_has ls 3 [(0, .ref (n0 + x0)), (1, .int x1), (2, .int x2)] := hl
  exact tX9_addStep_0 C h rfl ⟨hR, va_S.rf⟩ hl
theorem in_X9_ouncesAt_X9 : ∀ w ∈ wsX90, w ∈ wsX9_ouncesAt := by decide +kernel
abbrev rmX9_ouncesAt : Room := { frames := 0, cells := 0, slots := 0, locals := 0 }
noncomputable def fX9_ouncesAt_54 (N : Nat) (x0 : Nat) (x1 : Int32) (x2 : Int32) (x3 : Int32) (x4 : Int32) (z : Hp) : Option ((Int32 × Int32 × Int32) ⊕ (Int32)) := bd (x4 + (1 : Int32)) fun v1 => some (.inl (x2, x3, v1))
set_option maxHeartbeats 4000000 in
set_option maxRecDepth 100000 in
theorem tX9_ouncesAt_54 {n0 : Nat} {D : va_G} {Y : Nat → ClassId} {p : Program} {l : Launch} {e : Env} {s : State} {m : MethodId} {args : Array Value} {below : List Frame} {meth : Method} {c : Code} {N : Nat} {fin : Int32} {x0 : Nat} {x1 : Int32} {x2 : Int32} {x3 : Int32} {x4 : Int32}  {z : Hp} (C : Cx n0 D Y RX9 cX9_ouncesAt (some .int) 5 wsX9_ouncesAt "ouncesAt" p s m args meth c) {P7 : Int32 × Int32 × Int32 → Prop} (hP7 : ∀ u, P7 u → ∀ (H : Heap) (locs : List Loc) (ls : Array Slot), Wd n0 D Y z s H locs → lv_has ls 5 [(0, .ref (n0 + x0)), (1, .int x1), (2, .int u.1), (3, .int u.2.1), (4, .int u.2.2)] → W p l e rmX9_ouncesAt s m args below meth c H locs 0 0 (MQ below (PosI n0 D Y z fin) args s 0 0 (AA n0)) (F0 m 7 ls [])) {x : ((Int32 × Int32 × Int32) ⊕ (Int32))} (h : fX9_ouncesAt_54 N x0 x1 x2 x3 x4  z = some x) (hF : (Fn P7 (fun x => x = fin)) x) {H : Heap} {locs : List Loc} {ls : Array Slot} (hw : Wd n0 D Y z s H locs) (hl : lv_has ls 5 [(0, .ref (n0 + x0)), (1, .int x1), (2, .int x2), (3, .int x3), (4, .int x4)]) : W p l e rmX9_ouncesAt s m args below meth c H locs 0 0 (MQ below (PosI n0 D Y z fin) args s 0 0 (AA n0)) (F0 m 54 ls []) := by
  unfold fX9_ouncesAt_54 at h
  obtain ⟨v1, e2, h⟩ := bdE h
  refine lv_iinc (v := v1) (lv' := [(4, .int v1), (0, .ref (n0 + x0)), (1, .int x1), (2, .int x2), (3, .int x3)]) C.1 C.2.1 dX9_ouncesAt_54 hl (k := 4) rfl (by rw [e2]; rfl) (by decide) rfl (fun ls hl => ?_)
  refine lv_goto (tgt := 7) C.1 C.2.1 dX9_ouncesAt_57 (by decide) ?_
  cases h
  exact hP7 _ hF _ _ _ hw (lv_sub hl [1, 2, 3, 4, 0] rfl)
noncomputable def fX9_ouncesAt_7 (N : Nat) (x0 : Nat) (x1 : Int32) (x2 : Int32) (x3 : Int32) (x4 : Int32) (z : Hp) : Option ((Int32 × Int32 × Int32) ⊕ (Int32)) := gd (x0 < zn z ∧ zK z x0 = 8) <| br ((zF z 518 x0) ≤ x4) (lf <| some x2) (bo (zG z 516 x0) fun b5 => gd (b5 < zn z ∧ zK z b5 = 12) <| gd (¬ (x4 < 0 ∨ zL z b5 ≤ (x4).toNatClampNeg)) <| br (x1 < (zA z b5 (x4).toNatClampNeg)) (fX9_ouncesAt_54 N x0 x1 x2 x3 x4 z) (bo (zG z 516 x0) fun b10 => gd (b10 < zn z ∧ zK z b10 = 12) <| gd (¬ (x4 < 0 ∨ zL z b10 ≤ (x4).toNatClampNeg)) <| br ((zA z b10 (x4).toNatClampNeg) < x3) (fX9_ouncesAt_54 N x0 x1 x2 x3 x4 z) (bo (zG z 516 x0) fun b15 => gd (b15 < zn z ∧ zK z b15 = 12) <| gd (¬ (x4 < 0 ∨ zL z b15 ≤ (x4).toNatClampNeg)) <| bd (zA z b15 (x4).toNatClampNeg) fun v18 => bo (zG z 517 x0) fun b21 => gd (b21 < zn z ∧ zK z b21 = 12) <| gd (¬ (x4 < 0 ∨ zL z b21 ≤ (x4).toNatClampNeg)) <| bd (zA z b21 (x4).toNatClampNeg) fun v24 => fX9_ouncesAt_54 N x0 x1 v24 v18 x4 z)))
set_option maxHeartbeats 4000000 in
set_option maxRecDepth 100000 in
theorem tX9_ouncesAt_7 {n0 : Nat} {D : va_G} {Y : Nat → ClassId} {p : Program} {l : Launch} {e : Env} {s : State} {m : MethodId} {args : Array Value} {below : List Frame} {meth : Method} {c : Code} {N : Nat} {fin : Int32} {x0 : Nat} {x1 : Int32} {x2 : Int32} {x3 : Int32} {x4 : Int32}  {z : Hp} (C : Cx n0 D Y RX9 cX9_ouncesAt (some .int) 5 wsX9_ouncesAt "ouncesAt" p s m args meth c) {P7 : Int32 × Int32 × Int32 → Prop} (hP7 : ∀ u, P7 u → ∀ (H : Heap) (locs : List Loc) (ls : Array Slot), Wd n0 D Y z s H locs → lv_has ls 5 [(0, .ref (n0 + x0)), (1, .int x1), (2, .int u.1), (3, .int u.2.1), (4, .int u.2.2)] → W p l e rmX9_ouncesAt s m args below meth c H locs 0 0 (MQ below (PosI n0 D Y z fin) args s 0 0 (AA n0)) (F0 m 7 ls [])) {x : ((Int32 × Int32 × Int32) ⊕ (Int32))} (h : fX9_ouncesAt_7 N x0 x1 x2 x3 x4  z = some x) (hF : (Fn P7 (fun x => x = fin)) x) {H : Heap} {locs : List Loc} {ls : Array Slot} (hw : Wd n0 D Y z s H locs) (hl : lv_has ls 5 [(0, .ref (n0 + x0)), (1, .int x1), (2, .int x2), (3, .int x3), (4, .int x4)]) : W p l e rmX9_ouncesAt s m args below meth c H locs 0 0 (MQ below (PosI n0 D Y z fin) args s 0 0 (AA n0)) (F0 m 7 ls []) := by
  unfold fX9_ouncesAt_7 at h
  refine lv_iload C.1 C.2.1 dX9_ouncesAt_7 (lv_at hl 4 rfl) ?_
  refine lv_aload_n C.1 C.2.1 dX9_ouncesAt_9 rfl (lv_at hl 0 rfl) ?_
  obtain ⟨g1, h⟩ := gdE h
  refine r_get (v := .int (zF z 518 x0)) C hw g1 (by decide) (Cn := RX9) (T := TX9) (N := 7) rfl in_X9_ouncesAt_X9 6 (by decide) (by decide +kernel) (fun _ h => h) rfl dX9_ouncesAt_10 ?_
  refine lv_icmp_ge (tgt := 60) C.1 C.2.1 dX9_ouncesAt_13 (by decide) (fun c2 => ?_) (fun c2 => ?_)
  · replace h := brT h c2
    obtain ⟨y3, h, hF⟩ := lfX h hF
    refine lv_iload_n C.1 C.2.1 dX9_ouncesAt_60 rfl (lv_at hl 2 rfl) ?_
    cases h
    replace hF : _ = fin := hF
    subst hF
    exact r_iret C hw dX9_ouncesAt_61
  · replace h := brF h c2
    refine lv_aload_n C.1 C.2.1 dX9_ouncesAt_16 rfl (lv_at hl 0 rfl) ?_
    refine r_get (v := rv n0 (zG z 516 x0)) C hw g1 (by decide) (Cn := RX9) (T := TX9) (N := 7) rfl in_X9_ouncesAt_X9 4 (by decide) (by decide +kernel) (fun _ h => h) rfl dX9_ouncesAt_17 ?_
    obtain ⟨b5, e4, h⟩ := boE h
    refine r_topr e4 ?_
    refine lv_iload C.1 C.2.1 dX9_ouncesAt_20 (lv_at hl 4 rfl) ?_
    obtain ⟨g6, h⟩ := gdE h
    obtain ⟨i7, h⟩ := gdE h
    refine r_iald C hw g6 i7 dX9_ouncesAt_22 ?_
    refine lv_iload_n C.1 C.2.1 dX9_ouncesAt_23 rfl (lv_at hl 1 rfl) ?_
    refine lv_icmp_gt (tgt := 54) C.1 C.2.1 dX9_ouncesAt_24 (by decide) (fun c8 => ?_) (fun c8 => ?_)
    · replace h := brT h c8
      exact tX9_ouncesAt_54 C hP7 h hF hw (lv_sub hl [0, 1, 2, 3, 4] rfl)
    · replace h := brF h c8
      refine lv_aload_n C.1 C.2.1 dX9_ouncesAt_27 rfl (lv_at hl 0 rfl) ?_
      refine r_get (v := rv n0 (zG z 516 x0)) C hw g1 (by decide) (Cn := RX9) (T := TX9) (N := 7) rfl in_X9_ouncesAt_X9 4 (by decide) (by decide +kernel) (fun _ h => h) rfl dX9_ouncesAt_28 ?_
      obtain ⟨b10, e9, h⟩ := boE h
      refine r_topr e9 ?_
      refine lv_iload C.1 C.2.1 dX9_ouncesAt_31 (lv_at hl 4 rfl) ?_
      obtain ⟨g11, h⟩ := gdE h
      obtain ⟨i12, h⟩ := gdE h
      refine r_iald C hw g11 i12 dX9_ouncesAt_33 ?_
      refine lv_iload_n C.1 C.2.1 dX9_ouncesAt_34 rfl (lv_at hl 3 rfl) ?_
      refine lv_icmp_lt (tgt := 54) C.1 C.2.1 dX9_ouncesAt_35 (by decide) (fun c13 => ?_) (fun c13 => ?_)
      · replace h := brT h c13
        exact tX9_ouncesAt_54 C hP7 h hF hw (lv_sub hl [0, 1, 2, 3, 4] rfl)
      · replace h := brF h c13
        refine lv_aload_n C.1 C.2.1 dX9_ouncesAt_38 rfl (lv_at hl 0 rfl) ?_
        refine r_get (v := rv n0 (zG z 516 x0)) C hw g1 (by decide) (Cn := RX9) (T := TX9) (N := 7) rfl in_X9_ouncesAt_X9 4 (by decide) (by decide +kernel) (fun _ h => h) rfl dX9_ouncesAt_39 ?_
        obtain ⟨b15, e14, h⟩ := boE h
        refine r_topr e14 ?_
        refine lv_iload C.1 C.2.1 dX9_ouncesAt_42 (lv_at hl 4 rfl) ?_
        obtain ⟨g16, h⟩ := gdE h
        obtain ⟨i17, h⟩ := gdE h
        refine r_iald C hw g16 i17 dX9_ouncesAt_44 ?_
        obtain ⟨v18, e19, h⟩ := bdE h
        refine r_topi e19 ?_
        refine lv_istore_n (i := 3) (lv' := [(3, .int v18), (0, .ref (n0 + x0)), (1, .int x1), (2, .int x2), (4, .int x4)]) C.1 C.2.1 dX9_ouncesAt_45 rfl hl (by decide) rfl (fun ls hl => ?_)
        refine lv_aload_n C.1 C.2.1 dX9_ouncesAt_46 rfl (lv_at hl 1 rfl) ?_
        refine r_get (v := rv n0 (zG z 517 x0)) C hw g1 (by decide) (Cn := RX9) (T := TX9) (N := 7) rfl in_X9_ouncesAt_X9 5 (by decide) (by decide +kernel) (fun _ h => h) rfl dX9_ouncesAt_47 ?_
        obtain ⟨b21, e20, h⟩ := boE h
        refine r_topr e20 ?_
        refine lv_iload C.1 C.2.1 dX9_ouncesAt_50 (lv_at hl 4 rfl) ?_
        obtain ⟨g22, h⟩ := gdE h
        obtain ⟨i23, h⟩ := gdE h
        refine r_iald C hw g22 i23 dX9_ouncesAt_52 ?_
        obtain ⟨v24, e25, h⟩ := bdE h
        refine r_topi e25 ?_
        refine lv_istore_n (i := 2) (lv' := [(2, .int v24), (3, .int v18), (0, .ref (n0 + x0)), (1, .int x1), (4, .int x4)]) C.1 C.2.1 dX9_ouncesAt_53 rfl hl (by decide) rfl (fun ls hl => ?_)
        exact tX9_ouncesAt_54 C hP7 h hF hw (lv_sub hl [2, 3, 0, 1, 4] rfl)
set_option maxHeartbeats 4000000 in
set_option maxRecDepth 100000 in
theorem lX9_ouncesAt_7 {n0 : Nat} {D : va_G} {Y : Nat → ClassId} {p : Program} {l : Launch} {e : Env} {s : State} {m : MethodId} {args : Array Value} {below : List Frame} {meth : Method} {c : Code} {N : Nat} {fin : Int32} {x0 : Nat} {x1 : Int32} {z : Hp} (C : Cx n0 D Y RX9 cX9_ouncesAt (some .int) 5 wsX9_ouncesAt "ouncesAt" p s m args meth c) {x : (Int32)} : ∀ (n : Nat) (u : Int32 × Int32 × Int32), wh (fun (u : Int32 × Int32 × Int32) => fX9_ouncesAt_7 N x0 x1 u.1 u.2.1 u.2.2 z) n u = some x → (fun x => x = fin) x → ∀ (H : Heap) (locs : List Loc) (ls : Array Slot), Wd n0 D Y z s H locs → lv_has ls 5 [(0, .ref (n0 + x0)), (1, .int x1), (2, .int u.1), (3, .int u.2.1), (4, .int u.2.2)] → W p l e rmX9_ouncesAt s m args below meth c H locs 0 0 (MQ below (PosI n0 D Y z fin) args s 0 0 (AA n0)) (F0 m 7 ls []) := fun n u h g => wh_ind (P := fun u => ∀ (H : Heap) (locs : List Loc) (ls : Array Slot), Wd n0 D Y z s H locs → lv_has ls 5 [(0, .ref (n0 + x0)), (1, .int x1), (2, .int u.1), (3, .int u.2.1), (4, .int u.2.2)] → W p l e rmX9_ouncesAt s m args below meth c H locs 0 0 (MQ below (PosI n0 D Y z fin) args s 0 0 (AA n0)) (F0 m 7 ls [])) (G := (fun x => x = fin)) (fun u x h hF H locs ls hw hl => tX9_ouncesAt_7 C (P7 := fun u => ∀ (H : Heap) (locs : List Loc) (ls : Array Slot), Wd n0 D Y z s H locs → lv_has ls 5 [(0, .ref (n0 + x0)), (1, .int x1), (2, .int u.1), (3, .int u.2.1), (4, .int u.2.2)] → W p l e rmX9_ouncesAt s m args below meth c H locs 0 0 (MQ below (PosI n0 D Y z fin) args s 0 0 (AA n0)) (F0 m 7 ls [])) (fun _ h => h) h hF hw hl) n u x h g
noncomputable def fX9_ouncesAt (N : Nat) (x0 : Nat) (x1 : Int32) (z : Hp) : Option (Int32) := wh (fun (u : Int32 × Int32 × Int32) => fX9_ouncesAt_7 N x0 x1 u.1 u.2.1 u.2.2 z) N ((0 : Int32), (-1 : Int32), (0 : Int32))
set_option maxHeartbeats 4000000 in
set_option maxRecDepth 100000 in
theorem tX9_ouncesAt_0 {n0 : Nat} {D : va_G} {Y : Nat → ClassId} {p : Program} {l : Launch} {e : Env} {s : State} {m : MethodId} {args : Array Value} {below : List Frame} {meth : Method} {c : Code} {N : Nat} {fin : Int32} {x0 : Nat} {x1 : Int32}  {z : Hp} (C : Cx n0 D Y RX9 cX9_ouncesAt (some .int) 5 wsX9_ouncesAt "ouncesAt" p s m args meth c) {x : (Int32)} (h : fX9_ouncesAt N x0 x1  z = some x) (hF : (fun x => x = fin) x) {H : Heap} {locs : List Loc} {ls : Array Slot} (hw : Wd n0 D Y z s H locs) (hl : lv_has ls 5 [(0, .ref (n0 + x0)), (1, .int x1)]) : W p l e rmX9_ouncesAt s m args below meth c H locs 0 0 (MQ below (PosI n0 D Y z fin) args s 0 0 (AA n0)) (F0 m 0 ls []) := by
  unfold fX9_ouncesAt at h
  refine lv_iconst (v := (0 : Int32)) C.1 C.2.1 dX9_ouncesAt_0 (by decide) ?_
  refine lv_istore_n (i := 2) (lv' := [(2, .int (0 : Int32)), (0, .ref (n0 + x0)), (1, .int x1)]) C.1 C.2.1 dX9_ouncesAt_1 rfl hl (by decide) rfl (fun ls hl => ?_)
  refine lv_iconst (v := (-1 : Int32)) C.1 C.2.1 dX9_ouncesAt_2 (by decide) ?_
  refine lv_istore_n (i := 3) (lv' := [(3, .int (-1 : Int32)), (2, .int (0 : Int32)), (0, .ref (n0 + x0)), (1, .int x1)]) C.1 C.2.1 dX9_ouncesAt_3 rfl hl (by decide) rfl (fun ls hl => ?_)
  refine lv_iconst (v := (0 : Int32)) C.1 C.2.1 dX9_ouncesAt_4 (by decide) ?_
  refine lv_istore (i := 4) (lv' := [(4, .int (0 : Int32)), (3, .int (-1 : Int32)), (2, .int (0 : Int32)), (0, .ref (n0 + x0)), (1, .int x1)]) C.1 C.2.1 dX9_ouncesAt_5 hl (by decide) rfl (fun ls hl => ?_)
  exact lX9_ouncesAt_7 C _ _ h hF _ _ _ hw (lv_sub hl [3, 4, 2, 1, 0] rfl)
set_option maxRecDepth 100000 in
theorem kX9_ouncesAt (l : Launch) (n0 : Nat) (D : va_G) (Y : Nat → ClassId) (N : Nat) (x0 : Nat) (x1 : Int32) (z : Hp) {r : Int32} (h : fX9_ouncesAt N x0 x1 z = some r) : Met l yX9_ouncesAt wsX9_ouncesAt rmX9_ouncesAt (PreC n0 D Y z [.ref (n0 + x0), .int x1]) (PosI n0 D Y z r) 0 0 (AA n0) := by
  refine Met.ofW (cc := cX9_ouncesAt) (maxL := 5) (ret := (some .int)) (by decide) rfl ?_
  intro p e s m args below meth c s₁ B hml hv
  obtain ⟨rfl, hR, hK⟩ := hv
  have C : Cx n0 D Y RX9 cX9_ouncesAt (some .int) 5 wsX9_ouncesAt "ouncesAt" p s m ([.ref (n0 + x0), .int x1] : List Value).toArray meth c := ⟨B.exec, B.bytes, B.returns, hml, findClass_of_methodNamed B.named, atoms_spec (ws := wsX9_ouncesAt) B.pre, B.notSynchronized, (name_of_methodNamed B.named B.method).1, hK⟩
  have hl := lv_entry ([.ref (n0 + x0), .int x1]) (n := 5) (Nat.le_of_ble_eq_true rfl)
  rw [lg_entry_eq]
  generalize (lg_sl ([.ref (n0 + x0), .int x1]) ++ List.replicate (5 - (lg_sl ([.ref (n0 + x0), .int x1])).length) Slot.unset).toArray = ls at hl ⊢
  have hl : lv_has ls 5 [(0, .ref (n0 + x0)), (1, .int x1)] := hl
  exact tX9_ouncesAt_0 C h rfl ⟨hR, va_S.rf⟩ hl
theorem in_X9_loaf_X9 : ∀ w ∈ wsX90, w ∈ wsX9_loaf := by decide +kernel
abbrev rmX9_loaf : Room := { frames := 1, cells := 0, slots := 0, locals := 24 }
noncomputable def fX9_loaf_9 (N : Nat) (x0 : Nat) (z : Hp) : Option (Int32) := some (0 : Int32)
set_option maxHeartbeats 4000000 in
set_option maxRecDepth 100000 in
theorem tX9_loaf_9 {n0 : Nat} {D : va_G} {Y : Nat → ClassId} {p : Program} {l : Launch} {e : Env} {s : State} {m : MethodId} {args : Array Value} {below : List Frame} {meth : Method} {c : Code} {N : Nat} {fin : Int32} {x0 : Nat}  {z : Hp} (C : Cx n0 D Y RX9 cX9_loaf (some .int) 3 wsX9_loaf "loaf" p s m args meth c) {x : (Int32)} (h : fX9_loaf_9 N x0  z = some x) (hF : (fun x => x = fin) x) {H : Heap} {locs : List Loc} {ls : Array Slot} (hw : Wd n0 D Y z s H locs) (hl : lv_has ls 3 [(0, .ref (n0 + x0))]) : W p l e rmX9_loaf s m args below meth c H locs 0 0 (MQ below (PosI n0 D Y z fin) args s 0 0 (AA n0)) (F0 m 9 ls []) := by
  unfold fX9_loaf_9 at h
  refine lv_iconst (v := (0 : Int32)) C.1 C.2.1 dX9_loaf_9 (by decide) ?_
  cases h
  replace hF : _ = fin := hF
  subst hF
  exact r_iret C hw dX9_loaf_10
noncomputable def fX9_loaf (N : Nat) (x0 : Nat) (x1 : Int32) (x2 : Int32) (z : Hp) : Option (Int32) := br (x1 < 0) (fX9_loaf_9 N x0 z) (br (x1 < (3 : Int32)) (gd (x0 < zn z ∧ zK z x0 = 8) <| bo (fX9_ouncesAt N x0 x2 z) fun r4 => bo (zG z 515 x0) fun b7 => gd (b7 < zn z ∧ zK z b7 = 12) <| gd (¬ (x1 < 0 ∨ zL z b7 ≤ (x1).toNatClampNeg)) <| some ((r4 * (zA z b7 (x1).toNatClampNeg)) / (100 : Int32))) (fX9_loaf_9 N x0 z))
set_option maxHeartbeats 4000000 in
set_option maxRecDepth 100000 in
theorem tX9_loaf_0 {n0 : Nat} {D : va_G} {Y : Nat → ClassId} {p : Program} {l : Launch} {e : Env} {s : State} {m : MethodId} {args : Array Value} {below : List Frame} {meth : Method} {c : Code} {N : Nat} {fin : Int32} {x0 : Nat} {x1 : Int32} {x2 : Int32}  {z : Hp} (C : Cx n0 D Y RX9 cX9_loaf (some .int) 3 wsX9_loaf "loaf" p s m args meth c) {x : (Int32)} (h : fX9_loaf N x0 x1 x2  z = some x) (hF : (fun x => x = fin) x) {H : Heap} {locs : List Loc} {ls : Array Slot} (hw : Wd n0 D Y z s H locs) (hl : lv_has ls 3 [(0, .ref (n0 + x0)), (1, .int x1), (2, .int x2)]) : W p l e rmX9_loaf s m args below meth c H locs 0 0 (MQ below (PosI n0 D Y z fin) args s 0 0 (AA n0)) (F0 m 0 ls []) := by
  unfold fX9_loaf at h
  refine lv_iload_n C.1 C.2.1 dX9_loaf_0 rfl (lv_at hl 1 rfl) ?_
  refine lv_if_lt (tgt := 9) C.1 C.2.1 dX9_loaf_1 (by decide) (fun c1 => ?_) (fun c1 => ?_)
  · replace h := brT h c1
    exact tX9_loaf_9 C h hF hw (lv_sub hl [0] rfl)
  · replace h := brF h c1
    refine lv_iload_n C.1 C.2.1 dX9_loaf_4 rfl (lv_at hl 1 rfl) ?_
    refine lv_iconst (v := (3 : Int32)) C.1 C.2.1 dX9_loaf_5 (by decide) ?_
    refine lv_icmp_lt (tgt := 11) C.1 C.2.1 dX9_loaf_6 (by decide) (fun c2 => ?_) (fun c2 => ?_)
    · replace h := brT h c2
      refine lv_aload_n C.1 C.2.1 dX9_loaf_11 rfl (lv_at hl 0 rfl) ?_
      refine lv_iload_n C.1 C.2.1 dX9_loaf_12 rfl (lv_at hl 2 rfl) ?_
      obtain ⟨g5, h⟩ := gdE h
      obtain ⟨r4, e3, h⟩ := boE h
      refine r_afti hw (r_runV (As := [.int x2]) (rest := []) C hw (ki := 8) g5 (by decide) rfl (kX9_ouncesAt l n0 D Y N x0 x2 z e3) (cwV 1 C.2.2.2.2.2.1 gX9_loaf_X9_ouncesAt rfl rfl rfl (by decide +kernel) ⟨(Nat.le_of_ble_eq_true rfl), (Nat.le_of_ble_eq_true rfl)⟩) rfl hl.1 rfl (Nat.le_of_ble_eq_true rfl) dX9_loaf_13 ⟨(Nat.le_of_ble_eq_true rfl), (Nat.le_of_ble_eq_true rfl)⟩) (fun H locs hw => ?_)
      refine lv_aload_n C.1 C.2.1 dX9_loaf_16 rfl (lv_at hl 0 rfl) ?_
      refine r_get (v := rv n0 (zG z 515 x0)) C hw g5 (by decide) (Cn := RX9) (T := TX9) (N := 7) rfl in_X9_loaf_X9 3 (by decide) (by decide +kernel) (fun _ h => h) rfl dX9_loaf_17 ?_
      obtain ⟨b7, e6, h⟩ := boE h
      refine r_topr e6 ?_
      refine lv_iload_n C.1 C.2.1 dX9_loaf_20 rfl (lv_at hl 1 rfl) ?_
      obtain ⟨g8, h⟩ := gdE h
      obtain ⟨i9, h⟩ := gdE h
      refine r_iald C hw g8 i9 dX9_loaf_21 ?_
      refine lv_imul C.1 C.2.1 dX9_loaf_22 ?_
      refine lv_bipush (v := (100 : Int32)) C.1 C.2.1 dX9_loaf_23 (by decide) ?_
      refine lv_idiv C.1 C.2.1 dX9_loaf_25 (by decide) ?_
      cases h
      replace hF : _ = fin := hF
      subst hF
      exact r_iret C hw dX9_loaf_26
    · replace h := brF h c2
      exact tX9_loaf_9 C h hF hw (lv_sub hl [0] rfl)
set_option maxRecDepth 100000 in
theorem kX9_loaf (l : Launch) (n0 : Nat) (D : va_G) (Y : Nat → ClassId) (N : Nat) (x0 : Nat) (x1 : Int32) (x2 : Int32) (z : Hp) {r : Int32} (h : fX9_loaf N x0 x1 x2 z = some r) : Met l yX9_loaf wsX9_loaf rmX9_loaf (PreC n0 D Y z [.ref (n0 + x0), .int x1, .int x2]) (PosI n0 D Y z r) 0 0 (AA n0) := by
  refine Met.ofW (cc := cX9_loaf) (maxL := 3) (ret := (some .int)) (by decide) rfl ?_
  intro p e s m args below meth c s₁ B hml hv
  obtain ⟨rfl, hR, hK⟩ := hv
  have C : Cx n0 D Y RX9 cX9_loaf (some .int) 3 wsX9_loaf "loaf" p s m ([.ref (n0 + x0), .int x1, .int x2] : List Value).toArray meth c := ⟨B.exec, B.bytes, B.returns, hml, findClass_of_methodNamed B.named, atoms_spec (ws := wsX9_loaf) B.pre, B.notSynchronized, (name_of_methodNamed B.named B.method).1, hK⟩
  have hl := lv_entry ([.ref (n0 + x0), .int x1, .int x2]) (n := 3) (Nat.le_of_ble_eq_true rfl)
  rw [lg_entry_eq]
  generalize (lg_sl ([.ref (n0 + x0), .int x1, .int x2]) ++ List.replicate (3 - (lg_sl ([.ref (n0 + x0), .int x1, .int x2])).length) Slot.unset).toArray = ls at hl ⊢
  have hl : lv_has ls 3 [(0, .ref (n0 + x0)), (1, .int x1), (2, .int x2)] := hl
  exact tX9_loaf_0 C h rfl ⟨hR, va_S.rf⟩ hl
theorem in_X10_init_X10 : ∀ w ∈ wsX100, w ∈ wsX10_init := by decide +kernel
abbrev rmX10_init : Room := { frames := 1, cells := 1, slots := 8, locals := 24 }
noncomputable def fX10_init (N : Nat) (x0 : Nat) (z : Hp) : Option (Hp) := bd (zal z 12 8) fun z1 => gd (x0 < zn z1 ∧ zK z1 x0 = 9) <| bd (zsG z1 576 x0 (some (zn z))) fun z4 => bd (zsF z4 579 x0 (1 : Int32)) fun z7 => some z7
set_option maxHeartbeats 4000000 in
set_option maxRecDepth 100000 in
theorem tX10_init_0 {n0 : Nat} {D : va_G} {Y : Nat → ClassId} {p : Program} {l : Launch} {e : Env} {s : State} {m : MethodId} {args : Array Value} {below : List Frame} {meth : Method} {c : Code} {N : Nat} {fin : Hp} {x0 : Nat}  {z : Hp} (C : Cx n0 D Y RX10 cX10_init none 1 wsX10_init "<init>" p s m args meth c) {x : (Hp)} (h : fX10_init N x0  z = some x) (hF : (fun x => x = fin) x) {H : Heap} {locs : List Loc} {ls : Array Slot} (hw : Wd n0 D Y z s H locs) (hl : lv_has ls 1 [(0, .ref (n0 + x0))]) : W p l e rmX10_init s m args below meth c H locs 0 0 (MQ below (PosV n0 D Y fin) args s 1 8 (AA n0)) (F0 m 0 ls []) := by
  unfold fX10_init at h
  refine lv_aload_n C.1 C.2.1 dX10_init_0 rfl (lv_at hl 0 rfl) ?_
  refine W.objInit C.1 C.2.1 C.2.2.2.2.1 (C.2.2.2.2.2.1 (.methodLink RX10 3 objectInit) (by decide +kernel)) (C.2.2.2.2.2.1 (.instanceMethod objectInit) (by decide +kernel)) (C.2.2.2.2.2.1 _ (List.mem_of_getElem? (i := 3) rfl)) rfl (by rw [C.2.2.2.1]; exact hl.1) rfl dX10_init_1 (Nat.le_of_ble_eq_true rfl) (Nat.le_of_ble_eq_true rfl) ?_
  refine W.eq (g2 := F0 m 4 ls []) rfl ?_
  refine lv_aload_n C.1 C.2.1 dX10_init_4 rfl (lv_at hl 0 rfl) ?_
  refine lv_bipush (v := (8 : Int32)) C.1 C.2.1 dX10_init_5 (by decide) ?_
  obtain ⟨z1, e2, h⟩ := bdE h
  refine r_newi C hw (by decide +kernel) (N' := 8) (by decide) (by decide) (by decide) (by decide) (by decide) dX10_init_7 (fun H hw => ?_)
  rw [← e2] at hw
  have g3 : (zn z) < zn z1 ∧ zK z1 (zn z) = 12 := by rw [e2]; exact ok_new _ _ _
  obtain ⟨g6, h⟩ := gdE h
  obtain ⟨z4, e5, h⟩ := bdE h
  refine r_putG C hw g6 (by decide) (Cn := RX10) (T := TX10) (N := 4) rfl in_X10_init_X10 tyX10 tyX10_ok nmX10 0 (by decide) (by decide +kernel) (fun _ h => h) (Or.inr ⟨rfl, rfl, rfl⟩) (ty := .array .int) (by decide +kernel) rfl rfl (Nat.le_of_ble_eq_true rfl) (st_9_0 n0 z1 x0 (some (zn z))) e5 dX10_init_9 (fun H locs hw => ?_)
  refine lv_aload_n C.1 C.2.1 dX10_init_12 rfl (lv_at hl 0 rfl) ?_
  refine lv_iconst (v := (1 : Int32)) C.1 C.2.1 dX10_init_13 (by decide) ?_
  have g9 : x0 < zn z4 ∧ zK z4 x0 = 9 := by rw [e5]; exact g6
  obtain ⟨z7, e8, h⟩ := bdE h
  refine r_putI C hw g9 (by decide) (Cn := RX10) (T := TX10) (N := 4) rfl in_X10_init_X10 tyX10 tyX10_ok nmX10 3 (by decide) (by decide +kernel) (fun _ h => h) (Or.inl rfl) (ty := .int) (by decide +kernel) rfl rfl (Nat.le_of_ble_eq_true rfl) (st_9_3 n0 z4 x0 (1 : Int32)) e8 dX10_init_14 (fun H locs hw => ?_)
  cases h
  replace hF : _ = fin := hF
  subst hF
  exact r_vret C hw dX10_init_17
set_option maxRecDepth 100000 in
theorem kX10_init (l : Launch) (n0 : Nat) (D : va_G) (Y : Nat → ClassId) (N : Nat) (x0 : Nat) (z : Hp) {z1 : Hp} (h : fX10_init N x0 z = some z1) : Met l yX10_init wsX10_init rmX10_init (PreC n0 D Y z [.ref (n0 + x0)]) (PosV n0 D Y z1) 1 8 (AA n0) := by
  refine Met.ofW (cc := cX10_init) (maxL := 1) (ret := none) (by decide) rfl ?_
  intro p e s m args below meth c s₁ B hml hv
  obtain ⟨rfl, hR, hK⟩ := hv
  have C : Cx n0 D Y RX10 cX10_init none 1 wsX10_init "<init>" p s m ([.ref (n0 + x0)] : List Value).toArray meth c := ⟨B.exec, B.bytes, B.returns, hml, findClass_of_methodNamed B.named, atoms_spec (ws := wsX10_init) B.pre, B.notSynchronized, (name_of_methodNamed B.named B.method).1, hK⟩
  have hl := lv_entry ([.ref (n0 + x0)]) (n := 1) (Nat.le_of_ble_eq_true rfl)
  rw [lg_entry_eq]
  generalize (lg_sl ([.ref (n0 + x0)]) ++ List.replicate (1 - (lg_sl ([.ref (n0 + x0)])).length) Slot.unset).toArray = ls at hl ⊢
  have hl : lv_has ls 1 [(0, .ref (n0 + x0))] := hl
  exact tX10_init_0 C h rfl ⟨hR, va_S.rf⟩ hl
theorem in_X10_dropRow_X10 : ∀ w ∈ wsX100, w ∈ wsX10_dropRow := by decide +kernel
abbrev rmX10_dropRow : Room := { frames := 0, cells := 0, slots := 0, locals := 0 }
noncomputable def fX10_dropRow (N : Nat) (x0 : Nat) (z : Hp) : Option (Hp) := gd (x0 < zn z ∧ zK z x0 = 9) <| bd (zsF z 577 x0 (0 : Int32)) fun z1 => bd (zsF z1 578 x0 (0 : Int32)) fun z4 => some z4
set_option maxHeartbeats 4000000 in
set_option maxRecDepth 100000 in
theorem tX10_dropRow_0 {n0 : Nat} {D : va_G} {Y : Nat → ClassId} {p : Program} {l : Launch} {e : Env} {s : State} {m : MethodId} {args : Array Value} {below : List Frame} {meth : Method} {c : Code} {N : Nat} {fin : Hp} {x0 : Nat}  {z : Hp} (C : Cx n0 D Y RX10 cX10_dropRow none 1 wsX10_dropRow "dropRow" p s m args meth c) {x : (Hp)} (h : fX10_dropRow N x0  z = some x) (hF : (fun x => x = fin) x) {H : Heap} {locs : List Loc} {ls : Array Slot} (hw : Wd n0 D Y z s H locs) (hl : lv_has ls 1 [(0, .ref (n0 + x0))]) : W p l e rmX10_dropRow s m args below meth c H locs 0 0 (MQ below (PosV n0 D Y fin) args s 0 0 (AA n0)) (F0 m 0 ls []) := by
  unfold fX10_dropRow at h
  refine lv_aload_n C.1 C.2.1 dX10_dropRow_0 rfl (lv_at hl 0 rfl) ?_
  refine lv_iconst (v := (0 : Int32)) C.1 C.2.1 dX10_dropRow_1 (by decide) ?_
  obtain ⟨g3, h⟩ := gdE h
  obtain ⟨z1, e2, h⟩ := bdE h
  refine r_putI C hw g3 (by decide) (Cn := RX10) (T := TX10) (N := 4) rfl in_X10_dropRow_X10 tyX10 tyX10_ok nmX10 1 (by decide) (by decide +kernel) (fun _ h => h) (Or.inl rfl) (ty := .int) (by decide +kernel) rfl rfl (Nat.le_of_ble_eq_true rfl) (st_9_1 n0 z x0 (0 : Int32)) e2 dX10_dropRow_2 (fun H locs hw => ?_)
  refine lv_aload_n C.1 C.2.1 dX10_dropRow_5 rfl (lv_at hl 0 rfl) ?_
  refine lv_iconst (v := (0 : Int32)) C.1 C.2.1 dX10_dropRow_6 (by decide) ?_
  have g6 : x0 < zn z1 ∧ zK z1 x0 = 9 := by rw [e2]; exact g3
  obtain ⟨z4, e5, h⟩ := bdE h
  refine r_putI C hw g6 (by decide) (Cn := RX10) (T := TX10) (N := 4) rfl in_X10_dropRow_X10 tyX10 tyX10_ok nmX10 2 (by decide) (by decide +kernel) (fun _ h => h) (Or.inl rfl) (ty := .int) (by decide +kernel) rfl rfl (Nat.le_of_ble_eq_true rfl) (st_9_2 n0 z1 x0 (0 : Int32)) e5 dX10_dropRow_7 (fun H locs hw => ?_)
  cases h
  replace hF : _ = fin := hF
  subst hF
  exact r_vret C hw dX10_dropRow_10
set_option maxRecDepth 100000 in
theorem kX10_dropRow (l : Launch) (n0 : Nat) (D : va_G) (Y : Nat → ClassId) (N : Nat) (x0 : Nat) (z : Hp) {z1 : Hp} (h : fX10_dropRow N x0 z = some z1) : Met l yX10_dropRow wsX10_dropRow rmX10_dropRow (PreC n0 D Y z [.ref (n0 + x0)]) (PosV n0 D Y z1) 0 0 (AA n0) := by
  refine Met.ofW (cc := cX10_dropRow) (maxL := 1) (ret := none) (by decide) rfl ?_
  intro p e s m args below meth c s₁ B hml hv
  obtain ⟨rfl, hR, hK⟩ := hv
  have C : Cx n0 D Y RX10 cX10_dropRow none 1 wsX10_dropRow "dropRow" p s m ([.ref (n0 + x0)] : List Value).toArray meth c := ⟨B.exec, B.bytes, B.returns, hml, findClass_of_methodNamed B.named, atoms_spec (ws := wsX10_dropRow) B.pre, B.notSynchronized, (name_of_methodNamed B.named B.method).1, hK⟩
  have hl := lv_entry ([.ref (n0 + x0)]) (n := 1) (Nat.le_of_ble_eq_true rfl)
  rw [lg_entry_eq]
  generalize (lg_sl ([.ref (n0 + x0)]) ++ List.replicate (1 - (lg_sl ([.ref (n0 + x0)])).length) Slot.unset).toArray = ls at hl ⊢
  have hl : lv_has ls 1 [(0, .ref (n0 + x0))] := hl
  exact tX10_dropRow_0 C h rfl ⟨hR, va_S.rf⟩ hl
theorem in_X10_moveOn_X10 : ∀ w ∈ wsX100, w ∈ wsX10_moveOn := by decide +kernel
abbrev rmX10_moveOn : Room := { frames := 0, cells := 0, slots := 0, locals := 0 }
noncomputable def fX10_moveOn (N : Nat) (x0 : Nat) (z : Hp) : Option (Hp) := gd (x0 < zn z ∧ zK z x0 = 9) <| bd (zsF z 578 x0 ((zF z 578 x0) + (1 : Int32))) fun z2 => some z2
set_option maxHeartbeats 4000000 in
set_option maxRecDepth 100000 in
theorem tX10_moveOn_0 {n0 : Nat} {D : va_G} {Y : Nat → ClassId} {p : Program} {l : Launch} {e : Env} {s : State} {m : MethodId} {args : Array Value} {below : List Frame} {meth : Method} {c : Code} {N : Nat} {fin : Hp} {x0 : Nat}  {z : Hp} (C : Cx n0 D Y RX10 cX10_moveOn none 1 wsX10_moveOn "moveOn" p s m args meth c) {x : (Hp)} (h : fX10_moveOn N x0  z = some x) (hF : (fun x => x = fin) x) {H : Heap} {locs : List Loc} {ls : Array Slot} (hw : Wd n0 D Y z s H locs) (hl : lv_has ls 1 [(0, .ref (n0 + x0))]) : W p l e rmX10_moveOn s m args below meth c H locs 0 0 (MQ below (PosV n0 D Y fin) args s 0 0 (AA n0)) (F0 m 0 ls []) := by
  unfold fX10_moveOn at h
  refine lv_aload_n C.1 C.2.1 dX10_moveOn_0 rfl (lv_at hl 0 rfl) ?_
  refine lv_dup C.1 C.2.1 dX10_moveOn_1 rfl ?_
  obtain ⟨g1, h⟩ := gdE h
  refine r_get (v := .int (zF z 578 x0)) C hw g1 (by decide) (Cn := RX10) (T := TX10) (N := 4) rfl in_X10_moveOn_X10 2 (by decide) (by decide +kernel) (fun _ h => h) rfl dX10_moveOn_2 ?_
  refine lv_iconst (v := (1 : Int32)) C.1 C.2.1 dX10_moveOn_5 (by decide) ?_
  refine lv_iadd C.1 C.2.1 dX10_moveOn_6 ?_
  obtain ⟨z2, e3, h⟩ := bdE h
  refine r_putI C hw g1 (by decide) (Cn := RX10) (T := TX10) (N := 4) rfl in_X10_moveOn_X10 tyX10 tyX10_ok nmX10 2 (by decide) (by decide +kernel) (fun _ h => h) (Or.inl rfl) (ty := .int) (by decide +kernel) rfl rfl (Nat.le_of_ble_eq_true rfl) (st_9_2 n0 z x0 ((zF z 578 x0) + (1 : Int32))) e3 dX10_moveOn_7 (fun H locs hw => ?_)
  cases h
  replace hF : _ = fin := hF
  subst hF
  exact r_vret C hw dX10_moveOn_10
set_option maxRecDepth 100000 in
theorem kX10_moveOn (l : Launch) (n0 : Nat) (D : va_G) (Y : Nat → ClassId) (N : Nat) (x0 : Nat) (z : Hp) {z1 : Hp} (h : fX10_moveOn N x0 z = some z1) : Met l yX10_moveOn wsX10_moveOn rmX10_moveOn (PreC n0 D Y z [.ref (n0 + x0)]) (PosV n0 D Y z1) 0 0 (AA n0) := by
  refine Met.ofW (cc := cX10_moveOn) (maxL := 1) (ret := none) (by decide) rfl ?_
  intro p e s m args below meth c s₁ B hml hv
  obtain ⟨rfl, hR, hK⟩ := hv
  have C : Cx n0 D Y RX10 cX10_moveOn none 1 wsX10_moveOn "moveOn" p s m ([.ref (n0 + x0)] : List Value).toArray meth c := ⟨B.exec, B.bytes, B.returns, hml, findClass_of_methodNamed B.named, atoms_spec (ws := wsX10_moveOn) B.pre, B.notSynchronized, (name_of_methodNamed B.named B.method).1, hK⟩
  have hl := lv_entry ([.ref (n0 + x0)]) (n := 1) (Nat.le_of_ble_eq_true rfl)
  rw [lg_entry_eq]
  generalize (lg_sl ([.ref (n0 + x0)]) ++ List.replicate (1 - (lg_sl ([.ref (n0 + x0)])).length) Slot.unset).toArray = ls at hl ⊢
  have hl : lv_has ls 1 [(0, .ref (n0 + x0))] := hl
  exact tX10_moveOn_0 C h rfl ⟨hR, va_S.rf⟩ hl
theorem in_X10_draw_X10 : ∀ w ∈ wsX100, w ∈ wsX10_draw := by decide +kernel
abbrev rmX10_draw : Room := { frames := 0, cells := 0, slots := 0, locals := 0 }
noncomputable def fX10_draw_24 (N : Nat) (x0 : Nat) (x1 : Int32) (x2 : Int32) (z : Hp) : Option ((Int32 × Hp) ⊕ (Hp)) := br (x2 < (1 : Int32)) (lf <| gd (x0 < zn z ∧ zK z x0 = 9) <| bd (zsF z 577 x0 x1) fun z3 => bd (zsF z3 578 x0 (0 : Int32)) fun z6 => some z6) (gd (x0 < zn z ∧ zK z x0 = 9) <| bd (zsF z 579 x0 ((((zF z 579 x0) * (1103515245 : Int32)) + (12345 : Int32)) &&& (2147483647 : Int32))) fun z10 => gd (¬ (x2 + (1 : Int32)) = 0) <| bd (irm ((zF z10 579 x0) / (65536 : Int32)) (x2 + (1 : Int32))) fun v14 => bo (zG z10 576 x0) fun b17 => gd (b17 < zn z10 ∧ zK z10 b17 = 12) <| gd (¬ (x2 < 0 ∨ zL z10 b17 ≤ (x2).toNatClampNeg)) <| bd (zA z10 b17 (x2).toNatClampNeg) fun v20 => bo (zG z10 576 x0) fun b23 => bo (zG z10 576 x0) fun b25 => gd (b25 < zn z10 ∧ zK z10 b25 = 12) <| gd (¬ (v14 < 0 ∨ zL z10 b25 ≤ (v14).toNatClampNeg)) <| gd (b23 < zn z10 ∧ zK z10 b23 = 12) <| gd (¬ (x2 < 0 ∨ zL z10 b23 ≤ Int32.toNatClampNeg x2)) <| bd (zsA z10 b23 (Int32.toNatClampNeg x2) (zA z10 b25 (v14).toNatClampNeg)) fun z30 => bo (zG z30 576 x0) fun b34 => gd (b34 < zn z30 ∧ zK z30 b34 = 12) <| gd (¬ (v14 < 0 ∨ zL z30 b34 ≤ Int32.toNatClampNeg v14)) <| bd (zsA z30 b34 (Int32.toNatClampNeg v14) v20) fun z37 => bd (x2 + (-1 : Int32)) fun v39 => some (.inl (v39, z37)))
set_option maxHeartbeats 4000000 in
set_option maxRecDepth 100000 in
theorem tX10_draw_24 {n0 : Nat} {D : va_G} {Y : Nat → ClassId} {p : Program} {l : Launch} {e : Env} {s : State} {m : MethodId} {args : Array Value} {below : List Frame} {meth : Method} {c : Code} {N : Nat} {fin : Hp} {x0 : Nat} {x1 : Int32} {x2 : Int32}  {z : Hp} (C : Cx n0 D Y RX10 cX10_draw none 5 wsX10_draw "draw" p s m args meth c) {P24 : Int32 × Hp → Prop} (hP24 : ∀ u, P24 u → ∀ (H : Heap) (locs : List Loc) (ls : Array Slot), Wd n0 D Y (u.2) s H locs → lv_has ls 5 [(0, .ref (n0 + x0)), (1, .int x1), (2, .int u.1)] → W p l e rmX10_draw s m args below meth c H locs 0 0 (MQ below (PosV n0 D Y fin) args s 0 0 (AA n0)) (F0 m 24 ls [])) {x : ((Int32 × Hp) ⊕ (Hp))} (h : fX10_draw_24 N x0 x1 x2  z = some x) (hF : (Fn P24 (fun x => x = fin)) x) {H : Heap} {locs : List Loc} {ls : Array Slot} (hw : Wd n0 D Y z s H locs) (hl : lv_has ls 5 [(0, .ref (n0 + x0)), (1, .int x1), (2, .int x2)]) : W p l e rmX10_draw s m args below meth c H locs 0 0 (MQ below (PosV n0 D Y fin) args s 0 0 (AA n0)) (F0 m 24 ls []) := by
  unfold fX10_draw_24 at h
  refine lv_iload_n C.1 C.2.1 dX10_draw_24 rfl (lv_at hl 2 rfl) ?_
  refine lv_iconst (v := (1 : Int32)) C.1 C.2.1 dX10_draw_25 (by decide) ?_
  refine lv_icmp_lt (tgt := 93) C.1 C.2.1 dX10_draw_26 (by decide) (fun c1 => ?_) (fun c1 => ?_)
  · replace h := brT h c1
    obtain ⟨y2, h, hF⟩ := lfX h hF
    refine lv_aload_n C.1 C.2.1 dX10_draw_93 rfl (lv_at hl 0 rfl) ?_
    refine lv_iload_n C.1 C.2.1 dX10_draw_94 rfl (lv_at hl 1 rfl) ?_
    obtain ⟨g5, h⟩ := gdE h
    obtain ⟨z3, e4, h⟩ := bdE h
    refine r_putI C hw g5 (by decide) (Cn := RX10) (T := TX10) (N := 4) rfl in_X10_draw_X10 tyX10 tyX10_ok nmX10 1 (by decide) (by decide +kernel) (fun _ h => h) (Or.inl rfl) (ty := .int) (by decide +kernel) rfl rfl (Nat.le_of_ble_eq_true rfl) (st_9_1 n0 z x0 x1) e4 dX10_draw_95 (fun H locs hw => ?_)
    refine lv_aload_n C.1 C.2.1 dX10_draw_98 rfl (lv_at hl 0 rfl) ?_
    refine lv_iconst (v := (0 : Int32)) C.1 C.2.1 dX10_draw_99 (by decide) ?_
    have g8 : x0 < zn z3 ∧ zK z3 x0 = 9 := by rw [e4]; exact g5
    obtain ⟨z6, e7, h⟩ := bdE h
    refine r_putI C hw g8 (by decide) (Cn := RX10) (T := TX10) (N := 4) rfl in_X10_draw_X10 tyX10 tyX10_ok nmX10 2 (by decide) (by decide +kernel) (fun _ h => h) (Or.inl rfl) (ty := .int) (by decide +kernel) rfl rfl (Nat.le_of_ble_eq_true rfl) (st_9_2 n0 z3 x0 (0 : Int32)) e7 dX10_draw_100 (fun H locs hw => ?_)
    cases h
    replace hF : _ = fin := hF
    subst hF
    exact r_vret C hw dX10_draw_103
  · replace h := brF h c1
    refine lv_aload_n C.1 C.2.1 dX10_draw_29 rfl (lv_at hl 0 rfl) ?_
    refine lv_aload_n C.1 C.2.1 dX10_draw_30 rfl (lv_at hl 0 rfl) ?_
    obtain ⟨g9, h⟩ := gdE h
    refine r_get (v := .int (zF z 579 x0)) C hw g9 (by decide) (Cn := RX10) (T := TX10) (N := 4) rfl in_X10_draw_X10 3 (by decide) (by decide +kernel) (fun _ h => h) rfl dX10_draw_31 ?_
    refine lv_ldc (v := (1103515245 : Int32)) C.1 C.2.1 C.2.2.2.2.1 (C.2.2.2.2.2.1 (.constant RX10 35 (1103515245 : Int32)) (by decide +kernel)) dX10_draw_34 ?_
    refine lv_imul C.1 C.2.1 dX10_draw_36 ?_
    refine lv_sipush (v := (12345 : Int32)) C.1 C.2.1 dX10_draw_37 (by decide) ?_
    refine lv_iadd C.1 C.2.1 dX10_draw_40 ?_
    refine lv_ldc (v := (2147483647 : Int32)) C.1 C.2.1 C.2.2.2.2.1 (C.2.2.2.2.2.1 (.constant RX10 36 (2147483647 : Int32)) (by decide +kernel)) dX10_draw_41 ?_
    refine lv_iand C.1 C.2.1 dX10_draw_43 ?_
    obtain ⟨z10, e11, h⟩ := bdE h
    refine r_putI C hw g9 (by decide) (Cn := RX10) (T := TX10) (N := 4) rfl in_X10_draw_X10 tyX10 tyX10_ok nmX10 3 (by decide) (by decide +kernel) (fun _ h => h) (Or.inl rfl) (ty := .int) (by decide +kernel) rfl rfl (Nat.le_of_ble_eq_true rfl) (st_9_3 n0 z x0 ((((zF z 579 x0) * (1103515245 : Int32)) + (12345 : Int32)) &&& (2147483647 : Int32))) e11 dX10_draw_44 (fun H locs hw => ?_)
    refine lv_aload_n C.1 C.2.1 dX10_draw_47 rfl (lv_at hl 0 rfl) ?_
    have g12 : x0 < zn z10 ∧ zK z10 x0 = 9 := by rw [e11]; exact g9
    refine r_get (v := .int (zF z10 579 x0)) C hw g12 (by decide) (Cn := RX10) (T := TX10) (N := 4) rfl in_X10_draw_X10 3 (by decide) (by decide +kernel) (fun _ h => h) rfl dX10_draw_48 ?_
    refine lv_ldc (v := (65536 : Int32)) C.1 C.2.1 C.2.2.2.2.1 (C.2.2.2.2.2.1 (.constant RX10 37 (65536 : Int32)) (by decide +kernel)) dX10_draw_51 ?_
    refine lv_idiv C.1 C.2.1 dX10_draw_53 (by decide) ?_
    refine lv_iload_n C.1 C.2.1 dX10_draw_54 rfl (lv_at hl 2 rfl) ?_
    refine lv_iconst (v := (1 : Int32)) C.1 C.2.1 dX10_draw_55 (by decide) ?_
    refine lv_iadd C.1 C.2.1 dX10_draw_56 ?_
    obtain ⟨g13, h⟩ := gdE h
    refine lv_irem C.1 C.2.1 dX10_draw_57 g13 ?_
    refine r_topi (y := irm ((zF z10 579 x0) / (65536 : Int32)) (x2 + (1 : Int32))) rfl ?_
    obtain ⟨v14, e15, h⟩ := bdE h
    refine r_topi e15 ?_
    refine lv_istore_n (i := 3) (lv' := [(3, .int v14), (0, .ref (n0 + x0)), (1, .int x1), (2, .int x2)]) C.1 C.2.1 dX10_draw_58 rfl hl (by decide) rfl (fun ls hl => ?_)
    refine lv_aload_n C.1 C.2.1 dX10_draw_59 rfl (lv_at hl 1 rfl) ?_
    refine r_get (v := rv n0 (zG z10 576 x0)) C hw g12 (by decide) (Cn := RX10) (T := TX10) (N := 4) rfl in_X10_draw_X10 0 (by decide) (by decide +kernel) (fun _ h => h) rfl dX10_draw_60 ?_
    obtain ⟨b17, e16, h⟩ := boE h
    refine r_topr e16 ?_
    refine lv_iload_n C.1 C.2.1 dX10_draw_63 rfl (lv_at hl 3 rfl) ?_
    obtain ⟨g18, h⟩ := gdE h
    obtain ⟨i19, h⟩ := gdE h
    refine r_iald C hw g18 i19 dX10_draw_64 ?_
    obtain ⟨v20, e21, h⟩ := bdE h
    refine r_topi e21 ?_
    refine lv_istore (i := 4) (lv' := [(4, .int v20), (3, .int v14), (0, .ref (n0 + x0)), (1, .int x1), (2, .int x2)]) C.1 C.2.1 dX10_draw_65 hl (by decide) rfl (fun ls hl => ?_)
    refine lv_aload_n C.1 C.2.1 dX10_draw_67 rfl (lv_at hl 2 rfl) ?_
    refine r_get (v := rv n0 (zG z10 576 x0)) C hw g12 (by decide) (Cn := RX10) (T := TX10) (N := 4) rfl in_X10_draw_X10 0 (by decide) (by decide +kernel) (fun _ h => h) rfl dX10_draw_68 ?_
    obtain ⟨b23, e22, h⟩ := boE h
    refine r_topr e22 ?_
    refine lv_iload_n C.1 C.2.1 dX10_draw_71 rfl (lv_at hl 4 rfl) ?_
    refine lv_aload_n C.1 C.2.1 dX10_draw_72 rfl (lv_at hl 2 rfl) ?_
    refine r_get (v := rv n0 (zG z10 576 x0)) C hw g12 (by decide) (Cn := RX10) (T := TX10) (N := 4) rfl in_X10_draw_X10 0 (by decide) (by decide +kernel) (fun _ h => h) rfl dX10_draw_73 ?_
    obtain ⟨b25, e24, h⟩ := boE h
    refine r_topr e24 ?_
    refine lv_iload_n C.1 C.2.1 dX10_draw_76 rfl (lv_at hl 1 rfl) ?_
    obtain ⟨g26, h⟩ := gdE h
    obtain ⟨i27, h⟩ := gdE h
    refine r_iald C hw g26 i27 dX10_draw_77 ?_
    obtain ⟨g28, h⟩ := gdE h
    obtain ⟨i29, h⟩ := gdE h
    obtain ⟨z30, e31, h⟩ := bdE h
    refine r_iast C hw g28 i29 e31 dX10_draw_78 (fun H locs hw => ?_)
    refine lv_aload_n C.1 C.2.1 dX10_draw_79 rfl (lv_at hl 2 rfl) ?_
    have g32 : x0 < zn z30 ∧ zK z30 x0 = 9 := by rw [e31]; exact g12
    refine r_get (v := rv n0 (zG z30 576 x0)) C hw g32 (by decide) (Cn := RX10) (T := TX10) (N := 4) rfl in_X10_draw_X10 0 (by decide) (by decide +kernel) (fun _ h => h) rfl dX10_draw_80 ?_
    obtain ⟨b34, e33, h⟩ := boE h
    refine r_topr e33 ?_
    refine lv_iload_n C.1 C.2.1 dX10_draw_83 rfl (lv_at hl 1 rfl) ?_
    refine lv_iload C.1 C.2.1 dX10_draw_84 (lv_at hl 0 rfl) ?_
    obtain ⟨g35, h⟩ := gdE h
    obtain ⟨i36, h⟩ := gdE h
    obtain ⟨z37, e38, h⟩ := bdE h
    refine r_iast C hw g35 i36 e38 dX10_draw_86 (fun H locs hw => ?_)
    obtain ⟨v39, e40, h⟩ := bdE h
    refine lv_iinc (v := v39) (lv' := [(2, .int v39), (4, .int v20), (3, .int v14), (0, .ref (n0 + x0)), (1, .int x1)]) C.1 C.2.1 dX10_draw_87 hl (k := 4) rfl (by rw [e40]; rfl) (by decide) rfl (fun ls hl => ?_)
    refine lv_goto (tgt := 24) C.1 C.2.1 dX10_draw_90 (by decide) ?_
    cases h
    exact hP24 _ hF _ _ _ hw (lv_sub hl [3, 4, 0] rfl)
set_option maxHeartbeats 4000000 in
set_option maxRecDepth 100000 in
theorem lX10_draw_24 {n0 : Nat} {D : va_G} {Y : Nat → ClassId} {p : Program} {l : Launch} {e : Env} {s : State} {m : MethodId} {args : Array Value} {below : List Frame} {meth : Method} {c : Code} {N : Nat} {fin : Hp} {x0 : Nat} {x1 : Int32} (C : Cx n0 D Y RX10 cX10_draw none 5 wsX10_draw "draw" p s m args meth c) {x : (Hp)} : ∀ (n : Nat) (u : Int32 × Hp), wh (fun (u : Int32 × Hp) => fX10_draw_24 N x0 x1 u.1 u.2) n u = some x → (fun x => x = fin) x → ∀ (H : Heap) (locs : List Loc) (ls : Array Slot), Wd n0 D Y (u.2) s H locs → lv_has ls 5 [(0, .ref (n0 + x0)), (1, .int x1), (2, .int u.1)] → W p l e rmX10_draw s m args below meth c H locs 0 0 (MQ below (PosV n0 D Y fin) args s 0 0 (AA n0)) (F0 m 24 ls []) := fun n u h g => wh_ind (P := fun u => ∀ (H : Heap) (locs : List Loc) (ls : Array Slot), Wd n0 D Y (u.2) s H locs → lv_has ls 5 [(0, .ref (n0 + x0)), (1, .int x1), (2, .int u.1)] → W p l e rmX10_draw s m args below meth c H locs 0 0 (MQ below (PosV n0 D Y fin) args s 0 0 (AA n0)) (F0 m 24 ls [])) (G := (fun x => x = fin)) (fun u x h hF H locs ls hw hl => tX10_draw_24 C (P24 := fun u => ∀ (H : Heap) (locs : List Loc) (ls : Array Slot), Wd n0 D Y (u.2) s H locs → lv_has ls 5 [(0, .ref (n0 + x0)), (1, .int x1), (2, .int u.1)] → W p l e rmX10_draw s m args below meth c H locs 0 0 (MQ below (PosV n0 D Y fin) args s 0 0 (AA n0)) (F0 m 24 ls [])) (fun _ h => h) h hF hw hl) n u x h g
noncomputable def fX10_draw_2 (N : Nat) (x0 : Nat) (x1 : Int32) (x2 : Int32) (z : Hp) : Option ((Int32 × Hp) ⊕ (Hp)) := br (x1 ≤ x2) (lf <| bd (x1 - (1 : Int32)) fun v3 => wh (fun (u : Int32 × Hp) => fX10_draw_24 N x0 x1 u.1 u.2) N (v3, z)) (gd (x0 < zn z ∧ zK z x0 = 9) <| bo (zG z 576 x0) fun b7 => gd (b7 < zn z ∧ zK z b7 = 12) <| gd (¬ (x2 < 0 ∨ zL z b7 ≤ Int32.toNatClampNeg x2)) <| bd (zsA z b7 (Int32.toNatClampNeg x2) x2) fun z10 => bd (x2 + (1 : Int32)) fun v12 => some (.inl (v12, z10)))
set_option maxHeartbeats 4000000 in
set_option maxRecDepth 100000 in
theorem tX10_draw_2 {n0 : Nat} {D : va_G} {Y : Nat → ClassId} {p : Program} {l : Launch} {e : Env} {s : State} {m : MethodId} {args : Array Value} {below : List Frame} {meth : Method} {c : Code} {N : Nat} {fin : Hp} {x0 : Nat} {x1 : Int32} {x2 : Int32}  {z : Hp} (C : Cx n0 D Y RX10 cX10_draw none 5 wsX10_draw "draw" p s m args meth c) {P2 : Int32 × Hp → Prop} (hP2 : ∀ u, P2 u → ∀ (H : Heap) (locs : List Loc) (ls : Array Slot), Wd n0 D Y (u.2) s H locs → lv_has ls 5 [(0, .ref (n0 + x0)), (1, .int x1), (2, .int u.1)] → W p l e rmX10_draw s m args below meth c H locs 0 0 (MQ below (PosV n0 D Y fin) args s 0 0 (AA n0)) (F0 m 2 ls [])) {x : ((Int32 × Hp) ⊕ (Hp))} (h : fX10_draw_2 N x0 x1 x2  z = some x) (hF : (Fn P2 (fun x => x = fin)) x) {H : Heap} {locs : List Loc} {ls : Array Slot} (hw : Wd n0 D Y z s H locs) (hl : lv_has ls 5 [(0, .ref (n0 + x0)), (1, .int x1), (2, .int x2)]) : W p l e rmX10_draw s m args below meth c H locs 0 0 (MQ below (PosV n0 D Y fin) args s 0 0 (AA n0)) (F0 m 2 ls []) := by
  unfold fX10_draw_2 at h
  refine lv_iload_n C.1 C.2.1 dX10_draw_2 rfl (lv_at hl 2 rfl) ?_
  refine lv_iload_n C.1 C.2.1 dX10_draw_3 rfl (lv_at hl 1 rfl) ?_
  refine lv_icmp_ge (tgt := 20) C.1 C.2.1 dX10_draw_4 (by decide) (fun c1 => ?_) (fun c1 => ?_)
  · replace h := brT h c1
    obtain ⟨y2, h, hF⟩ := lfX h hF
    refine lv_iload_n C.1 C.2.1 dX10_draw_20 rfl (lv_at hl 1 rfl) ?_
    refine lv_iconst (v := (1 : Int32)) C.1 C.2.1 dX10_draw_21 (by decide) ?_
    refine lv_isub C.1 C.2.1 dX10_draw_22 ?_
    obtain ⟨v3, e4, h⟩ := bdE h
    refine r_topi e4 ?_
    refine lv_istore_n (i := 2) (lv' := [(2, .int v3), (0, .ref (n0 + x0)), (1, .int x1)]) C.1 C.2.1 dX10_draw_23 rfl hl (by decide) rfl (fun ls hl => ?_)
    exact lX10_draw_24 C _ _ h hF _ _ _ hw (lv_sub hl [1, 2, 0] rfl)
  · replace h := brF h c1
    refine lv_aload_n C.1 C.2.1 dX10_draw_7 rfl (lv_at hl 0 rfl) ?_
    obtain ⟨g5, h⟩ := gdE h
    refine r_get (v := rv n0 (zG z 576 x0)) C hw g5 (by decide) (Cn := RX10) (T := TX10) (N := 4) rfl in_X10_draw_X10 0 (by decide) (by decide +kernel) (fun _ h => h) rfl dX10_draw_8 ?_
    obtain ⟨b7, e6, h⟩ := boE h
    refine r_topr e6 ?_
    refine lv_iload_n C.1 C.2.1 dX10_draw_11 rfl (lv_at hl 2 rfl) ?_
    refine lv_iload_n C.1 C.2.1 dX10_draw_12 rfl (lv_at hl 2 rfl) ?_
    obtain ⟨g8, h⟩ := gdE h
    obtain ⟨i9, h⟩ := gdE h
    obtain ⟨z10, e11, h⟩ := bdE h
    refine r_iast C hw g8 i9 e11 dX10_draw_13 (fun H locs hw => ?_)
    obtain ⟨v12, e13, h⟩ := bdE h
    refine lv_iinc (v := v12) (lv' := [(2, .int v12), (0, .ref (n0 + x0)), (1, .int x1)]) C.1 C.2.1 dX10_draw_14 hl (k := 2) rfl (by rw [e13]; rfl) (by decide) rfl (fun ls hl => ?_)
    refine lv_goto (tgt := 2) C.1 C.2.1 dX10_draw_17 (by decide) ?_
    cases h
    exact hP2 _ hF _ _ _ hw (lv_sub hl [1, 2, 0] rfl)
set_option maxHeartbeats 4000000 in
set_option maxRecDepth 100000 in
theorem lX10_draw_2 {n0 : Nat} {D : va_G} {Y : Nat → ClassId} {p : Program} {l : Launch} {e : Env} {s : State} {m : MethodId} {args : Array Value} {below : List Frame} {meth : Method} {c : Code} {N : Nat} {fin : Hp} {x0 : Nat} {x1 : Int32} (C : Cx n0 D Y RX10 cX10_draw none 5 wsX10_draw "draw" p s m args meth c) {x : (Hp)} : ∀ (n : Nat) (u : Int32 × Hp), wh (fun (u : Int32 × Hp) => fX10_draw_2 N x0 x1 u.1 u.2) n u = some x → (fun x => x = fin) x → ∀ (H : Heap) (locs : List Loc) (ls : Array Slot), Wd n0 D Y (u.2) s H locs → lv_has ls 5 [(0, .ref (n0 + x0)), (1, .int x1), (2, .int u.1)] → W p l e rmX10_draw s m args below meth c H locs 0 0 (MQ below (PosV n0 D Y fin) args s 0 0 (AA n0)) (F0 m 2 ls []) := fun n u h g => wh_ind (P := fun u => ∀ (H : Heap) (locs : List Loc) (ls : Array Slot), Wd n0 D Y (u.2) s H locs → lv_has ls 5 [(0, .ref (n0 + x0)), (1, .int x1), (2, .int u.1)] → W p l e rmX10_draw s m args below meth c H locs 0 0 (MQ below (PosV n0 D Y fin) args s 0 0 (AA n0)) (F0 m 2 ls [])) (G := (fun x => x = fin)) (fun u x h hF H locs ls hw hl => tX10_draw_2 C (P2 := fun u => ∀ (H : Heap) (locs : List Loc) (ls : Array Slot), Wd n0 D Y (u.2) s H locs → lv_has ls 5 [(0, .ref (n0 + x0)), (1, .int x1), (2, .int u.1)] → W p l e rmX10_draw s m args below meth c H locs 0 0 (MQ below (PosV n0 D Y fin) args s 0 0 (AA n0)) (F0 m 2 ls [])) (fun _ h => h) h hF hw hl) n u x h g
noncomputable def fX10_draw (N : Nat) (x0 : Nat) (x1 : Int32) (z : Hp) : Option (Hp) := wh (fun (u : Int32 × Hp) => fX10_draw_2 N x0 x1 u.1 u.2) N ((0 : Int32), z)
set_option maxHeartbeats 4000000 in
set_option maxRecDepth 100000 in
theorem tX10_draw_0 {n0 : Nat} {D : va_G} {Y : Nat → ClassId} {p : Program} {l : Launch} {e : Env} {s : State} {m : MethodId} {args : Array Value} {below : List Frame} {meth : Method} {c : Code} {N : Nat} {fin : Hp} {x0 : Nat} {x1 : Int32}  {z : Hp} (C : Cx n0 D Y RX10 cX10_draw none 5 wsX10_draw "draw" p s m args meth c) {x : (Hp)} (h : fX10_draw N x0 x1  z = some x) (hF : (fun x => x = fin) x) {H : Heap} {locs : List Loc} {ls : Array Slot} (hw : Wd n0 D Y z s H locs) (hl : lv_has ls 5 [(0, .ref (n0 + x0)), (1, .int x1)]) : W p l e rmX10_draw s m args below meth c H locs 0 0 (MQ below (PosV n0 D Y fin) args s 0 0 (AA n0)) (F0 m 0 ls []) := by
  unfold fX10_draw at h
  refine lv_iconst (v := (0 : Int32)) C.1 C.2.1 dX10_draw_0 (by decide) ?_
  refine lv_istore_n (i := 2) (lv' := [(2, .int (0 : Int32)), (0, .ref (n0 + x0)), (1, .int x1)]) C.1 C.2.1 dX10_draw_1 rfl hl (by decide) rfl (fun ls hl => ?_)
  exact lX10_draw_2 C _ _ h hF _ _ _ hw (lv_sub hl [1, 2, 0] rfl)
set_option maxRecDepth 100000 in
theorem kX10_draw (l : Launch) (n0 : Nat) (D : va_G) (Y : Nat → ClassId) (N : Nat) (x0 : Nat) (x1 : Int32) (z : Hp) {z1 : Hp} (h : fX10_draw N x0 x1 z = some z1) : Met l yX10_draw wsX10_draw rmX10_draw (PreC n0 D Y z [.ref (n0 + x0), .int x1]) (PosV n0 D Y z1) 0 0 (AA n0) := by
  refine Met.ofW (cc := cX10_draw) (maxL := 5) (ret := none) (by decide) rfl ?_
  intro p e s m args below meth c s₁ B hml hv
  obtain ⟨rfl, hR, hK⟩ := hv
  have C : Cx n0 D Y RX10 cX10_draw none 5 wsX10_draw "draw" p s m ([.ref (n0 + x0), .int x1] : List Value).toArray meth c := ⟨B.exec, B.bytes, B.returns, hml, findClass_of_methodNamed B.named, atoms_spec (ws := wsX10_draw) B.pre, B.notSynchronized, (name_of_methodNamed B.named B.method).1, hK⟩
  have hl := lv_entry ([.ref (n0 + x0), .int x1]) (n := 5) (Nat.le_of_ble_eq_true rfl)
  rw [lg_entry_eq]
  generalize (lg_sl ([.ref (n0 + x0), .int x1]) ++ List.replicate (5 - (lg_sl ([.ref (n0 + x0), .int x1])).length) Slot.unset).toArray = ls at hl ⊢
  have hl : lv_has ls 5 [(0, .ref (n0 + x0)), (1, .int x1)] := hl
  exact tX10_draw_0 C h rfl ⟨hR, va_S.rf⟩ hl
theorem in_X10_upNext_X10 : ∀ w ∈ wsX100, w ∈ wsX10_upNext := by decide +kernel
abbrev rmX10_upNext : Room := { frames := 1, cells := 0, slots := 0, locals := 24 }
noncomputable def fX10_upNext_51 (N : Nat) (x0 : Nat) (z : Hp) : Option (Int32 × Hp) := some ((-6 : Int32), z)
set_option maxHeartbeats 4000000 in
set_option maxRecDepth 100000 in
theorem tX10_upNext_51 {n0 : Nat} {D : va_G} {Y : Nat → ClassId} {p : Program} {l : Launch} {e : Env} {s : State} {m : MethodId} {args : Array Value} {below : List Frame} {meth : Method} {c : Code} {N : Nat} {fin : Int32 × Hp} {x0 : Nat}  {z : Hp} (C : Cx n0 D Y RX10 cX10_upNext (some .int) 2 wsX10_upNext "upNext" p s m args meth c) {x : (Int32 × Hp)} (h : fX10_upNext_51 N x0  z = some x) (hF : (fun x => x = fin) x) {H : Heap} {locs : List Loc} {ls : Array Slot} (hw : Wd n0 D Y z s H locs) (hl : lv_has ls 2 [(0, .ref (n0 + x0))]) : W p l e rmX10_upNext s m args below meth c H locs 0 0 (MQ below (PosI n0 D Y fin.2 fin.1) args s 0 0 (AA n0)) (F0 m 51 ls []) := by
  unfold fX10_upNext_51 at h
  refine lv_bipush (v := (-6 : Int32)) C.1 C.2.1 dX10_upNext_51 (by decide) ?_
  cases h
  replace hF : _ = fin := hF
  subst hF
  exact r_iret C hw dX10_upNext_53
noncomputable def fX10_upNext_21 (N : Nat) (x0 : Nat) (z : Hp) : Option (Int32 × Hp) := gd (x0 < zn z ∧ zK z x0 = 9) <| br ((zF z 578 x0) < 0) (fX10_upNext_51 N x0 z) (br ((zF z 577 x0) ≤ (zF z 578 x0)) (fX10_upNext_51 N x0 z) (bo (zG z 576 x0) fun b5 => bd (zF z 578 x0) fun v6 => gd (b5 < zn z ∧ zK z b5 = 12) <| gd (¬ (v6 < 0 ∨ zL z b5 ≤ (v6).toNatClampNeg)) <| some ((zA z b5 (v6).toNatClampNeg), z)))
set_option maxHeartbeats 4000000 in
set_option maxRecDepth 100000 in
theorem tX10_upNext_21 {n0 : Nat} {D : va_G} {Y : Nat → ClassId} {p : Program} {l : Launch} {e : Env} {s : State} {m : MethodId} {args : Array Value} {below : List Frame} {meth : Method} {c : Code} {N : Nat} {fin : Int32 × Hp} {x0 : Nat}  {z : Hp} (C : Cx n0 D Y RX10 cX10_upNext (some .int) 2 wsX10_upNext "upNext" p s m args meth c) {x : (Int32 × Hp)} (h : fX10_upNext_21 N x0  z = some x) (hF : (fun x => x = fin) x) {H : Heap} {locs : List Loc} {ls : Array Slot} (hw : Wd n0 D Y z s H locs) (hl : lv_has ls 2 [(0, .ref (n0 + x0))]) : W p l e rmX10_upNext s m args below meth c H locs 0 0 (MQ below (PosI n0 D Y fin.2 fin.1) args s 0 0 (AA n0)) (F0 m 21 ls []) := by
  unfold fX10_upNext_21 at h
  refine lv_aload_n C.1 C.2.1 dX10_upNext_21 rfl (lv_at hl 0 rfl) ?_
  obtain ⟨g1, h⟩ := gdE h
  refine r_get (v := .int (zF z 578 x0)) C hw g1 (by decide) (Cn := RX10) (T := TX10) (N := 4) rfl in_X10_upNext_X10 2 (by decide) (by decide +kernel) (fun _ h => h) rfl dX10_upNext_22 ?_
  refine lv_if_lt (tgt := 51) C.1 C.2.1 dX10_upNext_25 (by decide) (fun c2 => ?_) (fun c2 => ?_)
  · replace h := brT h c2
    exact tX10_upNext_51 C h hF hw (lv_sub hl [0] rfl)
  · replace h := brF h c2
    refine lv_aload_n C.1 C.2.1 dX10_upNext_28 rfl (lv_at hl 0 rfl) ?_
    refine r_get (v := .int (zF z 578 x0)) C hw g1 (by decide) (Cn := RX10) (T := TX10) (N := 4) rfl in_X10_upNext_X10 2 (by decide) (by decide +kernel) (fun _ h => h) rfl dX10_upNext_29 ?_
    refine lv_aload_n C.1 C.2.1 dX10_upNext_32 rfl (lv_at hl 0 rfl) ?_
    refine r_get (v := .int (zF z 577 x0)) C hw g1 (by decide) (Cn := RX10) (T := TX10) (N := 4) rfl in_X10_upNext_X10 1 (by decide) (by decide +kernel) (fun _ h => h) rfl dX10_upNext_33 ?_
    refine lv_icmp_ge (tgt := 51) C.1 C.2.1 dX10_upNext_36 (by decide) (fun c3 => ?_) (fun c3 => ?_)
    · replace h := brT h c3
      exact tX10_upNext_51 C h hF hw (lv_sub hl [0] rfl)
    · replace h := brF h c3
      refine lv_aload_n C.1 C.2.1 dX10_upNext_39 rfl (lv_at hl 0 rfl) ?_
      refine r_get (v := rv n0 (zG z 576 x0)) C hw g1 (by decide) (Cn := RX10) (T := TX10) (N := 4) rfl in_X10_upNext_X10 0 (by decide) (by decide +kernel) (fun _ h => h) rfl dX10_upNext_40 ?_
      obtain ⟨b5, e4, h⟩ := boE h
      refine r_topr e4 ?_
      refine lv_aload_n C.1 C.2.1 dX10_upNext_43 rfl (lv_at hl 0 rfl) ?_
      refine r_get (v := .int (zF z 578 x0)) C hw g1 (by decide) (Cn := RX10) (T := TX10) (N := 4) rfl in_X10_upNext_X10 2 (by decide) (by decide +kernel) (fun _ h => h) rfl dX10_upNext_44 ?_
      obtain ⟨v6, e7, h⟩ := bdE h
      refine r_topi e7 ?_
      obtain ⟨g8, h⟩ := gdE h
      obtain ⟨i9, h⟩ := gdE h
      refine r_iald C hw g8 i9 dX10_upNext_47 ?_
      refine lv_goto (tgt := 53) C.1 C.2.1 dX10_upNext_48 (by decide) ?_
      cases h
      replace hF : _ = fin := hF
      subst hF
      exact r_iret C hw dX10_upNext_53
noncomputable def fX10_upNext (N : Nat) (x0 : Nat) (x1 : Int32) (z : Hp) : Option (Int32 × Hp) := gd (x0 < zn z ∧ zK z x0 = 9) <| br ((zF z 578 x0) < (zF z 577 x0)) (fX10_upNext_21 N x0 z) (bo (fX10_draw N x0 (if (8 : Int32) < x1 then (8 : Int32) else x1) z) fun z4 => fX10_upNext_21 N x0 z4)
set_option maxHeartbeats 4000000 in
set_option maxRecDepth 100000 in
theorem tX10_upNext_0 {n0 : Nat} {D : va_G} {Y : Nat → ClassId} {p : Program} {l : Launch} {e : Env} {s : State} {m : MethodId} {args : Array Value} {below : List Frame} {meth : Method} {c : Code} {N : Nat} {fin : Int32 × Hp} {x0 : Nat} {x1 : Int32}  {z : Hp} (C : Cx n0 D Y RX10 cX10_upNext (some .int) 2 wsX10_upNext "upNext" p s m args meth c) {x : (Int32 × Hp)} (h : fX10_upNext N x0 x1  z = some x) (hF : (fun x => x = fin) x) {H : Heap} {locs : List Loc} {ls : Array Slot} (hw : Wd n0 D Y z s H locs) (hl : lv_has ls 2 [(0, .ref (n0 + x0)), (1, .int x1)]) : W p l e rmX10_upNext s m args below meth c H locs 0 0 (MQ below (PosI n0 D Y fin.2 fin.1) args s 0 0 (AA n0)) (F0 m 0 ls []) := by
  unfold fX10_upNext at h
  refine lv_aload_n C.1 C.2.1 dX10_upNext_0 rfl (lv_at hl 0 rfl) ?_
  obtain ⟨g1, h⟩ := gdE h
  refine r_get (v := .int (zF z 578 x0)) C hw g1 (by decide) (Cn := RX10) (T := TX10) (N := 4) rfl in_X10_upNext_X10 2 (by decide) (by decide +kernel) (fun _ h => h) rfl dX10_upNext_1 ?_
  refine lv_aload_n C.1 C.2.1 dX10_upNext_4 rfl (lv_at hl 0 rfl) ?_
  refine r_get (v := .int (zF z 577 x0)) C hw g1 (by decide) (Cn := RX10) (T := TX10) (N := 4) rfl in_X10_upNext_X10 1 (by decide) (by decide +kernel) (fun _ h => h) rfl dX10_upNext_5 ?_
  refine lv_icmp_lt (tgt := 21) C.1 C.2.1 dX10_upNext_8 (by decide) (fun c2 => ?_) (fun c2 => ?_)
  · replace h := brT h c2
    exact tX10_upNext_21 C h hF hw (lv_sub hl [0] rfl)
  · replace h := brF h c2
    refine lv_aload_n C.1 C.2.1 dX10_upNext_11 rfl (lv_at hl 0 rfl) ?_
    refine lv_iload_n C.1 C.2.1 dX10_upNext_12 rfl (lv_at hl 1 rfl) ?_
    refine lv_bipush (v := (8 : Int32)) C.1 C.2.1 dX10_upNext_13 (by decide) ?_
    refine va_mmin C.1 C.2.1 (C.2.2.2.1.trans hl.1.symm) C.2.2.2.2.1 (C.2.2.2.2.2.1 (.methodLink RX10 25 Lib.Math.min.name) (by decide +kernel)) (C.2.2.2.2.2.1 (.static Lib.Math.min.name) (by decide +kernel)) (C.2.2.2.2.2.1 (.initialized "java/lang/Math") (by decide +kernel)) (C.2.2.2.2.2.1 _ (List.mem_of_getElem? (i := 6) rfl)) (Nat.le_of_ble_eq_true rfl) (Nat.le_of_ble_eq_true rfl) (Nat.le_of_ble_eq_true rfl) (Nat.le_of_ble_eq_true rfl) dX10_upNext_15 ?_
    obtain ⟨z4, e3, h⟩ := boE h
    refine r_aftv hw (r_runV (As := [.int (if (8 : Int32) < x1 then (8 : Int32) else x1)]) (rest := []) C hw (ki := 9) g1 (by decide) rfl (kX10_draw l n0 D Y N x0 (if (8 : Int32) < x1 then (8 : Int32) else x1) z e3) (cwV 1 C.2.2.2.2.2.1 gX10_upNext_X10_draw rfl rfl rfl (by decide +kernel) ⟨(Nat.le_of_ble_eq_true rfl), (Nat.le_of_ble_eq_true rfl)⟩) rfl hl.1 rfl (Nat.le_of_ble_eq_true rfl) dX10_upNext_18 ⟨(Nat.le_of_ble_eq_true rfl), (Nat.le_of_ble_eq_true rfl)⟩) (fun H locs hw => ?_)
    exact tX10_upNext_21 C h hF hw (lv_sub hl [0] rfl)
set_option maxRecDepth 100000 in
theorem kX10_upNext (l : Launch) (n0 : Nat) (D : va_G) (Y : Nat → ClassId) (N : Nat) (x0 : Nat) (x1 : Int32) (z : Hp) {r : Int32} {z1 : Hp} (h : fX10_upNext N x0 x1 z = some (r, z1)) : Met l yX10_upNext wsX10_upNext rmX10_upNext (PreC n0 D Y z [.ref (n0 + x0), .int x1]) (PosI n0 D Y z1 r) 0 0 (AA n0) := by
  refine Met.ofW (cc := cX10_upNext) (maxL := 2) (ret := (some .int)) (by decide) rfl ?_
  intro p e s m args below meth c s₁ B hml hv
  obtain ⟨rfl, hR, hK⟩ := hv
  have C : Cx n0 D Y RX10 cX10_upNext (some .int) 2 wsX10_upNext "upNext" p s m ([.ref (n0 + x0), .int x1] : List Value).toArray meth c := ⟨B.exec, B.bytes, B.returns, hml, findClass_of_methodNamed B.named, atoms_spec (ws := wsX10_upNext) B.pre, B.notSynchronized, (name_of_methodNamed B.named B.method).1, hK⟩
  have hl := lv_entry ([.ref (n0 + x0), .int x1]) (n := 2) (Nat.le_of_ble_eq_true rfl)
  rw [lg_entry_eq]
  generalize (lg_sl ([.ref (n0 + x0), .int x1]) ++ List.replicate (2 - (lg_sl ([.ref (n0 + x0), .int x1])).length) Slot.unset).toArray = ls at hl ⊢
  have hl : lv_has ls 2 [(0, .ref (n0 + x0)), (1, .int x1)] := hl
  exact tX10_upNext_0 C h rfl ⟨hR, va_S.rf⟩ hl
