/-! THE CLAIM OUT OF ONE WALK OF THE LAW'S BODY. Your part is whole_start (and what it stands on); all else here is the same for every law, but numbers. -/
def R_law : String := "BreadLawLaw"
def lw_P (b : Addr) (xs : List Int32) (args : Array Value) (s : State) : Prop := args = #[.ref b] ∧ s.IntsAt b xs ∧ xs.length ≤ 3072 ∧ (Jvm.Cond.and given_1 narrow_1).before args s = true
def lw_Q (_ : Array Value) (s : State) (o : Outcome) (t : State) : Prop := o = .returned (some (.int 1)) ∧ Framed s o t [] 600000 7302250
def lw_Z (below : List Frame) (a : Array Value) (s : State) : State → Prop := fun t => ∃ o, t.status = .running ∧ Ended t below o ∧ lw_Q a s o t
/-- the law's own end, with 1 on the stack, nothing written that was there before, its room as the claim has it -/
theorem lw_ret {p : Program} {l : Launch} {e : Env} {s : State} {m : MethodId} {below : List Frame} {meth : Method} {c : Code} {b : Nat} (hx : p.tables.exec = Jvm.exec) (hb : c.code = code) (hr : meth.sig.returnType = ret) (hlocks : meth.locks = false) {pc : Nat} {H : Heap} {ls : Array Slot} (hdg : decode code pc = .ok (.ireturn, 1)) : W p l e room_1 s m #[Value.ref b] below meth c H [] 600000 7302250 (lw_Z below #[Value.ref b] s) (F0 m pc ls [.int 1]) := by
  intro T hT X
  obtain ⟨fs, hret, hrun, hended, hW, hframe⟩ := X.leave (v := some (.int 1)) (hlocks := hlocks) (fun h => by rw [hr] at h; cases h)
  have hmeth' : T.vm.method? m = some meth := X.method'
  refine ⟨T.setFrames fs, ?_, .returned (some (.int 1)), hrun, hended, rfl, ⟨_, rfl⟩, hW, hframe⟩
  jvm_step X.here [X.here.top, hx, hb, hdg, hmeth', hr, ret, narrow_b1]
  (try refine ⟨rfl, ?_⟩); (try refine ⟨rfl, ?_⟩)
  first | (intro acts; rw [hret _ acts rfl rfl rfl]) | rw [hret _ _ rfl rfl rfl]
  exact Steps.refl _
/-- what holds at the law's entry: the machine, the code, the tables' words (any of lw_tbl by 'hts w (by decide +kernel)'), the script of L ints xs at the cell b, what the Statement gives of the start (any of its parts by flat_of_before) -/
def lw_At (p : Program) (s : State) (m : MethodId) (meth : Method) (c : Code) (b L : Nat) (xs : Nat → Int32) : Prop :=
  p.tables.exec = Jvm.exec ∧ c.code = code ∧ meth.sig.returnType = ret ∧ c.maxLocals = 4 ∧ s.vm.findClass R_law = some m.cls ∧ (∀ w ∈ lw_tbl, w.before #[Value.ref b] s = true) ∧ va_X b L xs s s.heap ∧ b < s.heap.size ∧ meth.locks = false ∧ (Jvm.Cond.and given_1 narrow_1).before #[Value.ref b] s = true

set_option maxHeartbeats 4000000 in
set_option maxRecDepth 100000 in
theorem law_0 {n0 : Nat} {D : va_G} {Y : Nat → ClassId} {p : Program} {l : Launch} {e : Env} {s : State} {m : MethodId} {below : List Frame} {meth : Method} {c : Code} {b L : Nat} {xs : Nat → Int32} {N : Nat} {Inv : Hp → Prop} (hL : L ≤ 3072) (C : Cx n0 D Y RL code ret 4 wsL_law meth.name p s m #[Value.ref b] meth c) (hn0 : n0 = s.heap.size) (hX : va_X b L xs s s.heap) (hbl : b < s.heap.size) (hO : Ops N Inv) {n i : Nat} (hi : i + 6 ≤ L) (K : (∀ (z : Hp) (cells slots : Nat) (H : Heap) (locs : List Loc) (ls : Array Slot), cells + 4 * n ≤ 600000 → slots + 26 * n ≤ 7302250 → Inv z → Wd n0 D Y z s H locs → lv_has ls 4 [(0, .ref b), (1, .ref (n0 + 0)), (2, .ref (n0 + 17)), (3, .int (nI i))] → W p l e room_1 s m #[Value.ref b] below meth c H locs cells slots (lw_Z below #[Value.ref b] s) (F0 m 920 ls []))) {z : Hp} {cells slots : Nat} {H : Heap} {locs : List Loc} {ls : Array Slot} (hc : cells + 4 * (n + 1) ≤ 600000) (hs : slots + 26 * (n + 1) ≤ 7302250) (hI : Inv z) (hw : Wd n0 D Y z s H locs) (hl : lv_has ls 4 [(0, .ref b), (1, .ref (n0 + 0)), (2, .ref (n0 + 17)), (3, .int (nI i))]) : W p l e room_1 s m #[Value.ref b] below meth c H locs cells slots (lw_Z below #[Value.ref b] s) (F0 m 152 ls []) := by
  have hbA : ¬ AA n0 b := by unfold AA; rw [hn0]; exact Nat.not_le.mpr hbl
  have hsh := hO.2.2.2.2.2.2.2.2.2.2.2.2.2.2.2.2.2.2.2.2.2.2.2.2.2.2 z hI
  obtain ⟨r, z1, z2, h1, hg, h2, hI2⟩ := hO.1 z (xs (i + 1)) hI
  refine lv_aload_n C.1 C.2.1 dL_law_152 rfl (lv_at hl 1 rfl) ?_
  refine lv_aload_n C.1 C.2.1 dL_law_153 rfl (lv_at hl 0 rfl) ?_
  refine lv_iload_n C.1 C.2.1 dL_law_154 rfl (lv_at hl 3 rfl) ?_
  refine lv_iconst (v := (1 : Int32)) C.1 C.2.1 dL_law_155 (by decide) ?_
  refine lv_iadd C.1 C.2.1 dL_law_156 ?_
  refine r_topi (y := nI (i + 1)) (nI_add i 1).symm ?_
  refine va_sld C.1 C.2.1 hX hbl hbA hw.2 (i := nI (i + 1)) (vp_in_nI (by omega) (by omega)) dL_law_157 ?_
  refine r_topi (y := xs (i + 1)) (by rw [nI_clamp (by omega)]) ?_
  refine r_afti hw (r_runV (As := [.int (xs (i + 1))]) (rest := []) C hw (ki := 10) hsh.1 (by decide) rfl (kX11_go l n0 D Y N 0 (xs (i + 1)) z h1) (cwV 1 C.2.2.2.2.2.1 gL_law_X11_go rfl rfl rfl (by decide +kernel) ⟨(Nat.le_of_ble_eq_true rfl), (Nat.le_of_ble_eq_true rfl)⟩) rfl hl.1 rfl (Nat.le_of_ble_eq_true rfl) dL_law_158 ⟨by show _ ≤ 600000; omega, by show _ ≤ 7302250; omega⟩) (fun H locs hw => ?_)
  refine lv_aload_n C.1 C.2.1 dL_law_161 rfl (lv_at hl 2 rfl) ?_
  refine lv_aload_n C.1 C.2.1 dL_law_162 rfl (lv_at hl 0 rfl) ?_
  refine lv_iload_n C.1 C.2.1 dL_law_163 rfl (lv_at hl 3 rfl) ?_
  refine lv_iconst (v := (1 : Int32)) C.1 C.2.1 dL_law_164 (by decide) ?_
  refine lv_iadd C.1 C.2.1 dL_law_165 ?_
  refine r_topi (y := nI (i + 1)) (nI_add i 1).symm ?_
  refine va_sld C.1 C.2.1 hX hbl hbA hw.2 (i := nI (i + 1)) (vp_in_nI (by omega) (by omega)) dL_law_166 ?_
  refine r_topi (y := xs (i + 1)) (by rw [nI_clamp (by omega)]) ?_
  refine r_afti hw (r_runV (As := [.int (xs (i + 1))]) (rest := [.int r]) C hw (ki := 11) hg (by decide) rfl (kX12_go l n0 D Y N 17 (xs (i + 1)) z1 h2) (cwV 1 C.2.2.2.2.2.1 gL_law_X12_go rfl rfl rfl (by decide +kernel) ⟨(Nat.le_of_ble_eq_true rfl), (Nat.le_of_ble_eq_true rfl)⟩) rfl hl.1 rfl (Nat.le_of_ble_eq_true rfl) dL_law_167 ⟨by show _ ≤ 600000; omega, by show _ ≤ 7302250; omega⟩) (fun H locs hw => ?_)
  refine lv_icmp_eq (tgt := 920) C.1 C.2.1 dL_law_170 (by decide) (fun _ => ?_) (fun q => absurd rfl q)
  exact K z2 _ _ _ _ _ (by omega) (by omega) hI2 hw hl
set_option maxHeartbeats 4000000 in
set_option maxRecDepth 100000 in
theorem law_1 {n0 : Nat} {D : va_G} {Y : Nat → ClassId} {p : Program} {l : Launch} {e : Env} {s : State} {m : MethodId} {below : List Frame} {meth : Method} {c : Code} {b L : Nat} {xs : Nat → Int32} {N : Nat} {Inv : Hp → Prop} (hL : L ≤ 3072) (C : Cx n0 D Y RL code ret 4 wsL_law meth.name p s m #[Value.ref b] meth c) (hn0 : n0 = s.heap.size) (hX : va_X b L xs s s.heap) (hbl : b < s.heap.size) (hO : Ops N Inv) {n i : Nat} (hi : i + 6 ≤ L) (K : (∀ (z : Hp) (cells slots : Nat) (H : Heap) (locs : List Loc) (ls : Array Slot), cells + 4 * n ≤ 600000 → slots + 26 * n ≤ 7302250 → Inv z → Wd n0 D Y z s H locs → lv_has ls 4 [(0, .ref b), (1, .ref (n0 + 0)), (2, .ref (n0 + 17)), (3, .int (nI i))] → W p l e room_1 s m #[Value.ref b] below meth c H locs cells slots (lw_Z below #[Value.ref b] s) (F0 m 920 ls []))) {z : Hp} {cells slots : Nat} {H : Heap} {locs : List Loc} {ls : Array Slot} (hc : cells + 4 * (n + 1) ≤ 600000) (hs : slots + 26 * (n + 1) ≤ 7302250) (hI : Inv z) (hw : Wd n0 D Y z s H locs) (hl : lv_has ls 4 [(0, .ref b), (1, .ref (n0 + 0)), (2, .ref (n0 + 17)), (3, .int (nI i))]) : W p l e room_1 s m #[Value.ref b] below meth c H locs cells slots (lw_Z below #[Value.ref b] s) (F0 m 175 ls []) := by
  have hbA : ¬ AA n0 b := by unfold AA; rw [hn0]; exact Nat.not_le.mpr hbl
  have hsh := hO.2.2.2.2.2.2.2.2.2.2.2.2.2.2.2.2.2.2.2.2.2.2.2.2.2.2 z hI
  obtain ⟨r, z1, z2, h1, hg, h2, hI2⟩ := hO.2.1 z hI
  refine lv_aload_n C.1 C.2.1 dL_law_175 rfl (lv_at hl 1 rfl) ?_
  refine r_afti hw (r_runV (As := []) (rest := []) C hw (ki := 10) hsh.1 (by decide) rfl (kX11_baker l n0 D Y N 0 z h1) (cwV 0 C.2.2.2.2.2.1 gL_law_X11_baker rfl rfl rfl (by decide +kernel) ⟨(Nat.le_of_ble_eq_true rfl), (Nat.le_of_ble_eq_true rfl)⟩) rfl hl.1 rfl (Nat.le_of_ble_eq_true rfl) dL_law_176 ⟨by show _ ≤ 600000; omega, by show _ ≤ 7302250; omega⟩) (fun H locs hw => ?_)
  refine lv_aload_n C.1 C.2.1 dL_law_179 rfl (lv_at hl 2 rfl) ?_
  refine r_afti hw (r_runV (As := []) (rest := [.int r]) C hw (ki := 11) hg (by decide) rfl (kX12_baker l n0 D Y N 17 z1 h2) (cwV 0 C.2.2.2.2.2.1 gL_law_X12_baker rfl rfl rfl (by decide +kernel) ⟨(Nat.le_of_ble_eq_true rfl), (Nat.le_of_ble_eq_true rfl)⟩) rfl hl.1 rfl (Nat.le_of_ble_eq_true rfl) dL_law_180 ⟨by show _ ≤ 600000; omega, by show _ ≤ 7302250; omega⟩) (fun H locs hw => ?_)
  refine lv_icmp_eq (tgt := 920) C.1 C.2.1 dL_law_183 (by decide) (fun _ => ?_) (fun q => absurd rfl q)
  exact K z2 _ _ _ _ _ (by omega) (by omega) hI2 hw hl
set_option maxHeartbeats 4000000 in
set_option maxRecDepth 100000 in
theorem law_2 {n0 : Nat} {D : va_G} {Y : Nat → ClassId} {p : Program} {l : Launch} {e : Env} {s : State} {m : MethodId} {below : List Frame} {meth : Method} {c : Code} {b L : Nat} {xs : Nat → Int32} {N : Nat} {Inv : Hp → Prop} (hL : L ≤ 3072) (C : Cx n0 D Y RL code ret 4 wsL_law meth.name p s m #[Value.ref b] meth c) (hn0 : n0 = s.heap.size) (hX : va_X b L xs s s.heap) (hbl : b < s.heap.size) (hO : Ops N Inv) {n i : Nat} (hi : i + 6 ≤ L) (K : (∀ (z : Hp) (cells slots : Nat) (H : Heap) (locs : List Loc) (ls : Array Slot), cells + 4 * n ≤ 600000 → slots + 26 * n ≤ 7302250 → Inv z → Wd n0 D Y z s H locs → lv_has ls 4 [(0, .ref b), (1, .ref (n0 + 0)), (2, .ref (n0 + 17)), (3, .int (nI i))] → W p l e room_1 s m #[Value.ref b] below meth c H locs cells slots (lw_Z below #[Value.ref b] s) (F0 m 920 ls []))) {z : Hp} {cells slots : Nat} {H : Heap} {locs : List Loc} {ls : Array Slot} (hc : cells + 4 * (n + 1) ≤ 600000) (hs : slots + 26 * (n + 1) ≤ 7302250) (hI : Inv z) (hw : Wd n0 D Y z s H locs) (hl : lv_has ls 4 [(0, .ref b), (1, .ref (n0 + 0)), (2, .ref (n0 + 17)), (3, .int (nI i))]) : W p l e room_1 s m #[Value.ref b] below meth c H locs cells slots (lw_Z below #[Value.ref b] s) (F0 m 188 ls []) := by
  have hbA : ¬ AA n0 b := by unfold AA; rw [hn0]; exact Nat.not_le.mpr hbl
  have hsh := hO.2.2.2.2.2.2.2.2.2.2.2.2.2.2.2.2.2.2.2.2.2.2.2.2.2.2 z hI
  obtain ⟨r, z1, z2, h1, hg, h2, hI2⟩ := hO.2.2.1 z (xs (i + 1)) (xs (i + 2)) (xs (i + 3)) hI
  refine lv_aload_n C.1 C.2.1 dL_law_188 rfl (lv_at hl 1 rfl) ?_
  refine lv_aload_n C.1 C.2.1 dL_law_189 rfl (lv_at hl 0 rfl) ?_
  refine lv_iload_n C.1 C.2.1 dL_law_190 rfl (lv_at hl 3 rfl) ?_
  refine lv_iconst (v := (1 : Int32)) C.1 C.2.1 dL_law_191 (by decide) ?_
  refine lv_iadd C.1 C.2.1 dL_law_192 ?_
  refine r_topi (y := nI (i + 1)) (nI_add i 1).symm ?_
  refine va_sld C.1 C.2.1 hX hbl hbA hw.2 (i := nI (i + 1)) (vp_in_nI (by omega) (by omega)) dL_law_193 ?_
  refine r_topi (y := xs (i + 1)) (by rw [nI_clamp (by omega)]) ?_
  refine lv_aload_n C.1 C.2.1 dL_law_194 rfl (lv_at hl 0 rfl) ?_
  refine lv_iload_n C.1 C.2.1 dL_law_195 rfl (lv_at hl 3 rfl) ?_
  refine lv_iconst (v := (2 : Int32)) C.1 C.2.1 dL_law_196 (by decide) ?_
  refine lv_iadd C.1 C.2.1 dL_law_197 ?_
  refine r_topi (y := nI (i + 2)) (nI_add i 2).symm ?_
  refine va_sld C.1 C.2.1 hX hbl hbA hw.2 (i := nI (i + 2)) (vp_in_nI (by omega) (by omega)) dL_law_198 ?_
  refine r_topi (y := xs (i + 2)) (by rw [nI_clamp (by omega)]) ?_
  refine lv_aload_n C.1 C.2.1 dL_law_199 rfl (lv_at hl 0 rfl) ?_
  refine lv_iload_n C.1 C.2.1 dL_law_200 rfl (lv_at hl 3 rfl) ?_
  refine lv_iconst (v := (3 : Int32)) C.1 C.2.1 dL_law_201 (by decide) ?_
  refine lv_iadd C.1 C.2.1 dL_law_202 ?_
  refine r_topi (y := nI (i + 3)) (nI_add i 3).symm ?_
  refine va_sld C.1 C.2.1 hX hbl hbA hw.2 (i := nI (i + 3)) (vp_in_nI (by omega) (by omega)) dL_law_203 ?_
  refine r_topi (y := xs (i + 3)) (by rw [nI_clamp (by omega)]) ?_
  refine r_afti hw (r_runV (As := [.int (xs (i + 1)), .int (xs (i + 2)), .int (xs (i + 3))]) (rest := []) C hw (ki := 10) hsh.1 (by decide) rfl (kX11_buy l n0 D Y N 0 (xs (i + 1)) (xs (i + 2)) (xs (i + 3)) z h1) (cwV 3 C.2.2.2.2.2.1 gL_law_X11_buy rfl rfl rfl (by decide +kernel) ⟨(Nat.le_of_ble_eq_true rfl), (Nat.le_of_ble_eq_true rfl)⟩) rfl hl.1 rfl (Nat.le_of_ble_eq_true rfl) dL_law_204 ⟨by show _ ≤ 600000; omega, by show _ ≤ 7302250; omega⟩) (fun H locs hw => ?_)
  refine lv_aload_n C.1 C.2.1 dL_law_207 rfl (lv_at hl 2 rfl) ?_
  refine lv_aload_n C.1 C.2.1 dL_law_208 rfl (lv_at hl 0 rfl) ?_
  refine lv_iload_n C.1 C.2.1 dL_law_209 rfl (lv_at hl 3 rfl) ?_
  refine lv_iconst (v := (1 : Int32)) C.1 C.2.1 dL_law_210 (by decide) ?_
  refine lv_iadd C.1 C.2.1 dL_law_211 ?_
  refine r_topi (y := nI (i + 1)) (nI_add i 1).symm ?_
  refine va_sld C.1 C.2.1 hX hbl hbA hw.2 (i := nI (i + 1)) (vp_in_nI (by omega) (by omega)) dL_law_212 ?_
  refine r_topi (y := xs (i + 1)) (by rw [nI_clamp (by omega)]) ?_
  refine lv_aload_n C.1 C.2.1 dL_law_213 rfl (lv_at hl 0 rfl) ?_
  refine lv_iload_n C.1 C.2.1 dL_law_214 rfl (lv_at hl 3 rfl) ?_
  refine lv_iconst (v := (2 : Int32)) C.1 C.2.1 dL_law_215 (by decide) ?_
  refine lv_iadd C.1 C.2.1 dL_law_216 ?_
  refine r_topi (y := nI (i + 2)) (nI_add i 2).symm ?_
  refine va_sld C.1 C.2.1 hX hbl hbA hw.2 (i := nI (i + 2)) (vp_in_nI (by omega) (by omega)) dL_law_217 ?_
  refine r_topi (y := xs (i + 2)) (by rw [nI_clamp (by omega)]) ?_
  refine lv_aload_n C.1 C.2.1 dL_law_218 rfl (lv_at hl 0 rfl) ?_
  refine lv_iload_n C.1 C.2.1 dL_law_219 rfl (lv_at hl 3 rfl) ?_
  refine lv_iconst (v := (3 : Int32)) C.1 C.2.1 dL_law_220 (by decide) ?_
  refine lv_iadd C.1 C.2.1 dL_law_221 ?_
  refine r_topi (y := nI (i + 3)) (nI_add i 3).symm ?_
  refine va_sld C.1 C.2.1 hX hbl hbA hw.2 (i := nI (i + 3)) (vp_in_nI (by omega) (by omega)) dL_law_222 ?_
  refine r_topi (y := xs (i + 3)) (by rw [nI_clamp (by omega)]) ?_
  refine r_afti hw (r_runV (As := [.int (xs (i + 1)), .int (xs (i + 2)), .int (xs (i + 3))]) (rest := [.int r]) C hw (ki := 11) hg (by decide) rfl (kX12_buy l n0 D Y N 17 (xs (i + 1)) (xs (i + 2)) (xs (i + 3)) z1 h2) (cwV 3 C.2.2.2.2.2.1 gL_law_X12_buy rfl rfl rfl (by decide +kernel) ⟨(Nat.le_of_ble_eq_true rfl), (Nat.le_of_ble_eq_true rfl)⟩) rfl hl.1 rfl (Nat.le_of_ble_eq_true rfl) dL_law_223 ⟨by show _ ≤ 600000; omega, by show _ ≤ 7302250; omega⟩) (fun H locs hw => ?_)
  refine lv_icmp_eq (tgt := 920) C.1 C.2.1 dL_law_226 (by decide) (fun _ => ?_) (fun q => absurd rfl q)
  exact K z2 _ _ _ _ _ (by omega) (by omega) hI2 hw hl
set_option maxHeartbeats 4000000 in
set_option maxRecDepth 100000 in
theorem law_3 {n0 : Nat} {D : va_G} {Y : Nat → ClassId} {p : Program} {l : Launch} {e : Env} {s : State} {m : MethodId} {below : List Frame} {meth : Method} {c : Code} {b L : Nat} {xs : Nat → Int32} {N : Nat} {Inv : Hp → Prop} (hL : L ≤ 3072) (C : Cx n0 D Y RL code ret 4 wsL_law meth.name p s m #[Value.ref b] meth c) (hn0 : n0 = s.heap.size) (hX : va_X b L xs s s.heap) (hbl : b < s.heap.size) (hO : Ops N Inv) {n i : Nat} (hi : i + 6 ≤ L) (K : (∀ (z : Hp) (cells slots : Nat) (H : Heap) (locs : List Loc) (ls : Array Slot), cells + 4 * n ≤ 600000 → slots + 26 * n ≤ 7302250 → Inv z → Wd n0 D Y z s H locs → lv_has ls 4 [(0, .ref b), (1, .ref (n0 + 0)), (2, .ref (n0 + 17)), (3, .int (nI i))] → W p l e room_1 s m #[Value.ref b] below meth c H locs cells slots (lw_Z below #[Value.ref b] s) (F0 m 920 ls []))) {z : Hp} {cells slots : Nat} {H : Heap} {locs : List Loc} {ls : Array Slot} (hc : cells + 4 * (n + 1) ≤ 600000) (hs : slots + 26 * (n + 1) ≤ 7302250) (hI : Inv z) (hw : Wd n0 D Y z s H locs) (hl : lv_has ls 4 [(0, .ref b), (1, .ref (n0 + 0)), (2, .ref (n0 + 17)), (3, .int (nI i))]) : W p l e room_1 s m #[Value.ref b] below meth c H locs cells slots (lw_Z below #[Value.ref b] s) (F0 m 231 ls []) := by
  have hbA : ¬ AA n0 b := by unfold AA; rw [hn0]; exact Nat.not_le.mpr hbl
  have hsh := hO.2.2.2.2.2.2.2.2.2.2.2.2.2.2.2.2.2.2.2.2.2.2.2.2.2.2 z hI
  obtain ⟨r, z1, z2, h1, hg, h2, hI2⟩ := hO.2.2.2.1 z (xs (i + 1)) hI
  refine lv_aload_n C.1 C.2.1 dL_law_231 rfl (lv_at hl 1 rfl) ?_
  refine lv_aload_n C.1 C.2.1 dL_law_232 rfl (lv_at hl 0 rfl) ?_
  refine lv_iload_n C.1 C.2.1 dL_law_233 rfl (lv_at hl 3 rfl) ?_
  refine lv_iconst (v := (1 : Int32)) C.1 C.2.1 dL_law_234 (by decide) ?_
  refine lv_iadd C.1 C.2.1 dL_law_235 ?_
  refine r_topi (y := nI (i + 1)) (nI_add i 1).symm ?_
  refine va_sld C.1 C.2.1 hX hbl hbA hw.2 (i := nI (i + 1)) (vp_in_nI (by omega) (by omega)) dL_law_236 ?_
  refine r_topi (y := xs (i + 1)) (by rw [nI_clamp (by omega)]) ?_
  refine r_afti hw (r_runV (As := [.int (xs (i + 1))]) (rest := []) C hw (ki := 10) hsh.1 (by decide) rfl (kX11_grind l n0 D Y N 0 (xs (i + 1)) z h1) (cwV 1 C.2.2.2.2.2.1 gL_law_X11_grind rfl rfl rfl (by decide +kernel) ⟨(Nat.le_of_ble_eq_true rfl), (Nat.le_of_ble_eq_true rfl)⟩) rfl hl.1 rfl (Nat.le_of_ble_eq_true rfl) dL_law_237 ⟨by show _ ≤ 600000; omega, by show _ ≤ 7302250; omega⟩) (fun H locs hw => ?_)
  refine lv_aload_n C.1 C.2.1 dL_law_240 rfl (lv_at hl 2 rfl) ?_
  refine lv_aload_n C.1 C.2.1 dL_law_241 rfl (lv_at hl 0 rfl) ?_
  refine lv_iload_n C.1 C.2.1 dL_law_242 rfl (lv_at hl 3 rfl) ?_
  refine lv_iconst (v := (1 : Int32)) C.1 C.2.1 dL_law_243 (by decide) ?_
  refine lv_iadd C.1 C.2.1 dL_law_244 ?_
  refine r_topi (y := nI (i + 1)) (nI_add i 1).symm ?_
  refine va_sld C.1 C.2.1 hX hbl hbA hw.2 (i := nI (i + 1)) (vp_in_nI (by omega) (by omega)) dL_law_245 ?_
  refine r_topi (y := xs (i + 1)) (by rw [nI_clamp (by omega)]) ?_
  refine r_afti hw (r_runV (As := [.int (xs (i + 1))]) (rest := [.int r]) C hw (ki := 11) hg (by decide) rfl (kX12_grind l n0 D Y N 17 (xs (i + 1)) z1 h2) (cwV 1 C.2.2.2.2.2.1 gL_law_X12_grind rfl rfl rfl (by decide +kernel) ⟨(Nat.le_of_ble_eq_true rfl), (Nat.le_of_ble_eq_true rfl)⟩) rfl hl.1 rfl (Nat.le_of_ble_eq_true rfl) dL_law_246 ⟨by show _ ≤ 600000; omega, by show _ ≤ 7302250; omega⟩) (fun H locs hw => ?_)
  refine lv_icmp_eq (tgt := 920) C.1 C.2.1 dL_law_249 (by decide) (fun _ => ?_) (fun q => absurd rfl q)
  exact K z2 _ _ _ _ _ (by omega) (by omega) hI2 hw hl
set_option maxHeartbeats 4000000 in
set_option maxRecDepth 100000 in
theorem law_4 {n0 : Nat} {D : va_G} {Y : Nat → ClassId} {p : Program} {l : Launch} {e : Env} {s : State} {m : MethodId} {below : List Frame} {meth : Method} {c : Code} {b L : Nat} {xs : Nat → Int32} {N : Nat} {Inv : Hp → Prop} (hL : L ≤ 3072) (C : Cx n0 D Y RL code ret 4 wsL_law meth.name p s m #[Value.ref b] meth c) (hn0 : n0 = s.heap.size) (hX : va_X b L xs s s.heap) (hbl : b < s.heap.size) (hO : Ops N Inv) {n i : Nat} (hi : i + 6 ≤ L) (K : (∀ (z : Hp) (cells slots : Nat) (H : Heap) (locs : List Loc) (ls : Array Slot), cells + 4 * n ≤ 600000 → slots + 26 * n ≤ 7302250 → Inv z → Wd n0 D Y z s H locs → lv_has ls 4 [(0, .ref b), (1, .ref (n0 + 0)), (2, .ref (n0 + 17)), (3, .int (nI i))] → W p l e room_1 s m #[Value.ref b] below meth c H locs cells slots (lw_Z below #[Value.ref b] s) (F0 m 920 ls []))) {z : Hp} {cells slots : Nat} {H : Heap} {locs : List Loc} {ls : Array Slot} (hc : cells + 4 * (n + 1) ≤ 600000) (hs : slots + 26 * (n + 1) ≤ 7302250) (hI : Inv z) (hw : Wd n0 D Y z s H locs) (hl : lv_has ls 4 [(0, .ref b), (1, .ref (n0 + 0)), (2, .ref (n0 + 17)), (3, .int (nI i))]) : W p l e room_1 s m #[Value.ref b] below meth c H locs cells slots (lw_Z below #[Value.ref b] s) (F0 m 254 ls []) := by
  have hbA : ¬ AA n0 b := by unfold AA; rw [hn0]; exact Nat.not_le.mpr hbl
  have hsh := hO.2.2.2.2.2.2.2.2.2.2.2.2.2.2.2.2.2.2.2.2.2.2.2.2.2.2 z hI
  obtain ⟨r, z1, z2, h1, hg, h2, hI2⟩ := hO.2.2.2.2.1 z (xs (i + 1)) hI
  refine lv_aload_n C.1 C.2.1 dL_law_254 rfl (lv_at hl 1 rfl) ?_
  refine lv_aload_n C.1 C.2.1 dL_law_255 rfl (lv_at hl 0 rfl) ?_
  refine lv_iload_n C.1 C.2.1 dL_law_256 rfl (lv_at hl 3 rfl) ?_
  refine lv_iconst (v := (1 : Int32)) C.1 C.2.1 dL_law_257 (by decide) ?_
  refine lv_iadd C.1 C.2.1 dL_law_258 ?_
  refine r_topi (y := nI (i + 1)) (nI_add i 1).symm ?_
  refine va_sld C.1 C.2.1 hX hbl hbA hw.2 (i := nI (i + 1)) (vp_in_nI (by omega) (by omega)) dL_law_259 ?_
  refine r_topi (y := xs (i + 1)) (by rw [nI_clamp (by omega)]) ?_
  refine r_afti hw (r_runV (As := [.int (xs (i + 1))]) (rest := []) C hw (ki := 10) hsh.1 (by decide) rfl (kX11_dish l n0 D Y N 0 (xs (i + 1)) z h1) (cwV 1 C.2.2.2.2.2.1 gL_law_X11_dish rfl rfl rfl (by decide +kernel) ⟨(Nat.le_of_ble_eq_true rfl), (Nat.le_of_ble_eq_true rfl)⟩) rfl hl.1 rfl (Nat.le_of_ble_eq_true rfl) dL_law_260 ⟨by show _ ≤ 600000; omega, by show _ ≤ 7302250; omega⟩) (fun H locs hw => ?_)
  refine lv_aload_n C.1 C.2.1 dL_law_263 rfl (lv_at hl 2 rfl) ?_
  refine lv_aload_n C.1 C.2.1 dL_law_264 rfl (lv_at hl 0 rfl) ?_
  refine lv_iload_n C.1 C.2.1 dL_law_265 rfl (lv_at hl 3 rfl) ?_
  refine lv_iconst (v := (1 : Int32)) C.1 C.2.1 dL_law_266 (by decide) ?_
  refine lv_iadd C.1 C.2.1 dL_law_267 ?_
  refine r_topi (y := nI (i + 1)) (nI_add i 1).symm ?_
  refine va_sld C.1 C.2.1 hX hbl hbA hw.2 (i := nI (i + 1)) (vp_in_nI (by omega) (by omega)) dL_law_268 ?_
  refine r_topi (y := xs (i + 1)) (by rw [nI_clamp (by omega)]) ?_
  refine r_afti hw (r_runV (As := [.int (xs (i + 1))]) (rest := [.int r]) C hw (ki := 11) hg (by decide) rfl (kX12_dish l n0 D Y N 17 (xs (i + 1)) z1 h2) (cwV 1 C.2.2.2.2.2.1 gL_law_X12_dish rfl rfl rfl (by decide +kernel) ⟨(Nat.le_of_ble_eq_true rfl), (Nat.le_of_ble_eq_true rfl)⟩) rfl hl.1 rfl (Nat.le_of_ble_eq_true rfl) dL_law_269 ⟨by show _ ≤ 600000; omega, by show _ ≤ 7302250; omega⟩) (fun H locs hw => ?_)
  refine lv_icmp_eq (tgt := 920) C.1 C.2.1 dL_law_272 (by decide) (fun _ => ?_) (fun q => absurd rfl q)
  exact K z2 _ _ _ _ _ (by omega) (by omega) hI2 hw hl
set_option maxHeartbeats 4000000 in
set_option maxRecDepth 100000 in
theorem law_5 {n0 : Nat} {D : va_G} {Y : Nat → ClassId} {p : Program} {l : Launch} {e : Env} {s : State} {m : MethodId} {below : List Frame} {meth : Method} {c : Code} {b L : Nat} {xs : Nat → Int32} {N : Nat} {Inv : Hp → Prop} (hL : L ≤ 3072) (C : Cx n0 D Y RL code ret 4 wsL_law meth.name p s m #[Value.ref b] meth c) (hn0 : n0 = s.heap.size) (hX : va_X b L xs s s.heap) (hbl : b < s.heap.size) (hO : Ops N Inv) {n i : Nat} (hi : i + 6 ≤ L) (K : (∀ (z : Hp) (cells slots : Nat) (H : Heap) (locs : List Loc) (ls : Array Slot), cells + 4 * n ≤ 600000 → slots + 26 * n ≤ 7302250 → Inv z → Wd n0 D Y z s H locs → lv_has ls 4 [(0, .ref b), (1, .ref (n0 + 0)), (2, .ref (n0 + 17)), (3, .int (nI i))] → W p l e room_1 s m #[Value.ref b] below meth c H locs cells slots (lw_Z below #[Value.ref b] s) (F0 m 920 ls []))) {z : Hp} {cells slots : Nat} {H : Heap} {locs : List Loc} {ls : Array Slot} (hc : cells + 4 * (n + 1) ≤ 600000) (hs : slots + 26 * (n + 1) ≤ 7302250) (hI : Inv z) (hw : Wd n0 D Y z s H locs) (hl : lv_has ls 4 [(0, .ref b), (1, .ref (n0 + 0)), (2, .ref (n0 + 17)), (3, .int (nI i))]) : W p l e room_1 s m #[Value.ref b] below meth c H locs cells slots (lw_Z below #[Value.ref b] s) (F0 m 277 ls []) := by
  have hbA : ¬ AA n0 b := by unfold AA; rw [hn0]; exact Nat.not_le.mpr hbl
  have hsh := hO.2.2.2.2.2.2.2.2.2.2.2.2.2.2.2.2.2.2.2.2.2.2.2.2.2.2 z hI
  obtain ⟨r, h1, h2⟩ := hO.2.2.2.2.2.1 z (xs (i + 1)) hI
  refine lv_aload_n C.1 C.2.1 dL_law_277 rfl (lv_at hl 1 rfl) ?_
  refine lv_aload_n C.1 C.2.1 dL_law_278 rfl (lv_at hl 0 rfl) ?_
  refine lv_iload_n C.1 C.2.1 dL_law_279 rfl (lv_at hl 3 rfl) ?_
  refine lv_iconst (v := (1 : Int32)) C.1 C.2.1 dL_law_280 (by decide) ?_
  refine lv_iadd C.1 C.2.1 dL_law_281 ?_
  refine r_topi (y := nI (i + 1)) (nI_add i 1).symm ?_
  refine va_sld C.1 C.2.1 hX hbl hbA hw.2 (i := nI (i + 1)) (vp_in_nI (by omega) (by omega)) dL_law_282 ?_
  refine r_topi (y := xs (i + 1)) (by rw [nI_clamp (by omega)]) ?_
  refine r_afti hw (r_runV (As := [.int (xs (i + 1))]) (rest := []) C hw (ki := 10) hsh.1 (by decide) rfl (kX11_price l n0 D Y N 0 (xs (i + 1)) z h1) (cwV 1 C.2.2.2.2.2.1 gL_law_X11_price rfl rfl rfl (by decide +kernel) ⟨(Nat.le_of_ble_eq_true rfl), (Nat.le_of_ble_eq_true rfl)⟩) rfl hl.1 rfl (Nat.le_of_ble_eq_true rfl) dL_law_283 ⟨by show _ ≤ 600000; omega, by show _ ≤ 7302250; omega⟩) (fun H locs hw => ?_)
  refine lv_aload_n C.1 C.2.1 dL_law_286 rfl (lv_at hl 2 rfl) ?_
  refine lv_aload_n C.1 C.2.1 dL_law_287 rfl (lv_at hl 0 rfl) ?_
  refine lv_iload_n C.1 C.2.1 dL_law_288 rfl (lv_at hl 3 rfl) ?_
  refine lv_iconst (v := (1 : Int32)) C.1 C.2.1 dL_law_289 (by decide) ?_
  refine lv_iadd C.1 C.2.1 dL_law_290 ?_
  refine r_topi (y := nI (i + 1)) (nI_add i 1).symm ?_
  refine va_sld C.1 C.2.1 hX hbl hbA hw.2 (i := nI (i + 1)) (vp_in_nI (by omega) (by omega)) dL_law_291 ?_
  refine r_topi (y := xs (i + 1)) (by rw [nI_clamp (by omega)]) ?_
  refine r_afti hw (r_runV (As := [.int (xs (i + 1))]) (rest := [.int r]) C hw (ki := 11) hsh.2 (by decide) rfl (kX12_price l n0 D Y N 17 (xs (i + 1)) z h2) (cwV 1 C.2.2.2.2.2.1 gL_law_X12_price rfl rfl rfl (by decide +kernel) ⟨(Nat.le_of_ble_eq_true rfl), (Nat.le_of_ble_eq_true rfl)⟩) rfl hl.1 rfl (Nat.le_of_ble_eq_true rfl) dL_law_292 ⟨by show _ ≤ 600000; omega, by show _ ≤ 7302250; omega⟩) (fun H locs hw => ?_)
  refine lv_icmp_eq (tgt := 920) C.1 C.2.1 dL_law_295 (by decide) (fun _ => ?_) (fun q => absurd rfl q)
  exact K z _ _ _ _ _ (by omega) (by omega) hI hw hl
set_option maxHeartbeats 4000000 in
set_option maxRecDepth 100000 in
theorem law_6 {n0 : Nat} {D : va_G} {Y : Nat → ClassId} {p : Program} {l : Launch} {e : Env} {s : State} {m : MethodId} {below : List Frame} {meth : Method} {c : Code} {b L : Nat} {xs : Nat → Int32} {N : Nat} {Inv : Hp → Prop} (hL : L ≤ 3072) (C : Cx n0 D Y RL code ret 4 wsL_law meth.name p s m #[Value.ref b] meth c) (hn0 : n0 = s.heap.size) (hX : va_X b L xs s s.heap) (hbl : b < s.heap.size) (hO : Ops N Inv) {n i : Nat} (hi : i + 6 ≤ L) (K : (∀ (z : Hp) (cells slots : Nat) (H : Heap) (locs : List Loc) (ls : Array Slot), cells + 4 * n ≤ 600000 → slots + 26 * n ≤ 7302250 → Inv z → Wd n0 D Y z s H locs → lv_has ls 4 [(0, .ref b), (1, .ref (n0 + 0)), (2, .ref (n0 + 17)), (3, .int (nI i))] → W p l e room_1 s m #[Value.ref b] below meth c H locs cells slots (lw_Z below #[Value.ref b] s) (F0 m 920 ls []))) {z : Hp} {cells slots : Nat} {H : Heap} {locs : List Loc} {ls : Array Slot} (hc : cells + 4 * (n + 1) ≤ 600000) (hs : slots + 26 * (n + 1) ≤ 7302250) (hI : Inv z) (hw : Wd n0 D Y z s H locs) (hl : lv_has ls 4 [(0, .ref b), (1, .ref (n0 + 0)), (2, .ref (n0 + 17)), (3, .int (nI i))]) : W p l e room_1 s m #[Value.ref b] below meth c H locs cells slots (lw_Z below #[Value.ref b] s) (F0 m 300 ls []) := by
  have hbA : ¬ AA n0 b := by unfold AA; rw [hn0]; exact Nat.not_le.mpr hbl
  have hsh := hO.2.2.2.2.2.2.2.2.2.2.2.2.2.2.2.2.2.2.2.2.2.2.2.2.2.2 z hI
  obtain ⟨r, z1, z2, h1, hg, h2, hI2⟩ := hO.2.2.2.2.2.2.1 z (xs (i + 1)) (xs (i + 2)) (xs (i + 3)) (xs (i + 4)) (xs (i + 5)) hI
  refine lv_aload_n C.1 C.2.1 dL_law_300 rfl (lv_at hl 1 rfl) ?_
  refine lv_aload_n C.1 C.2.1 dL_law_301 rfl (lv_at hl 0 rfl) ?_
  refine lv_iload_n C.1 C.2.1 dL_law_302 rfl (lv_at hl 3 rfl) ?_
  refine lv_iconst (v := (1 : Int32)) C.1 C.2.1 dL_law_303 (by decide) ?_
  refine lv_iadd C.1 C.2.1 dL_law_304 ?_
  refine r_topi (y := nI (i + 1)) (nI_add i 1).symm ?_
  refine va_sld C.1 C.2.1 hX hbl hbA hw.2 (i := nI (i + 1)) (vp_in_nI (by omega) (by omega)) dL_law_305 ?_
  refine r_topi (y := xs (i + 1)) (by rw [nI_clamp (by omega)]) ?_
  refine lv_aload_n C.1 C.2.1 dL_law_306 rfl (lv_at hl 0 rfl) ?_
  refine lv_iload_n C.1 C.2.1 dL_law_307 rfl (lv_at hl 3 rfl) ?_
  refine lv_iconst (v := (2 : Int32)) C.1 C.2.1 dL_law_308 (by decide) ?_
  refine lv_iadd C.1 C.2.1 dL_law_309 ?_
  refine r_topi (y := nI (i + 2)) (nI_add i 2).symm ?_
  refine va_sld C.1 C.2.1 hX hbl hbA hw.2 (i := nI (i + 2)) (vp_in_nI (by omega) (by omega)) dL_law_310 ?_
  refine r_topi (y := xs (i + 2)) (by rw [nI_clamp (by omega)]) ?_
  refine lv_aload_n C.1 C.2.1 dL_law_311 rfl (lv_at hl 0 rfl) ?_
  refine lv_iload_n C.1 C.2.1 dL_law_312 rfl (lv_at hl 3 rfl) ?_
  refine lv_iconst (v := (3 : Int32)) C.1 C.2.1 dL_law_313 (by decide) ?_
  refine lv_iadd C.1 C.2.1 dL_law_314 ?_
  refine r_topi (y := nI (i + 3)) (nI_add i 3).symm ?_
  refine va_sld C.1 C.2.1 hX hbl hbA hw.2 (i := nI (i + 3)) (vp_in_nI (by omega) (by omega)) dL_law_315 ?_
  refine r_topi (y := xs (i + 3)) (by rw [nI_clamp (by omega)]) ?_
  refine lv_aload_n C.1 C.2.1 dL_law_316 rfl (lv_at hl 0 rfl) ?_
  refine lv_iload_n C.1 C.2.1 dL_law_317 rfl (lv_at hl 3 rfl) ?_
  refine lv_iconst (v := (4 : Int32)) C.1 C.2.1 dL_law_318 (by decide) ?_
  refine lv_iadd C.1 C.2.1 dL_law_319 ?_
  refine r_topi (y := nI (i + 4)) (nI_add i 4).symm ?_
  refine va_sld C.1 C.2.1 hX hbl hbA hw.2 (i := nI (i + 4)) (vp_in_nI (by omega) (by omega)) dL_law_320 ?_
  refine r_topi (y := xs (i + 4)) (by rw [nI_clamp (by omega)]) ?_
  refine lv_aload_n C.1 C.2.1 dL_law_321 rfl (lv_at hl 0 rfl) ?_
  refine lv_iload_n C.1 C.2.1 dL_law_322 rfl (lv_at hl 3 rfl) ?_
  refine lv_iconst (v := (5 : Int32)) C.1 C.2.1 dL_law_323 (by decide) ?_
  refine lv_iadd C.1 C.2.1 dL_law_324 ?_
  refine r_topi (y := nI (i + 5)) (nI_add i 5).symm ?_
  refine va_sld C.1 C.2.1 hX hbl hbA hw.2 (i := nI (i + 5)) (vp_in_nI (by omega) (by omega)) dL_law_325 ?_
  refine r_topi (y := xs (i + 5)) (by rw [nI_clamp (by omega)]) ?_
  refine r_afti hw (r_runV (As := [.int (xs (i + 1)), .int (xs (i + 2)), .int (xs (i + 3)), .int (xs (i + 4)), .int (xs (i + 5))]) (rest := []) C hw (ki := 10) hsh.1 (by decide) rfl (kX11_text l n0 D Y N 0 (xs (i + 1)) (xs (i + 2)) (xs (i + 3)) (xs (i + 4)) (xs (i + 5)) z h1) (cwV 5 C.2.2.2.2.2.1 gL_law_X11_text rfl rfl rfl (by decide +kernel) ⟨(Nat.le_of_ble_eq_true rfl), (Nat.le_of_ble_eq_true rfl)⟩) rfl hl.1 rfl (Nat.le_of_ble_eq_true rfl) dL_law_326 ⟨by show _ ≤ 600000; omega, by show _ ≤ 7302250; omega⟩) (fun H locs hw => ?_)
  refine lv_aload_n C.1 C.2.1 dL_law_329 rfl (lv_at hl 2 rfl) ?_
  refine lv_aload_n C.1 C.2.1 dL_law_330 rfl (lv_at hl 0 rfl) ?_
  refine lv_iload_n C.1 C.2.1 dL_law_331 rfl (lv_at hl 3 rfl) ?_
  refine lv_iconst (v := (1 : Int32)) C.1 C.2.1 dL_law_332 (by decide) ?_
  refine lv_iadd C.1 C.2.1 dL_law_333 ?_
  refine r_topi (y := nI (i + 1)) (nI_add i 1).symm ?_
  refine va_sld C.1 C.2.1 hX hbl hbA hw.2 (i := nI (i + 1)) (vp_in_nI (by omega) (by omega)) dL_law_334 ?_
  refine r_topi (y := xs (i + 1)) (by rw [nI_clamp (by omega)]) ?_
  refine lv_aload_n C.1 C.2.1 dL_law_335 rfl (lv_at hl 0 rfl) ?_
  refine lv_iload_n C.1 C.2.1 dL_law_336 rfl (lv_at hl 3 rfl) ?_
  refine lv_iconst (v := (2 : Int32)) C.1 C.2.1 dL_law_337 (by decide) ?_
  refine lv_iadd C.1 C.2.1 dL_law_338 ?_
  refine r_topi (y := nI (i + 2)) (nI_add i 2).symm ?_
  refine va_sld C.1 C.2.1 hX hbl hbA hw.2 (i := nI (i + 2)) (vp_in_nI (by omega) (by omega)) dL_law_339 ?_
  refine r_topi (y := xs (i + 2)) (by rw [nI_clamp (by omega)]) ?_
  refine lv_aload_n C.1 C.2.1 dL_law_340 rfl (lv_at hl 0 rfl) ?_
  refine lv_iload_n C.1 C.2.1 dL_law_341 rfl (lv_at hl 3 rfl) ?_
  refine lv_iconst (v := (3 : Int32)) C.1 C.2.1 dL_law_342 (by decide) ?_
  refine lv_iadd C.1 C.2.1 dL_law_343 ?_
  refine r_topi (y := nI (i + 3)) (nI_add i 3).symm ?_
  refine va_sld C.1 C.2.1 hX hbl hbA hw.2 (i := nI (i + 3)) (vp_in_nI (by omega) (by omega)) dL_law_344 ?_
  refine r_topi (y := xs (i + 3)) (by rw [nI_clamp (by omega)]) ?_
  refine lv_aload_n C.1 C.2.1 dL_law_345 rfl (lv_at hl 0 rfl) ?_
  refine lv_iload_n C.1 C.2.1 dL_law_346 rfl (lv_at hl 3 rfl) ?_
  refine lv_iconst (v := (4 : Int32)) C.1 C.2.1 dL_law_347 (by decide) ?_
  refine lv_iadd C.1 C.2.1 dL_law_348 ?_
  refine r_topi (y := nI (i + 4)) (nI_add i 4).symm ?_
  refine va_sld C.1 C.2.1 hX hbl hbA hw.2 (i := nI (i + 4)) (vp_in_nI (by omega) (by omega)) dL_law_349 ?_
  refine r_topi (y := xs (i + 4)) (by rw [nI_clamp (by omega)]) ?_
  refine lv_aload_n C.1 C.2.1 dL_law_350 rfl (lv_at hl 0 rfl) ?_
  refine lv_iload_n C.1 C.2.1 dL_law_351 rfl (lv_at hl 3 rfl) ?_
  refine lv_iconst (v := (5 : Int32)) C.1 C.2.1 dL_law_352 (by decide) ?_
  refine lv_iadd C.1 C.2.1 dL_law_353 ?_
  refine r_topi (y := nI (i + 5)) (nI_add i 5).symm ?_
  refine va_sld C.1 C.2.1 hX hbl hbA hw.2 (i := nI (i + 5)) (vp_in_nI (by omega) (by omega)) dL_law_354 ?_
  refine r_topi (y := xs (i + 5)) (by rw [nI_clamp (by omega)]) ?_
  refine r_afti hw (r_runV (As := [.int (xs (i + 1)), .int (xs (i + 2)), .int (xs (i + 3)), .int (xs (i + 4)), .int (xs (i + 5))]) (rest := [.int r]) C hw (ki := 11) hg (by decide) rfl (kX12_text l n0 D Y N 17 (xs (i + 1)) (xs (i + 2)) (xs (i + 3)) (xs (i + 4)) (xs (i + 5)) z1 h2) (cwV 5 C.2.2.2.2.2.1 gL_law_X12_text rfl rfl rfl (by decide +kernel) ⟨(Nat.le_of_ble_eq_true rfl), (Nat.le_of_ble_eq_true rfl)⟩) rfl hl.1 rfl (Nat.le_of_ble_eq_true rfl) dL_law_355 ⟨by show _ ≤ 600000; omega, by show _ ≤ 7302250; omega⟩) (fun H locs hw => ?_)
  refine lv_icmp_eq (tgt := 920) C.1 C.2.1 dL_law_358 (by decide) (fun _ => ?_) (fun q => absurd rfl q)
  exact K z2 _ _ _ _ _ (by omega) (by omega) hI2 hw hl
set_option maxHeartbeats 4000000 in
set_option maxRecDepth 100000 in
theorem law_7 {n0 : Nat} {D : va_G} {Y : Nat → ClassId} {p : Program} {l : Launch} {e : Env} {s : State} {m : MethodId} {below : List Frame} {meth : Method} {c : Code} {b L : Nat} {xs : Nat → Int32} {N : Nat} {Inv : Hp → Prop} (hL : L ≤ 3072) (C : Cx n0 D Y RL code ret 4 wsL_law meth.name p s m #[Value.ref b] meth c) (hn0 : n0 = s.heap.size) (hX : va_X b L xs s s.heap) (hbl : b < s.heap.size) (hO : Ops N Inv) {n i : Nat} (hi : i + 6 ≤ L) (K : (∀ (z : Hp) (cells slots : Nat) (H : Heap) (locs : List Loc) (ls : Array Slot), cells + 4 * n ≤ 600000 → slots + 26 * n ≤ 7302250 → Inv z → Wd n0 D Y z s H locs → lv_has ls 4 [(0, .ref b), (1, .ref (n0 + 0)), (2, .ref (n0 + 17)), (3, .int (nI i))] → W p l e room_1 s m #[Value.ref b] below meth c H locs cells slots (lw_Z below #[Value.ref b] s) (F0 m 920 ls []))) {z : Hp} {cells slots : Nat} {H : Heap} {locs : List Loc} {ls : Array Slot} (hc : cells + 4 * (n + 1) ≤ 600000) (hs : slots + 26 * (n + 1) ≤ 7302250) (hI : Inv z) (hw : Wd n0 D Y z s H locs) (hl : lv_has ls 4 [(0, .ref b), (1, .ref (n0 + 0)), (2, .ref (n0 + 17)), (3, .int (nI i))]) : W p l e room_1 s m #[Value.ref b] below meth c H locs cells slots (lw_Z below #[Value.ref b] s) (F0 m 363 ls []) := by
  have hbA : ¬ AA n0 b := by unfold AA; rw [hn0]; exact Nat.not_le.mpr hbl
  have hsh := hO.2.2.2.2.2.2.2.2.2.2.2.2.2.2.2.2.2.2.2.2.2.2.2.2.2.2 z hI
  obtain ⟨r, z1, z2, h1, hg, h2, hI2⟩ := hO.2.2.2.2.2.2.2.1 z (xs (i + 1)) (xs (i + 2)) (xs (i + 3)) hI
  refine lv_aload_n C.1 C.2.1 dL_law_363 rfl (lv_at hl 1 rfl) ?_
  refine lv_aload_n C.1 C.2.1 dL_law_364 rfl (lv_at hl 0 rfl) ?_
  refine lv_iload_n C.1 C.2.1 dL_law_365 rfl (lv_at hl 3 rfl) ?_
  refine lv_iconst (v := (1 : Int32)) C.1 C.2.1 dL_law_366 (by decide) ?_
  refine lv_iadd C.1 C.2.1 dL_law_367 ?_
  refine r_topi (y := nI (i + 1)) (nI_add i 1).symm ?_
  refine va_sld C.1 C.2.1 hX hbl hbA hw.2 (i := nI (i + 1)) (vp_in_nI (by omega) (by omega)) dL_law_368 ?_
  refine r_topi (y := xs (i + 1)) (by rw [nI_clamp (by omega)]) ?_
  refine lv_aload_n C.1 C.2.1 dL_law_369 rfl (lv_at hl 0 rfl) ?_
  refine lv_iload_n C.1 C.2.1 dL_law_370 rfl (lv_at hl 3 rfl) ?_
  refine lv_iconst (v := (2 : Int32)) C.1 C.2.1 dL_law_371 (by decide) ?_
  refine lv_iadd C.1 C.2.1 dL_law_372 ?_
  refine r_topi (y := nI (i + 2)) (nI_add i 2).symm ?_
  refine va_sld C.1 C.2.1 hX hbl hbA hw.2 (i := nI (i + 2)) (vp_in_nI (by omega) (by omega)) dL_law_373 ?_
  refine r_topi (y := xs (i + 2)) (by rw [nI_clamp (by omega)]) ?_
  refine lv_aload_n C.1 C.2.1 dL_law_374 rfl (lv_at hl 0 rfl) ?_
  refine lv_iload_n C.1 C.2.1 dL_law_375 rfl (lv_at hl 3 rfl) ?_
  refine lv_iconst (v := (3 : Int32)) C.1 C.2.1 dL_law_376 (by decide) ?_
  refine lv_iadd C.1 C.2.1 dL_law_377 ?_
  refine r_topi (y := nI (i + 3)) (nI_add i 3).symm ?_
  refine va_sld C.1 C.2.1 hX hbl hbA hw.2 (i := nI (i + 3)) (vp_in_nI (by omega) (by omega)) dL_law_378 ?_
  refine r_topi (y := xs (i + 3)) (by rw [nI_clamp (by omega)]) ?_
  refine r_afti hw (r_runV (As := [.int (xs (i + 1)), .int (xs (i + 2)), .int (xs (i + 3))]) (rest := []) C hw (ki := 10) hsh.1 (by decide) rfl (kX11_step l n0 D Y N 0 (xs (i + 1)) (xs (i + 2)) (xs (i + 3)) z h1) (cwV 3 C.2.2.2.2.2.1 gL_law_X11_step rfl rfl rfl (by decide +kernel) ⟨(Nat.le_of_ble_eq_true rfl), (Nat.le_of_ble_eq_true rfl)⟩) rfl hl.1 rfl (Nat.le_of_ble_eq_true rfl) dL_law_379 ⟨by show _ ≤ 600000; omega, by show _ ≤ 7302250; omega⟩) (fun H locs hw => ?_)
  refine lv_aload_n C.1 C.2.1 dL_law_382 rfl (lv_at hl 2 rfl) ?_
  refine lv_aload_n C.1 C.2.1 dL_law_383 rfl (lv_at hl 0 rfl) ?_
  refine lv_iload_n C.1 C.2.1 dL_law_384 rfl (lv_at hl 3 rfl) ?_
  refine lv_iconst (v := (1 : Int32)) C.1 C.2.1 dL_law_385 (by decide) ?_
  refine lv_iadd C.1 C.2.1 dL_law_386 ?_
  refine r_topi (y := nI (i + 1)) (nI_add i 1).symm ?_
  refine va_sld C.1 C.2.1 hX hbl hbA hw.2 (i := nI (i + 1)) (vp_in_nI (by omega) (by omega)) dL_law_387 ?_
  refine r_topi (y := xs (i + 1)) (by rw [nI_clamp (by omega)]) ?_
  refine lv_aload_n C.1 C.2.1 dL_law_388 rfl (lv_at hl 0 rfl) ?_
  refine lv_iload_n C.1 C.2.1 dL_law_389 rfl (lv_at hl 3 rfl) ?_
  refine lv_iconst (v := (2 : Int32)) C.1 C.2.1 dL_law_390 (by decide) ?_
  refine lv_iadd C.1 C.2.1 dL_law_391 ?_
  refine r_topi (y := nI (i + 2)) (nI_add i 2).symm ?_
  refine va_sld C.1 C.2.1 hX hbl hbA hw.2 (i := nI (i + 2)) (vp_in_nI (by omega) (by omega)) dL_law_392 ?_
  refine r_topi (y := xs (i + 2)) (by rw [nI_clamp (by omega)]) ?_
  refine lv_aload_n C.1 C.2.1 dL_law_393 rfl (lv_at hl 0 rfl) ?_
  refine lv_iload_n C.1 C.2.1 dL_law_394 rfl (lv_at hl 3 rfl) ?_
  refine lv_iconst (v := (3 : Int32)) C.1 C.2.1 dL_law_395 (by decide) ?_
  refine lv_iadd C.1 C.2.1 dL_law_396 ?_
  refine r_topi (y := nI (i + 3)) (nI_add i 3).symm ?_
  refine va_sld C.1 C.2.1 hX hbl hbA hw.2 (i := nI (i + 3)) (vp_in_nI (by omega) (by omega)) dL_law_397 ?_
  refine r_topi (y := xs (i + 3)) (by rw [nI_clamp (by omega)]) ?_
  refine r_afti hw (r_runV (As := [.int (xs (i + 1)), .int (xs (i + 2)), .int (xs (i + 3))]) (rest := [.int r]) C hw (ki := 11) hg (by decide) rfl (kX12_step l n0 D Y N 17 (xs (i + 1)) (xs (i + 2)) (xs (i + 3)) z1 h2) (cwV 3 C.2.2.2.2.2.1 gL_law_X12_step rfl rfl rfl (by decide +kernel) ⟨(Nat.le_of_ble_eq_true rfl), (Nat.le_of_ble_eq_true rfl)⟩) rfl hl.1 rfl (Nat.le_of_ble_eq_true rfl) dL_law_398 ⟨by show _ ≤ 600000; omega, by show _ ≤ 7302250; omega⟩) (fun H locs hw => ?_)
  refine lv_icmp_eq (tgt := 920) C.1 C.2.1 dL_law_401 (by decide) (fun _ => ?_) (fun q => absurd rfl q)
  exact K z2 _ _ _ _ _ (by omega) (by omega) hI2 hw hl
set_option maxHeartbeats 4000000 in
set_option maxRecDepth 100000 in
theorem law_8 {n0 : Nat} {D : va_G} {Y : Nat → ClassId} {p : Program} {l : Launch} {e : Env} {s : State} {m : MethodId} {below : List Frame} {meth : Method} {c : Code} {b L : Nat} {xs : Nat → Int32} {N : Nat} {Inv : Hp → Prop} (hL : L ≤ 3072) (C : Cx n0 D Y RL code ret 4 wsL_law meth.name p s m #[Value.ref b] meth c) (hn0 : n0 = s.heap.size) (hX : va_X b L xs s s.heap) (hbl : b < s.heap.size) (hO : Ops N Inv) {n i : Nat} (hi : i + 6 ≤ L) (K : (∀ (z : Hp) (cells slots : Nat) (H : Heap) (locs : List Loc) (ls : Array Slot), cells + 4 * n ≤ 600000 → slots + 26 * n ≤ 7302250 → Inv z → Wd n0 D Y z s H locs → lv_has ls 4 [(0, .ref b), (1, .ref (n0 + 0)), (2, .ref (n0 + 17)), (3, .int (nI i))] → W p l e room_1 s m #[Value.ref b] below meth c H locs cells slots (lw_Z below #[Value.ref b] s) (F0 m 920 ls []))) {z : Hp} {cells slots : Nat} {H : Heap} {locs : List Loc} {ls : Array Slot} (hc : cells + 4 * (n + 1) ≤ 600000) (hs : slots + 26 * (n + 1) ≤ 7302250) (hI : Inv z) (hw : Wd n0 D Y z s H locs) (hl : lv_has ls 4 [(0, .ref b), (1, .ref (n0 + 0)), (2, .ref (n0 + 17)), (3, .int (nI i))]) : W p l e room_1 s m #[Value.ref b] below meth c H locs cells slots (lw_Z below #[Value.ref b] s) (F0 m 406 ls []) := by
  have hbA : ¬ AA n0 b := by unfold AA; rw [hn0]; exact Nat.not_le.mpr hbl
  have hsh := hO.2.2.2.2.2.2.2.2.2.2.2.2.2.2.2.2.2.2.2.2.2.2.2.2.2.2 z hI
  obtain ⟨r, h1, h2⟩ := hO.2.2.2.2.2.2.2.2.1 z (xs (i + 1)) hI
  refine lv_aload_n C.1 C.2.1 dL_law_406 rfl (lv_at hl 1 rfl) ?_
  refine lv_aload_n C.1 C.2.1 dL_law_407 rfl (lv_at hl 0 rfl) ?_
  refine lv_iload_n C.1 C.2.1 dL_law_408 rfl (lv_at hl 3 rfl) ?_
  refine lv_iconst (v := (1 : Int32)) C.1 C.2.1 dL_law_409 (by decide) ?_
  refine lv_iadd C.1 C.2.1 dL_law_410 ?_
  refine r_topi (y := nI (i + 1)) (nI_add i 1).symm ?_
  refine va_sld C.1 C.2.1 hX hbl hbA hw.2 (i := nI (i + 1)) (vp_in_nI (by omega) (by omega)) dL_law_411 ?_
  refine r_topi (y := xs (i + 1)) (by rw [nI_clamp (by omega)]) ?_
  refine r_afti hw (r_runV (As := [.int (xs (i + 1))]) (rest := []) C hw (ki := 10) hsh.1 (by decide) rfl (kX11_inForce l n0 D Y N 0 (xs (i + 1)) z h1) (cwV 1 C.2.2.2.2.2.1 gL_law_X11_inForce rfl rfl rfl (by decide +kernel) ⟨(Nat.le_of_ble_eq_true rfl), (Nat.le_of_ble_eq_true rfl)⟩) rfl hl.1 rfl (Nat.le_of_ble_eq_true rfl) dL_law_412 ⟨by show _ ≤ 600000; omega, by show _ ≤ 7302250; omega⟩) (fun H locs hw => ?_)
  refine lv_aload_n C.1 C.2.1 dL_law_415 rfl (lv_at hl 2 rfl) ?_
  refine lv_aload_n C.1 C.2.1 dL_law_416 rfl (lv_at hl 0 rfl) ?_
  refine lv_iload_n C.1 C.2.1 dL_law_417 rfl (lv_at hl 3 rfl) ?_
  refine lv_iconst (v := (1 : Int32)) C.1 C.2.1 dL_law_418 (by decide) ?_
  refine lv_iadd C.1 C.2.1 dL_law_419 ?_
  refine r_topi (y := nI (i + 1)) (nI_add i 1).symm ?_
  refine va_sld C.1 C.2.1 hX hbl hbA hw.2 (i := nI (i + 1)) (vp_in_nI (by omega) (by omega)) dL_law_420 ?_
  refine r_topi (y := xs (i + 1)) (by rw [nI_clamp (by omega)]) ?_
  refine r_afti hw (r_runV (As := [.int (xs (i + 1))]) (rest := [.int r]) C hw (ki := 11) hsh.2 (by decide) rfl (kX12_inForce l n0 D Y N 17 (xs (i + 1)) z h2) (cwV 1 C.2.2.2.2.2.1 gL_law_X12_inForce rfl rfl rfl (by decide +kernel) ⟨(Nat.le_of_ble_eq_true rfl), (Nat.le_of_ble_eq_true rfl)⟩) rfl hl.1 rfl (Nat.le_of_ble_eq_true rfl) dL_law_421 ⟨by show _ ≤ 600000; omega, by show _ ≤ 7302250; omega⟩) (fun H locs hw => ?_)
  refine lv_icmp_eq (tgt := 920) C.1 C.2.1 dL_law_424 (by decide) (fun _ => ?_) (fun q => absurd rfl q)
  exact K z _ _ _ _ _ (by omega) (by omega) hI hw hl
set_option maxHeartbeats 4000000 in
set_option maxRecDepth 100000 in
theorem law_9 {n0 : Nat} {D : va_G} {Y : Nat → ClassId} {p : Program} {l : Launch} {e : Env} {s : State} {m : MethodId} {below : List Frame} {meth : Method} {c : Code} {b L : Nat} {xs : Nat → Int32} {N : Nat} {Inv : Hp → Prop} (hL : L ≤ 3072) (C : Cx n0 D Y RL code ret 4 wsL_law meth.name p s m #[Value.ref b] meth c) (hn0 : n0 = s.heap.size) (hX : va_X b L xs s s.heap) (hbl : b < s.heap.size) (hO : Ops N Inv) {n i : Nat} (hi : i + 6 ≤ L) (K : (∀ (z : Hp) (cells slots : Nat) (H : Heap) (locs : List Loc) (ls : Array Slot), cells + 4 * n ≤ 600000 → slots + 26 * n ≤ 7302250 → Inv z → Wd n0 D Y z s H locs → lv_has ls 4 [(0, .ref b), (1, .ref (n0 + 0)), (2, .ref (n0 + 17)), (3, .int (nI i))] → W p l e room_1 s m #[Value.ref b] below meth c H locs cells slots (lw_Z below #[Value.ref b] s) (F0 m 920 ls []))) {z : Hp} {cells slots : Nat} {H : Heap} {locs : List Loc} {ls : Array Slot} (hc : cells + 4 * (n + 1) ≤ 600000) (hs : slots + 26 * (n + 1) ≤ 7302250) (hI : Inv z) (hw : Wd n0 D Y z s H locs) (hl : lv_has ls 4 [(0, .ref b), (1, .ref (n0 + 0)), (2, .ref (n0 + 17)), (3, .int (nI i))]) : W p l e room_1 s m #[Value.ref b] below meth c H locs cells slots (lw_Z below #[Value.ref b] s) (F0 m 429 ls []) := by
  have hbA : ¬ AA n0 b := by unfold AA; rw [hn0]; exact Nat.not_le.mpr hbl
  have hsh := hO.2.2.2.2.2.2.2.2.2.2.2.2.2.2.2.2.2.2.2.2.2.2.2.2.2.2 z hI
  obtain ⟨r, h1, h2⟩ := hO.2.2.2.2.2.2.2.2.2.1 z (xs (i + 1)) (xs (i + 2)) hI
  refine lv_aload_n C.1 C.2.1 dL_law_429 rfl (lv_at hl 1 rfl) ?_
  refine lv_aload_n C.1 C.2.1 dL_law_430 rfl (lv_at hl 0 rfl) ?_
  refine lv_iload_n C.1 C.2.1 dL_law_431 rfl (lv_at hl 3 rfl) ?_
  refine lv_iconst (v := (1 : Int32)) C.1 C.2.1 dL_law_432 (by decide) ?_
  refine lv_iadd C.1 C.2.1 dL_law_433 ?_
  refine r_topi (y := nI (i + 1)) (nI_add i 1).symm ?_
  refine va_sld C.1 C.2.1 hX hbl hbA hw.2 (i := nI (i + 1)) (vp_in_nI (by omega) (by omega)) dL_law_434 ?_
  refine r_topi (y := xs (i + 1)) (by rw [nI_clamp (by omega)]) ?_
  refine lv_aload_n C.1 C.2.1 dL_law_435 rfl (lv_at hl 0 rfl) ?_
  refine lv_iload_n C.1 C.2.1 dL_law_436 rfl (lv_at hl 3 rfl) ?_
  refine lv_iconst (v := (2 : Int32)) C.1 C.2.1 dL_law_437 (by decide) ?_
  refine lv_iadd C.1 C.2.1 dL_law_438 ?_
  refine r_topi (y := nI (i + 2)) (nI_add i 2).symm ?_
  refine va_sld C.1 C.2.1 hX hbl hbA hw.2 (i := nI (i + 2)) (vp_in_nI (by omega) (by omega)) dL_law_439 ?_
  refine r_topi (y := xs (i + 2)) (by rw [nI_clamp (by omega)]) ?_
  refine r_afti hw (r_runV (As := [.int (xs (i + 1)), .int (xs (i + 2))]) (rest := []) C hw (ki := 10) hsh.1 (by decide) rfl (kX11_due l n0 D Y N 0 (xs (i + 1)) (xs (i + 2)) z h1) (cwV 2 C.2.2.2.2.2.1 gL_law_X11_due rfl rfl rfl (by decide +kernel) ⟨(Nat.le_of_ble_eq_true rfl), (Nat.le_of_ble_eq_true rfl)⟩) rfl hl.1 rfl (Nat.le_of_ble_eq_true rfl) dL_law_440 ⟨by show _ ≤ 600000; omega, by show _ ≤ 7302250; omega⟩) (fun H locs hw => ?_)
  refine lv_aload_n C.1 C.2.1 dL_law_443 rfl (lv_at hl 2 rfl) ?_
  refine lv_aload_n C.1 C.2.1 dL_law_444 rfl (lv_at hl 0 rfl) ?_
  refine lv_iload_n C.1 C.2.1 dL_law_445 rfl (lv_at hl 3 rfl) ?_
  refine lv_iconst (v := (1 : Int32)) C.1 C.2.1 dL_law_446 (by decide) ?_
  refine lv_iadd C.1 C.2.1 dL_law_447 ?_
  refine r_topi (y := nI (i + 1)) (nI_add i 1).symm ?_
  refine va_sld C.1 C.2.1 hX hbl hbA hw.2 (i := nI (i + 1)) (vp_in_nI (by omega) (by omega)) dL_law_448 ?_
  refine r_topi (y := xs (i + 1)) (by rw [nI_clamp (by omega)]) ?_
  refine lv_aload_n C.1 C.2.1 dL_law_449 rfl (lv_at hl 0 rfl) ?_
  refine lv_iload_n C.1 C.2.1 dL_law_450 rfl (lv_at hl 3 rfl) ?_
  refine lv_iconst (v := (2 : Int32)) C.1 C.2.1 dL_law_451 (by decide) ?_
  refine lv_iadd C.1 C.2.1 dL_law_452 ?_
  refine r_topi (y := nI (i + 2)) (nI_add i 2).symm ?_
  refine va_sld C.1 C.2.1 hX hbl hbA hw.2 (i := nI (i + 2)) (vp_in_nI (by omega) (by omega)) dL_law_453 ?_
  refine r_topi (y := xs (i + 2)) (by rw [nI_clamp (by omega)]) ?_
  refine r_afti hw (r_runV (As := [.int (xs (i + 1)), .int (xs (i + 2))]) (rest := [.int r]) C hw (ki := 11) hsh.2 (by decide) rfl (kX12_due l n0 D Y N 17 (xs (i + 1)) (xs (i + 2)) z h2) (cwV 2 C.2.2.2.2.2.1 gL_law_X12_due rfl rfl rfl (by decide +kernel) ⟨(Nat.le_of_ble_eq_true rfl), (Nat.le_of_ble_eq_true rfl)⟩) rfl hl.1 rfl (Nat.le_of_ble_eq_true rfl) dL_law_454 ⟨by show _ ≤ 600000; omega, by show _ ≤ 7302250; omega⟩) (fun H locs hw => ?_)
  refine lv_icmp_eq (tgt := 920) C.1 C.2.1 dL_law_457 (by decide) (fun _ => ?_) (fun q => absurd rfl q)
  exact K z _ _ _ _ _ (by omega) (by omega) hI hw hl
set_option maxHeartbeats 4000000 in
set_option maxRecDepth 100000 in
theorem law_10 {n0 : Nat} {D : va_G} {Y : Nat → ClassId} {p : Program} {l : Launch} {e : Env} {s : State} {m : MethodId} {below : List Frame} {meth : Method} {c : Code} {b L : Nat} {xs : Nat → Int32} {N : Nat} {Inv : Hp → Prop} (hL : L ≤ 3072) (C : Cx n0 D Y RL code ret 4 wsL_law meth.name p s m #[Value.ref b] meth c) (hn0 : n0 = s.heap.size) (hX : va_X b L xs s s.heap) (hbl : b < s.heap.size) (hO : Ops N Inv) {n i : Nat} (hi : i + 6 ≤ L) (K : (∀ (z : Hp) (cells slots : Nat) (H : Heap) (locs : List Loc) (ls : Array Slot), cells + 4 * n ≤ 600000 → slots + 26 * n ≤ 7302250 → Inv z → Wd n0 D Y z s H locs → lv_has ls 4 [(0, .ref b), (1, .ref (n0 + 0)), (2, .ref (n0 + 17)), (3, .int (nI i))] → W p l e room_1 s m #[Value.ref b] below meth c H locs cells slots (lw_Z below #[Value.ref b] s) (F0 m 920 ls []))) {z : Hp} {cells slots : Nat} {H : Heap} {locs : List Loc} {ls : Array Slot} (hc : cells + 4 * (n + 1) ≤ 600000) (hs : slots + 26 * (n + 1) ≤ 7302250) (hI : Inv z) (hw : Wd n0 D Y z s H locs) (hl : lv_has ls 4 [(0, .ref b), (1, .ref (n0 + 0)), (2, .ref (n0 + 17)), (3, .int (nI i))]) : W p l e room_1 s m #[Value.ref b] below meth c H locs cells slots (lw_Z below #[Value.ref b] s) (F0 m 462 ls []) := by
  have hbA : ¬ AA n0 b := by unfold AA; rw [hn0]; exact Nat.not_le.mpr hbl
  have hsh := hO.2.2.2.2.2.2.2.2.2.2.2.2.2.2.2.2.2.2.2.2.2.2.2.2.2.2 z hI
  obtain ⟨r, z1, z2, h1, hg, h2, hI2⟩ := hO.2.2.2.2.2.2.2.2.2.2.1 z (xs (i + 1)) (xs (i + 2)) (xs (i + 3)) (xs (i + 4)) hI
  refine lv_aload_n C.1 C.2.1 dL_law_462 rfl (lv_at hl 1 rfl) ?_
  refine lv_aload_n C.1 C.2.1 dL_law_463 rfl (lv_at hl 0 rfl) ?_
  refine lv_iload_n C.1 C.2.1 dL_law_464 rfl (lv_at hl 3 rfl) ?_
  refine lv_iconst (v := (1 : Int32)) C.1 C.2.1 dL_law_465 (by decide) ?_
  refine lv_iadd C.1 C.2.1 dL_law_466 ?_
  refine r_topi (y := nI (i + 1)) (nI_add i 1).symm ?_
  refine va_sld C.1 C.2.1 hX hbl hbA hw.2 (i := nI (i + 1)) (vp_in_nI (by omega) (by omega)) dL_law_467 ?_
  refine r_topi (y := xs (i + 1)) (by rw [nI_clamp (by omega)]) ?_
  refine lv_aload_n C.1 C.2.1 dL_law_468 rfl (lv_at hl 0 rfl) ?_
  refine lv_iload_n C.1 C.2.1 dL_law_469 rfl (lv_at hl 3 rfl) ?_
  refine lv_iconst (v := (2 : Int32)) C.1 C.2.1 dL_law_470 (by decide) ?_
  refine lv_iadd C.1 C.2.1 dL_law_471 ?_
  refine r_topi (y := nI (i + 2)) (nI_add i 2).symm ?_
  refine va_sld C.1 C.2.1 hX hbl hbA hw.2 (i := nI (i + 2)) (vp_in_nI (by omega) (by omega)) dL_law_472 ?_
  refine r_topi (y := xs (i + 2)) (by rw [nI_clamp (by omega)]) ?_
  refine lv_aload_n C.1 C.2.1 dL_law_473 rfl (lv_at hl 0 rfl) ?_
  refine lv_iload_n C.1 C.2.1 dL_law_474 rfl (lv_at hl 3 rfl) ?_
  refine lv_iconst (v := (3 : Int32)) C.1 C.2.1 dL_law_475 (by decide) ?_
  refine lv_iadd C.1 C.2.1 dL_law_476 ?_
  refine r_topi (y := nI (i + 3)) (nI_add i 3).symm ?_
  refine va_sld C.1 C.2.1 hX hbl hbA hw.2 (i := nI (i + 3)) (vp_in_nI (by omega) (by omega)) dL_law_477 ?_
  refine r_topi (y := xs (i + 3)) (by rw [nI_clamp (by omega)]) ?_
  refine lv_aload_n C.1 C.2.1 dL_law_478 rfl (lv_at hl 0 rfl) ?_
  refine lv_iload_n C.1 C.2.1 dL_law_479 rfl (lv_at hl 3 rfl) ?_
  refine lv_iconst (v := (4 : Int32)) C.1 C.2.1 dL_law_480 (by decide) ?_
  refine lv_iadd C.1 C.2.1 dL_law_481 ?_
  refine r_topi (y := nI (i + 4)) (nI_add i 4).symm ?_
  refine va_sld C.1 C.2.1 hX hbl hbA hw.2 (i := nI (i + 4)) (vp_in_nI (by omega) (by omega)) dL_law_482 ?_
  refine r_topi (y := xs (i + 4)) (by rw [nI_clamp (by omega)]) ?_
  refine r_afti hw (r_runV (As := [.int (xs (i + 1)), .int (xs (i + 2)), .int (xs (i + 3)), .int (xs (i + 4))]) (rest := []) C hw (ki := 10) hsh.1 (by decide) rfl (kX11_bake l n0 D Y N 0 (xs (i + 1)) (xs (i + 2)) (xs (i + 3)) (xs (i + 4)) z h1) (cwV 4 C.2.2.2.2.2.1 gL_law_X11_bake rfl rfl rfl (by decide +kernel) ⟨(Nat.le_of_ble_eq_true rfl), (Nat.le_of_ble_eq_true rfl)⟩) rfl hl.1 rfl (Nat.le_of_ble_eq_true rfl) dL_law_483 ⟨by show _ ≤ 600000; omega, by show _ ≤ 7302250; omega⟩) (fun H locs hw => ?_)
  refine lv_aload_n C.1 C.2.1 dL_law_486 rfl (lv_at hl 2 rfl) ?_
  refine lv_aload_n C.1 C.2.1 dL_law_487 rfl (lv_at hl 0 rfl) ?_
  refine lv_iload_n C.1 C.2.1 dL_law_488 rfl (lv_at hl 3 rfl) ?_
  refine lv_iconst (v := (1 : Int32)) C.1 C.2.1 dL_law_489 (by decide) ?_
  refine lv_iadd C.1 C.2.1 dL_law_490 ?_
  refine r_topi (y := nI (i + 1)) (nI_add i 1).symm ?_
  refine va_sld C.1 C.2.1 hX hbl hbA hw.2 (i := nI (i + 1)) (vp_in_nI (by omega) (by omega)) dL_law_491 ?_
  refine r_topi (y := xs (i + 1)) (by rw [nI_clamp (by omega)]) ?_
  refine lv_aload_n C.1 C.2.1 dL_law_492 rfl (lv_at hl 0 rfl) ?_
  refine lv_iload_n C.1 C.2.1 dL_law_493 rfl (lv_at hl 3 rfl) ?_
  refine lv_iconst (v := (2 : Int32)) C.1 C.2.1 dL_law_494 (by decide) ?_
  refine lv_iadd C.1 C.2.1 dL_law_495 ?_
  refine r_topi (y := nI (i + 2)) (nI_add i 2).symm ?_
  refine va_sld C.1 C.2.1 hX hbl hbA hw.2 (i := nI (i + 2)) (vp_in_nI (by omega) (by omega)) dL_law_496 ?_
  refine r_topi (y := xs (i + 2)) (by rw [nI_clamp (by omega)]) ?_
  refine lv_aload_n C.1 C.2.1 dL_law_497 rfl (lv_at hl 0 rfl) ?_
  refine lv_iload_n C.1 C.2.1 dL_law_498 rfl (lv_at hl 3 rfl) ?_
  refine lv_iconst (v := (3 : Int32)) C.1 C.2.1 dL_law_499 (by decide) ?_
  refine lv_iadd C.1 C.2.1 dL_law_500 ?_
  refine r_topi (y := nI (i + 3)) (nI_add i 3).symm ?_
  refine va_sld C.1 C.2.1 hX hbl hbA hw.2 (i := nI (i + 3)) (vp_in_nI (by omega) (by omega)) dL_law_501 ?_
  refine r_topi (y := xs (i + 3)) (by rw [nI_clamp (by omega)]) ?_
  refine lv_aload_n C.1 C.2.1 dL_law_502 rfl (lv_at hl 0 rfl) ?_
  refine lv_iload_n C.1 C.2.1 dL_law_503 rfl (lv_at hl 3 rfl) ?_
  refine lv_iconst (v := (4 : Int32)) C.1 C.2.1 dL_law_504 (by decide) ?_
  refine lv_iadd C.1 C.2.1 dL_law_505 ?_
  refine r_topi (y := nI (i + 4)) (nI_add i 4).symm ?_
  refine va_sld C.1 C.2.1 hX hbl hbA hw.2 (i := nI (i + 4)) (vp_in_nI (by omega) (by omega)) dL_law_506 ?_
  refine r_topi (y := xs (i + 4)) (by rw [nI_clamp (by omega)]) ?_
  refine r_afti hw (r_runV (As := [.int (xs (i + 1)), .int (xs (i + 2)), .int (xs (i + 3)), .int (xs (i + 4))]) (rest := [.int r]) C hw (ki := 11) hg (by decide) rfl (kX12_bake l n0 D Y N 17 (xs (i + 1)) (xs (i + 2)) (xs (i + 3)) (xs (i + 4)) z1 h2) (cwV 4 C.2.2.2.2.2.1 gL_law_X12_bake rfl rfl rfl (by decide +kernel) ⟨(Nat.le_of_ble_eq_true rfl), (Nat.le_of_ble_eq_true rfl)⟩) rfl hl.1 rfl (Nat.le_of_ble_eq_true rfl) dL_law_507 ⟨by show _ ≤ 600000; omega, by show _ ≤ 7302250; omega⟩) (fun H locs hw => ?_)
  refine lv_icmp_eq (tgt := 920) C.1 C.2.1 dL_law_510 (by decide) (fun _ => ?_) (fun q => absurd rfl q)
  exact K z2 _ _ _ _ _ (by omega) (by omega) hI2 hw hl
set_option maxHeartbeats 4000000 in
set_option maxRecDepth 100000 in
theorem law_11 {n0 : Nat} {D : va_G} {Y : Nat → ClassId} {p : Program} {l : Launch} {e : Env} {s : State} {m : MethodId} {below : List Frame} {meth : Method} {c : Code} {b L : Nat} {xs : Nat → Int32} {N : Nat} {Inv : Hp → Prop} (hL : L ≤ 3072) (C : Cx n0 D Y RL code ret 4 wsL_law meth.name p s m #[Value.ref b] meth c) (hn0 : n0 = s.heap.size) (hX : va_X b L xs s s.heap) (hbl : b < s.heap.size) (hO : Ops N Inv) {n i : Nat} (hi : i + 6 ≤ L) (K : (∀ (z : Hp) (cells slots : Nat) (H : Heap) (locs : List Loc) (ls : Array Slot), cells + 4 * n ≤ 600000 → slots + 26 * n ≤ 7302250 → Inv z → Wd n0 D Y z s H locs → lv_has ls 4 [(0, .ref b), (1, .ref (n0 + 0)), (2, .ref (n0 + 17)), (3, .int (nI i))] → W p l e room_1 s m #[Value.ref b] below meth c H locs cells slots (lw_Z below #[Value.ref b] s) (F0 m 920 ls []))) {z : Hp} {cells slots : Nat} {H : Heap} {locs : List Loc} {ls : Array Slot} (hc : cells + 4 * (n + 1) ≤ 600000) (hs : slots + 26 * (n + 1) ≤ 7302250) (hI : Inv z) (hw : Wd n0 D Y z s H locs) (hl : lv_has ls 4 [(0, .ref b), (1, .ref (n0 + 0)), (2, .ref (n0 + 17)), (3, .int (nI i))]) : W p l e room_1 s m #[Value.ref b] below meth c H locs cells slots (lw_Z below #[Value.ref b] s) (F0 m 515 ls []) := by
  have hbA : ¬ AA n0 b := by unfold AA; rw [hn0]; exact Nat.not_le.mpr hbl
  have hsh := hO.2.2.2.2.2.2.2.2.2.2.2.2.2.2.2.2.2.2.2.2.2.2.2.2.2.2 z hI
  obtain ⟨r, z1, z2, h1, hg, h2, hI2⟩ := hO.2.2.2.2.2.2.2.2.2.2.2.1 z hI
  refine lv_aload_n C.1 C.2.1 dL_law_515 rfl (lv_at hl 1 rfl) ?_
  refine r_afti hw (r_runV (As := []) (rest := []) C hw (ki := 10) hsh.1 (by decide) rfl (kX11_search l n0 D Y N 0 z h1) (cwV 0 C.2.2.2.2.2.1 gL_law_X11_search rfl rfl rfl (by decide +kernel) ⟨(Nat.le_of_ble_eq_true rfl), (Nat.le_of_ble_eq_true rfl)⟩) rfl hl.1 rfl (Nat.le_of_ble_eq_true rfl) dL_law_516 ⟨by show _ ≤ 600000; omega, by show _ ≤ 7302250; omega⟩) (fun H locs hw => ?_)
  refine lv_aload_n C.1 C.2.1 dL_law_519 rfl (lv_at hl 2 rfl) ?_
  refine r_afti hw (r_runV (As := []) (rest := [.int r]) C hw (ki := 11) hg (by decide) rfl (kX12_search l n0 D Y N 17 z1 h2) (cwV 0 C.2.2.2.2.2.1 gL_law_X12_search rfl rfl rfl (by decide +kernel) ⟨(Nat.le_of_ble_eq_true rfl), (Nat.le_of_ble_eq_true rfl)⟩) rfl hl.1 rfl (Nat.le_of_ble_eq_true rfl) dL_law_520 ⟨by show _ ≤ 600000; omega, by show _ ≤ 7302250; omega⟩) (fun H locs hw => ?_)
  refine lv_icmp_eq (tgt := 920) C.1 C.2.1 dL_law_523 (by decide) (fun _ => ?_) (fun q => absurd rfl q)
  exact K z2 _ _ _ _ _ (by omega) (by omega) hI2 hw hl
set_option maxHeartbeats 4000000 in
set_option maxRecDepth 100000 in
theorem law_12 {n0 : Nat} {D : va_G} {Y : Nat → ClassId} {p : Program} {l : Launch} {e : Env} {s : State} {m : MethodId} {below : List Frame} {meth : Method} {c : Code} {b L : Nat} {xs : Nat → Int32} {N : Nat} {Inv : Hp → Prop} (hL : L ≤ 3072) (C : Cx n0 D Y RL code ret 4 wsL_law meth.name p s m #[Value.ref b] meth c) (hn0 : n0 = s.heap.size) (hX : va_X b L xs s s.heap) (hbl : b < s.heap.size) (hO : Ops N Inv) {n i : Nat} (hi : i + 6 ≤ L) (K : (∀ (z : Hp) (cells slots : Nat) (H : Heap) (locs : List Loc) (ls : Array Slot), cells + 4 * n ≤ 600000 → slots + 26 * n ≤ 7302250 → Inv z → Wd n0 D Y z s H locs → lv_has ls 4 [(0, .ref b), (1, .ref (n0 + 0)), (2, .ref (n0 + 17)), (3, .int (nI i))] → W p l e room_1 s m #[Value.ref b] below meth c H locs cells slots (lw_Z below #[Value.ref b] s) (F0 m 920 ls []))) {z : Hp} {cells slots : Nat} {H : Heap} {locs : List Loc} {ls : Array Slot} (hc : cells + 4 * (n + 1) ≤ 600000) (hs : slots + 26 * (n + 1) ≤ 7302250) (hI : Inv z) (hw : Wd n0 D Y z s H locs) (hl : lv_has ls 4 [(0, .ref b), (1, .ref (n0 + 0)), (2, .ref (n0 + 17)), (3, .int (nI i))]) : W p l e room_1 s m #[Value.ref b] below meth c H locs cells slots (lw_Z below #[Value.ref b] s) (F0 m 528 ls []) := by
  have hbA : ¬ AA n0 b := by unfold AA; rw [hn0]; exact Nat.not_le.mpr hbl
  have hsh := hO.2.2.2.2.2.2.2.2.2.2.2.2.2.2.2.2.2.2.2.2.2.2.2.2.2.2 z hI
  obtain ⟨r, z1, z2, h1, hg, h2, hI2⟩ := hO.2.2.2.2.2.2.2.2.2.2.2.2.1 z hI
  refine lv_aload_n C.1 C.2.1 dL_law_528 rfl (lv_at hl 1 rfl) ?_
  refine r_afti hw (r_runV (As := []) (rest := []) C hw (ki := 10) hsh.1 (by decide) rfl (kX11_turn l n0 D Y N 0 z h1) (cwV 0 C.2.2.2.2.2.1 gL_law_X11_turn rfl rfl rfl (by decide +kernel) ⟨(Nat.le_of_ble_eq_true rfl), (Nat.le_of_ble_eq_true rfl)⟩) rfl hl.1 rfl (Nat.le_of_ble_eq_true rfl) dL_law_529 ⟨by show _ ≤ 600000; omega, by show _ ≤ 7302250; omega⟩) (fun H locs hw => ?_)
  refine lv_aload_n C.1 C.2.1 dL_law_532 rfl (lv_at hl 2 rfl) ?_
  refine r_afti hw (r_runV (As := []) (rest := [.int r]) C hw (ki := 11) hg (by decide) rfl (kX12_turn l n0 D Y N 17 z1 h2) (cwV 0 C.2.2.2.2.2.1 gL_law_X12_turn rfl rfl rfl (by decide +kernel) ⟨(Nat.le_of_ble_eq_true rfl), (Nat.le_of_ble_eq_true rfl)⟩) rfl hl.1 rfl (Nat.le_of_ble_eq_true rfl) dL_law_533 ⟨by show _ ≤ 600000; omega, by show _ ≤ 7302250; omega⟩) (fun H locs hw => ?_)
  refine lv_icmp_eq (tgt := 920) C.1 C.2.1 dL_law_536 (by decide) (fun _ => ?_) (fun q => absurd rfl q)
  exact K z2 _ _ _ _ _ (by omega) (by omega) hI2 hw hl
set_option maxHeartbeats 4000000 in
set_option maxRecDepth 100000 in
theorem law_13 {n0 : Nat} {D : va_G} {Y : Nat → ClassId} {p : Program} {l : Launch} {e : Env} {s : State} {m : MethodId} {below : List Frame} {meth : Method} {c : Code} {b L : Nat} {xs : Nat → Int32} {N : Nat} {Inv : Hp → Prop} (hL : L ≤ 3072) (C : Cx n0 D Y RL code ret 4 wsL_law meth.name p s m #[Value.ref b] meth c) (hn0 : n0 = s.heap.size) (hX : va_X b L xs s s.heap) (hbl : b < s.heap.size) (hO : Ops N Inv) {n i : Nat} (hi : i + 6 ≤ L) (K : (∀ (z : Hp) (cells slots : Nat) (H : Heap) (locs : List Loc) (ls : Array Slot), cells + 4 * n ≤ 600000 → slots + 26 * n ≤ 7302250 → Inv z → Wd n0 D Y z s H locs → lv_has ls 4 [(0, .ref b), (1, .ref (n0 + 0)), (2, .ref (n0 + 17)), (3, .int (nI i))] → W p l e room_1 s m #[Value.ref b] below meth c H locs cells slots (lw_Z below #[Value.ref b] s) (F0 m 920 ls []))) {z : Hp} {cells slots : Nat} {H : Heap} {locs : List Loc} {ls : Array Slot} (hc : cells + 4 * (n + 1) ≤ 600000) (hs : slots + 26 * (n + 1) ≤ 7302250) (hI : Inv z) (hw : Wd n0 D Y z s H locs) (hl : lv_has ls 4 [(0, .ref b), (1, .ref (n0 + 0)), (2, .ref (n0 + 17)), (3, .int (nI i))]) : W p l e room_1 s m #[Value.ref b] below meth c H locs cells slots (lw_Z below #[Value.ref b] s) (F0 m 541 ls []) := by
  have hbA : ¬ AA n0 b := by unfold AA; rw [hn0]; exact Nat.not_le.mpr hbl
  have hsh := hO.2.2.2.2.2.2.2.2.2.2.2.2.2.2.2.2.2.2.2.2.2.2.2.2.2.2 z hI
  obtain ⟨r, z1, z2, h1, hg, h2, hI2⟩ := hO.2.2.2.2.2.2.2.2.2.2.2.2.2.1 z (xs (i + 1)) (xs (i + 2)) hI
  refine lv_aload_n C.1 C.2.1 dL_law_541 rfl (lv_at hl 1 rfl) ?_
  refine lv_aload_n C.1 C.2.1 dL_law_542 rfl (lv_at hl 0 rfl) ?_
  refine lv_iload_n C.1 C.2.1 dL_law_543 rfl (lv_at hl 3 rfl) ?_
  refine lv_iconst (v := (1 : Int32)) C.1 C.2.1 dL_law_544 (by decide) ?_
  refine lv_iadd C.1 C.2.1 dL_law_545 ?_
  refine r_topi (y := nI (i + 1)) (nI_add i 1).symm ?_
  refine va_sld C.1 C.2.1 hX hbl hbA hw.2 (i := nI (i + 1)) (vp_in_nI (by omega) (by omega)) dL_law_546 ?_
  refine r_topi (y := xs (i + 1)) (by rw [nI_clamp (by omega)]) ?_
  refine lv_aload_n C.1 C.2.1 dL_law_547 rfl (lv_at hl 0 rfl) ?_
  refine lv_iload_n C.1 C.2.1 dL_law_548 rfl (lv_at hl 3 rfl) ?_
  refine lv_iconst (v := (2 : Int32)) C.1 C.2.1 dL_law_549 (by decide) ?_
  refine lv_iadd C.1 C.2.1 dL_law_550 ?_
  refine r_topi (y := nI (i + 2)) (nI_add i 2).symm ?_
  refine va_sld C.1 C.2.1 hX hbl hbA hw.2 (i := nI (i + 2)) (vp_in_nI (by omega) (by omega)) dL_law_551 ?_
  refine r_topi (y := xs (i + 2)) (by rw [nI_clamp (by omega)]) ?_
  refine r_afti hw (r_runV (As := [.int (xs (i + 1)), .int (xs (i + 2))]) (rest := []) C hw (ki := 10) hsh.1 (by decide) rfl (kX11_rules l n0 D Y N 0 (xs (i + 1)) (xs (i + 2)) z h1) (cwV 2 C.2.2.2.2.2.1 gL_law_X11_rules rfl rfl rfl (by decide +kernel) ⟨(Nat.le_of_ble_eq_true rfl), (Nat.le_of_ble_eq_true rfl)⟩) rfl hl.1 rfl (Nat.le_of_ble_eq_true rfl) dL_law_552 ⟨by show _ ≤ 600000; omega, by show _ ≤ 7302250; omega⟩) (fun H locs hw => ?_)
  refine lv_aload_n C.1 C.2.1 dL_law_555 rfl (lv_at hl 2 rfl) ?_
  refine lv_aload_n C.1 C.2.1 dL_law_556 rfl (lv_at hl 0 rfl) ?_
  refine lv_iload_n C.1 C.2.1 dL_law_557 rfl (lv_at hl 3 rfl) ?_
  refine lv_iconst (v := (1 : Int32)) C.1 C.2.1 dL_law_558 (by decide) ?_
  refine lv_iadd C.1 C.2.1 dL_law_559 ?_
  refine r_topi (y := nI (i + 1)) (nI_add i 1).symm ?_
  refine va_sld C.1 C.2.1 hX hbl hbA hw.2 (i := nI (i + 1)) (vp_in_nI (by omega) (by omega)) dL_law_560 ?_
  refine r_topi (y := xs (i + 1)) (by rw [nI_clamp (by omega)]) ?_
  refine lv_aload_n C.1 C.2.1 dL_law_561 rfl (lv_at hl 0 rfl) ?_
  refine lv_iload_n C.1 C.2.1 dL_law_562 rfl (lv_at hl 3 rfl) ?_
  refine lv_iconst (v := (2 : Int32)) C.1 C.2.1 dL_law_563 (by decide) ?_
  refine lv_iadd C.1 C.2.1 dL_law_564 ?_
  refine r_topi (y := nI (i + 2)) (nI_add i 2).symm ?_
  refine va_sld C.1 C.2.1 hX hbl hbA hw.2 (i := nI (i + 2)) (vp_in_nI (by omega) (by omega)) dL_law_565 ?_
  refine r_topi (y := xs (i + 2)) (by rw [nI_clamp (by omega)]) ?_
  refine r_afti hw (r_runV (As := [.int (xs (i + 1)), .int (xs (i + 2))]) (rest := [.int r]) C hw (ki := 11) hg (by decide) rfl (kX12_rules l n0 D Y N 17 (xs (i + 1)) (xs (i + 2)) z1 h2) (cwV 2 C.2.2.2.2.2.1 gL_law_X12_rules rfl rfl rfl (by decide +kernel) ⟨(Nat.le_of_ble_eq_true rfl), (Nat.le_of_ble_eq_true rfl)⟩) rfl hl.1 rfl (Nat.le_of_ble_eq_true rfl) dL_law_566 ⟨by show _ ≤ 600000; omega, by show _ ≤ 7302250; omega⟩) (fun H locs hw => ?_)
  refine lv_icmp_eq (tgt := 920) C.1 C.2.1 dL_law_569 (by decide) (fun _ => ?_) (fun q => absurd rfl q)
  exact K z2 _ _ _ _ _ (by omega) (by omega) hI2 hw hl
set_option maxHeartbeats 4000000 in
set_option maxRecDepth 100000 in
theorem law_14 {n0 : Nat} {D : va_G} {Y : Nat → ClassId} {p : Program} {l : Launch} {e : Env} {s : State} {m : MethodId} {below : List Frame} {meth : Method} {c : Code} {b L : Nat} {xs : Nat → Int32} {N : Nat} {Inv : Hp → Prop} (hL : L ≤ 3072) (C : Cx n0 D Y RL code ret 4 wsL_law meth.name p s m #[Value.ref b] meth c) (hn0 : n0 = s.heap.size) (hX : va_X b L xs s s.heap) (hbl : b < s.heap.size) (hO : Ops N Inv) {n i : Nat} (hi : i + 6 ≤ L) (K : (∀ (z : Hp) (cells slots : Nat) (H : Heap) (locs : List Loc) (ls : Array Slot), cells + 4 * n ≤ 600000 → slots + 26 * n ≤ 7302250 → Inv z → Wd n0 D Y z s H locs → lv_has ls 4 [(0, .ref b), (1, .ref (n0 + 0)), (2, .ref (n0 + 17)), (3, .int (nI i))] → W p l e room_1 s m #[Value.ref b] below meth c H locs cells slots (lw_Z below #[Value.ref b] s) (F0 m 920 ls []))) {z : Hp} {cells slots : Nat} {H : Heap} {locs : List Loc} {ls : Array Slot} (hc : cells + 4 * (n + 1) ≤ 600000) (hs : slots + 26 * (n + 1) ≤ 7302250) (hI : Inv z) (hw : Wd n0 D Y z s H locs) (hl : lv_has ls 4 [(0, .ref b), (1, .ref (n0 + 0)), (2, .ref (n0 + 17)), (3, .int (nI i))]) : W p l e room_1 s m #[Value.ref b] below meth c H locs cells slots (lw_Z below #[Value.ref b] s) (F0 m 574 ls []) := by
  have hbA : ¬ AA n0 b := by unfold AA; rw [hn0]; exact Nat.not_le.mpr hbl
  have hsh := hO.2.2.2.2.2.2.2.2.2.2.2.2.2.2.2.2.2.2.2.2.2.2.2.2.2.2 z hI
  obtain ⟨r, h1, h2⟩ := hO.2.2.2.2.2.2.2.2.2.2.2.2.2.2.1 z (xs (i + 1)) (xs (i + 2)) hI
  refine lv_aload_n C.1 C.2.1 dL_law_574 rfl (lv_at hl 1 rfl) ?_
  refine lv_aload_n C.1 C.2.1 dL_law_575 rfl (lv_at hl 0 rfl) ?_
  refine lv_iload_n C.1 C.2.1 dL_law_576 rfl (lv_at hl 3 rfl) ?_
  refine lv_iconst (v := (1 : Int32)) C.1 C.2.1 dL_law_577 (by decide) ?_
  refine lv_iadd C.1 C.2.1 dL_law_578 ?_
  refine r_topi (y := nI (i + 1)) (nI_add i 1).symm ?_
  refine va_sld C.1 C.2.1 hX hbl hbA hw.2 (i := nI (i + 1)) (vp_in_nI (by omega) (by omega)) dL_law_579 ?_
  refine r_topi (y := xs (i + 1)) (by rw [nI_clamp (by omega)]) ?_
  refine lv_aload_n C.1 C.2.1 dL_law_580 rfl (lv_at hl 0 rfl) ?_
  refine lv_iload_n C.1 C.2.1 dL_law_581 rfl (lv_at hl 3 rfl) ?_
  refine lv_iconst (v := (2 : Int32)) C.1 C.2.1 dL_law_582 (by decide) ?_
  refine lv_iadd C.1 C.2.1 dL_law_583 ?_
  refine r_topi (y := nI (i + 2)) (nI_add i 2).symm ?_
  refine va_sld C.1 C.2.1 hX hbl hbA hw.2 (i := nI (i + 2)) (vp_in_nI (by omega) (by omega)) dL_law_584 ?_
  refine r_topi (y := xs (i + 2)) (by rw [nI_clamp (by omega)]) ?_
  refine r_afti hw (r_runV (As := [.int (xs (i + 1)), .int (xs (i + 2))]) (rest := []) C hw (ki := 10) hsh.1 (by decide) rfl (kX11_record l n0 D Y N 0 (xs (i + 1)) (xs (i + 2)) z h1) (cwV 2 C.2.2.2.2.2.1 gL_law_X11_record rfl rfl rfl (by decide +kernel) ⟨(Nat.le_of_ble_eq_true rfl), (Nat.le_of_ble_eq_true rfl)⟩) rfl hl.1 rfl (Nat.le_of_ble_eq_true rfl) dL_law_585 ⟨by show _ ≤ 600000; omega, by show _ ≤ 7302250; omega⟩) (fun H locs hw => ?_)
  refine lv_aload_n C.1 C.2.1 dL_law_588 rfl (lv_at hl 2 rfl) ?_
  refine lv_aload_n C.1 C.2.1 dL_law_589 rfl (lv_at hl 0 rfl) ?_
  refine lv_iload_n C.1 C.2.1 dL_law_590 rfl (lv_at hl 3 rfl) ?_
  refine lv_iconst (v := (1 : Int32)) C.1 C.2.1 dL_law_591 (by decide) ?_
  refine lv_iadd C.1 C.2.1 dL_law_592 ?_
  refine r_topi (y := nI (i + 1)) (nI_add i 1).symm ?_
  refine va_sld C.1 C.2.1 hX hbl hbA hw.2 (i := nI (i + 1)) (vp_in_nI (by omega) (by omega)) dL_law_593 ?_
  refine r_topi (y := xs (i + 1)) (by rw [nI_clamp (by omega)]) ?_
  refine lv_aload_n C.1 C.2.1 dL_law_594 rfl (lv_at hl 0 rfl) ?_
  refine lv_iload_n C.1 C.2.1 dL_law_595 rfl (lv_at hl 3 rfl) ?_
  refine lv_iconst (v := (2 : Int32)) C.1 C.2.1 dL_law_596 (by decide) ?_
  refine lv_iadd C.1 C.2.1 dL_law_597 ?_
  refine r_topi (y := nI (i + 2)) (nI_add i 2).symm ?_
  refine va_sld C.1 C.2.1 hX hbl hbA hw.2 (i := nI (i + 2)) (vp_in_nI (by omega) (by omega)) dL_law_598 ?_
  refine r_topi (y := xs (i + 2)) (by rw [nI_clamp (by omega)]) ?_
  refine r_afti hw (r_runV (As := [.int (xs (i + 1)), .int (xs (i + 2))]) (rest := [.int r]) C hw (ki := 11) hsh.2 (by decide) rfl (kX12_record l n0 D Y N 17 (xs (i + 1)) (xs (i + 2)) z h2) (cwV 2 C.2.2.2.2.2.1 gL_law_X12_record rfl rfl rfl (by decide +kernel) ⟨(Nat.le_of_ble_eq_true rfl), (Nat.le_of_ble_eq_true rfl)⟩) rfl hl.1 rfl (Nat.le_of_ble_eq_true rfl) dL_law_599 ⟨by show _ ≤ 600000; omega, by show _ ≤ 7302250; omega⟩) (fun H locs hw => ?_)
  refine lv_icmp_eq (tgt := 920) C.1 C.2.1 dL_law_602 (by decide) (fun _ => ?_) (fun q => absurd rfl q)
  exact K z _ _ _ _ _ (by omega) (by omega) hI hw hl
set_option maxHeartbeats 4000000 in
set_option maxRecDepth 100000 in
theorem law_15 {n0 : Nat} {D : va_G} {Y : Nat → ClassId} {p : Program} {l : Launch} {e : Env} {s : State} {m : MethodId} {below : List Frame} {meth : Method} {c : Code} {b L : Nat} {xs : Nat → Int32} {N : Nat} {Inv : Hp → Prop} (hL : L ≤ 3072) (C : Cx n0 D Y RL code ret 4 wsL_law meth.name p s m #[Value.ref b] meth c) (hn0 : n0 = s.heap.size) (hX : va_X b L xs s s.heap) (hbl : b < s.heap.size) (hO : Ops N Inv) {n i : Nat} (hi : i + 6 ≤ L) (K : (∀ (z : Hp) (cells slots : Nat) (H : Heap) (locs : List Loc) (ls : Array Slot), cells + 4 * n ≤ 600000 → slots + 26 * n ≤ 7302250 → Inv z → Wd n0 D Y z s H locs → lv_has ls 4 [(0, .ref b), (1, .ref (n0 + 0)), (2, .ref (n0 + 17)), (3, .int (nI i))] → W p l e room_1 s m #[Value.ref b] below meth c H locs cells slots (lw_Z below #[Value.ref b] s) (F0 m 920 ls []))) {z : Hp} {cells slots : Nat} {H : Heap} {locs : List Loc} {ls : Array Slot} (hc : cells + 4 * (n + 1) ≤ 600000) (hs : slots + 26 * (n + 1) ≤ 7302250) (hI : Inv z) (hw : Wd n0 D Y z s H locs) (hl : lv_has ls 4 [(0, .ref b), (1, .ref (n0 + 0)), (2, .ref (n0 + 17)), (3, .int (nI i))]) : W p l e room_1 s m #[Value.ref b] below meth c H locs cells slots (lw_Z below #[Value.ref b] s) (F0 m 607 ls []) := by
  have hbA : ¬ AA n0 b := by unfold AA; rw [hn0]; exact Nat.not_le.mpr hbl
  have hsh := hO.2.2.2.2.2.2.2.2.2.2.2.2.2.2.2.2.2.2.2.2.2.2.2.2.2.2 z hI
  obtain ⟨r, h1, h2⟩ := hO.2.2.2.2.2.2.2.2.2.2.2.2.2.2.2.1 z (xs (i + 1)) (xs (i + 2)) hI
  refine lv_aload_n C.1 C.2.1 dL_law_607 rfl (lv_at hl 1 rfl) ?_
  refine lv_aload_n C.1 C.2.1 dL_law_608 rfl (lv_at hl 0 rfl) ?_
  refine lv_iload_n C.1 C.2.1 dL_law_609 rfl (lv_at hl 3 rfl) ?_
  refine lv_iconst (v := (1 : Int32)) C.1 C.2.1 dL_law_610 (by decide) ?_
  refine lv_iadd C.1 C.2.1 dL_law_611 ?_
  refine r_topi (y := nI (i + 1)) (nI_add i 1).symm ?_
  refine va_sld C.1 C.2.1 hX hbl hbA hw.2 (i := nI (i + 1)) (vp_in_nI (by omega) (by omega)) dL_law_612 ?_
  refine r_topi (y := xs (i + 1)) (by rw [nI_clamp (by omega)]) ?_
  refine lv_aload_n C.1 C.2.1 dL_law_613 rfl (lv_at hl 0 rfl) ?_
  refine lv_iload_n C.1 C.2.1 dL_law_614 rfl (lv_at hl 3 rfl) ?_
  refine lv_iconst (v := (2 : Int32)) C.1 C.2.1 dL_law_615 (by decide) ?_
  refine lv_iadd C.1 C.2.1 dL_law_616 ?_
  refine r_topi (y := nI (i + 2)) (nI_add i 2).symm ?_
  refine va_sld C.1 C.2.1 hX hbl hbA hw.2 (i := nI (i + 2)) (vp_in_nI (by omega) (by omega)) dL_law_617 ?_
  refine r_topi (y := xs (i + 2)) (by rw [nI_clamp (by omega)]) ?_
  refine r_afti hw (r_runV (As := [.int (xs (i + 1)), .int (xs (i + 2))]) (rest := []) C hw (ki := 10) hsh.1 (by decide) rfl (kX11_lot l n0 D Y N 0 (xs (i + 1)) (xs (i + 2)) z h1) (cwV 2 C.2.2.2.2.2.1 gL_law_X11_lot rfl rfl rfl (by decide +kernel) ⟨(Nat.le_of_ble_eq_true rfl), (Nat.le_of_ble_eq_true rfl)⟩) rfl hl.1 rfl (Nat.le_of_ble_eq_true rfl) dL_law_618 ⟨by show _ ≤ 600000; omega, by show _ ≤ 7302250; omega⟩) (fun H locs hw => ?_)
  refine lv_aload_n C.1 C.2.1 dL_law_621 rfl (lv_at hl 2 rfl) ?_
  refine lv_aload_n C.1 C.2.1 dL_law_622 rfl (lv_at hl 0 rfl) ?_
  refine lv_iload_n C.1 C.2.1 dL_law_623 rfl (lv_at hl 3 rfl) ?_
  refine lv_iconst (v := (1 : Int32)) C.1 C.2.1 dL_law_624 (by decide) ?_
  refine lv_iadd C.1 C.2.1 dL_law_625 ?_
  refine r_topi (y := nI (i + 1)) (nI_add i 1).symm ?_
  refine va_sld C.1 C.2.1 hX hbl hbA hw.2 (i := nI (i + 1)) (vp_in_nI (by omega) (by omega)) dL_law_626 ?_
  refine r_topi (y := xs (i + 1)) (by rw [nI_clamp (by omega)]) ?_
  refine lv_aload_n C.1 C.2.1 dL_law_627 rfl (lv_at hl 0 rfl) ?_
  refine lv_iload_n C.1 C.2.1 dL_law_628 rfl (lv_at hl 3 rfl) ?_
  refine lv_iconst (v := (2 : Int32)) C.1 C.2.1 dL_law_629 (by decide) ?_
  refine lv_iadd C.1 C.2.1 dL_law_630 ?_
  refine r_topi (y := nI (i + 2)) (nI_add i 2).symm ?_
  refine va_sld C.1 C.2.1 hX hbl hbA hw.2 (i := nI (i + 2)) (vp_in_nI (by omega) (by omega)) dL_law_631 ?_
  refine r_topi (y := xs (i + 2)) (by rw [nI_clamp (by omega)]) ?_
  refine r_afti hw (r_runV (As := [.int (xs (i + 1)), .int (xs (i + 2))]) (rest := [.int r]) C hw (ki := 11) hsh.2 (by decide) rfl (kX12_lot l n0 D Y N 17 (xs (i + 1)) (xs (i + 2)) z h2) (cwV 2 C.2.2.2.2.2.1 gL_law_X12_lot rfl rfl rfl (by decide +kernel) ⟨(Nat.le_of_ble_eq_true rfl), (Nat.le_of_ble_eq_true rfl)⟩) rfl hl.1 rfl (Nat.le_of_ble_eq_true rfl) dL_law_632 ⟨by show _ ≤ 600000; omega, by show _ ≤ 7302250; omega⟩) (fun H locs hw => ?_)
  refine lv_icmp_eq (tgt := 920) C.1 C.2.1 dL_law_635 (by decide) (fun _ => ?_) (fun q => absurd rfl q)
  exact K z _ _ _ _ _ (by omega) (by omega) hI hw hl
set_option maxHeartbeats 4000000 in
set_option maxRecDepth 100000 in
theorem law_16 {n0 : Nat} {D : va_G} {Y : Nat → ClassId} {p : Program} {l : Launch} {e : Env} {s : State} {m : MethodId} {below : List Frame} {meth : Method} {c : Code} {b L : Nat} {xs : Nat → Int32} {N : Nat} {Inv : Hp → Prop} (hL : L ≤ 3072) (C : Cx n0 D Y RL code ret 4 wsL_law meth.name p s m #[Value.ref b] meth c) (hn0 : n0 = s.heap.size) (hX : va_X b L xs s s.heap) (hbl : b < s.heap.size) (hO : Ops N Inv) {n i : Nat} (hi : i + 6 ≤ L) (K : (∀ (z : Hp) (cells slots : Nat) (H : Heap) (locs : List Loc) (ls : Array Slot), cells + 4 * n ≤ 600000 → slots + 26 * n ≤ 7302250 → Inv z → Wd n0 D Y z s H locs → lv_has ls 4 [(0, .ref b), (1, .ref (n0 + 0)), (2, .ref (n0 + 17)), (3, .int (nI i))] → W p l e room_1 s m #[Value.ref b] below meth c H locs cells slots (lw_Z below #[Value.ref b] s) (F0 m 920 ls []))) {z : Hp} {cells slots : Nat} {H : Heap} {locs : List Loc} {ls : Array Slot} (hc : cells + 4 * (n + 1) ≤ 600000) (hs : slots + 26 * (n + 1) ≤ 7302250) (hI : Inv z) (hw : Wd n0 D Y z s H locs) (hl : lv_has ls 4 [(0, .ref b), (1, .ref (n0 + 0)), (2, .ref (n0 + 17)), (3, .int (nI i))]) : W p l e room_1 s m #[Value.ref b] below meth c H locs cells slots (lw_Z below #[Value.ref b] s) (F0 m 640 ls []) := by
  have hbA : ¬ AA n0 b := by unfold AA; rw [hn0]; exact Nat.not_le.mpr hbl
  have hsh := hO.2.2.2.2.2.2.2.2.2.2.2.2.2.2.2.2.2.2.2.2.2.2.2.2.2.2 z hI
  obtain ⟨r, h1, h2⟩ := hO.2.2.2.2.2.2.2.2.2.2.2.2.2.2.2.2.1 z (xs (i + 1)) (xs (i + 2)) hI
  refine lv_aload_n C.1 C.2.1 dL_law_640 rfl (lv_at hl 1 rfl) ?_
  refine lv_aload_n C.1 C.2.1 dL_law_641 rfl (lv_at hl 0 rfl) ?_
  refine lv_iload_n C.1 C.2.1 dL_law_642 rfl (lv_at hl 3 rfl) ?_
  refine lv_iconst (v := (1 : Int32)) C.1 C.2.1 dL_law_643 (by decide) ?_
  refine lv_iadd C.1 C.2.1 dL_law_644 ?_
  refine r_topi (y := nI (i + 1)) (nI_add i 1).symm ?_
  refine va_sld C.1 C.2.1 hX hbl hbA hw.2 (i := nI (i + 1)) (vp_in_nI (by omega) (by omega)) dL_law_645 ?_
  refine r_topi (y := xs (i + 1)) (by rw [nI_clamp (by omega)]) ?_
  refine lv_aload_n C.1 C.2.1 dL_law_646 rfl (lv_at hl 0 rfl) ?_
  refine lv_iload_n C.1 C.2.1 dL_law_647 rfl (lv_at hl 3 rfl) ?_
  refine lv_iconst (v := (2 : Int32)) C.1 C.2.1 dL_law_648 (by decide) ?_
  refine lv_iadd C.1 C.2.1 dL_law_649 ?_
  refine r_topi (y := nI (i + 2)) (nI_add i 2).symm ?_
  refine va_sld C.1 C.2.1 hX hbl hbA hw.2 (i := nI (i + 2)) (vp_in_nI (by omega) (by omega)) dL_law_650 ?_
  refine r_topi (y := xs (i + 2)) (by rw [nI_clamp (by omega)]) ?_
  refine r_afti hw (r_runV (As := [.int (xs (i + 1)), .int (xs (i + 2))]) (rest := []) C hw (ki := 10) hsh.1 (by decide) rfl (kX11_batch l n0 D Y N 0 (xs (i + 1)) (xs (i + 2)) z h1) (cwV 2 C.2.2.2.2.2.1 gL_law_X11_batch rfl rfl rfl (by decide +kernel) ⟨(Nat.le_of_ble_eq_true rfl), (Nat.le_of_ble_eq_true rfl)⟩) rfl hl.1 rfl (Nat.le_of_ble_eq_true rfl) dL_law_651 ⟨by show _ ≤ 600000; omega, by show _ ≤ 7302250; omega⟩) (fun H locs hw => ?_)
  refine lv_aload_n C.1 C.2.1 dL_law_654 rfl (lv_at hl 2 rfl) ?_
  refine lv_aload_n C.1 C.2.1 dL_law_655 rfl (lv_at hl 0 rfl) ?_
  refine lv_iload_n C.1 C.2.1 dL_law_656 rfl (lv_at hl 3 rfl) ?_
  refine lv_iconst (v := (1 : Int32)) C.1 C.2.1 dL_law_657 (by decide) ?_
  refine lv_iadd C.1 C.2.1 dL_law_658 ?_
  refine r_topi (y := nI (i + 1)) (nI_add i 1).symm ?_
  refine va_sld C.1 C.2.1 hX hbl hbA hw.2 (i := nI (i + 1)) (vp_in_nI (by omega) (by omega)) dL_law_659 ?_
  refine r_topi (y := xs (i + 1)) (by rw [nI_clamp (by omega)]) ?_
  refine lv_aload_n C.1 C.2.1 dL_law_660 rfl (lv_at hl 0 rfl) ?_
  refine lv_iload_n C.1 C.2.1 dL_law_661 rfl (lv_at hl 3 rfl) ?_
  refine lv_iconst (v := (2 : Int32)) C.1 C.2.1 dL_law_662 (by decide) ?_
  refine lv_iadd C.1 C.2.1 dL_law_663 ?_
  refine r_topi (y := nI (i + 2)) (nI_add i 2).symm ?_
  refine va_sld C.1 C.2.1 hX hbl hbA hw.2 (i := nI (i + 2)) (vp_in_nI (by omega) (by omega)) dL_law_664 ?_
  refine r_topi (y := xs (i + 2)) (by rw [nI_clamp (by omega)]) ?_
  refine r_afti hw (r_runV (As := [.int (xs (i + 1)), .int (xs (i + 2))]) (rest := [.int r]) C hw (ki := 11) hsh.2 (by decide) rfl (kX12_batch l n0 D Y N 17 (xs (i + 1)) (xs (i + 2)) z h2) (cwV 2 C.2.2.2.2.2.1 gL_law_X12_batch rfl rfl rfl (by decide +kernel) ⟨(Nat.le_of_ble_eq_true rfl), (Nat.le_of_ble_eq_true rfl)⟩) rfl hl.1 rfl (Nat.le_of_ble_eq_true rfl) dL_law_665 ⟨by show _ ≤ 600000; omega, by show _ ≤ 7302250; omega⟩) (fun H locs hw => ?_)
  refine lv_icmp_eq (tgt := 920) C.1 C.2.1 dL_law_668 (by decide) (fun _ => ?_) (fun q => absurd rfl q)
  exact K z _ _ _ _ _ (by omega) (by omega) hI hw hl
set_option maxHeartbeats 4000000 in
set_option maxRecDepth 100000 in
theorem law_17 {n0 : Nat} {D : va_G} {Y : Nat → ClassId} {p : Program} {l : Launch} {e : Env} {s : State} {m : MethodId} {below : List Frame} {meth : Method} {c : Code} {b L : Nat} {xs : Nat → Int32} {N : Nat} {Inv : Hp → Prop} (hL : L ≤ 3072) (C : Cx n0 D Y RL code ret 4 wsL_law meth.name p s m #[Value.ref b] meth c) (hn0 : n0 = s.heap.size) (hX : va_X b L xs s s.heap) (hbl : b < s.heap.size) (hO : Ops N Inv) {n i : Nat} (hi : i + 6 ≤ L) (K : (∀ (z : Hp) (cells slots : Nat) (H : Heap) (locs : List Loc) (ls : Array Slot), cells + 4 * n ≤ 600000 → slots + 26 * n ≤ 7302250 → Inv z → Wd n0 D Y z s H locs → lv_has ls 4 [(0, .ref b), (1, .ref (n0 + 0)), (2, .ref (n0 + 17)), (3, .int (nI i))] → W p l e room_1 s m #[Value.ref b] below meth c H locs cells slots (lw_Z below #[Value.ref b] s) (F0 m 920 ls []))) {z : Hp} {cells slots : Nat} {H : Heap} {locs : List Loc} {ls : Array Slot} (hc : cells + 4 * (n + 1) ≤ 600000) (hs : slots + 26 * (n + 1) ≤ 7302250) (hI : Inv z) (hw : Wd n0 D Y z s H locs) (hl : lv_has ls 4 [(0, .ref b), (1, .ref (n0 + 0)), (2, .ref (n0 + 17)), (3, .int (nI i))]) : W p l e room_1 s m #[Value.ref b] below meth c H locs cells slots (lw_Z below #[Value.ref b] s) (F0 m 673 ls []) := by
  have hbA : ¬ AA n0 b := by unfold AA; rw [hn0]; exact Nat.not_le.mpr hbl
  have hsh := hO.2.2.2.2.2.2.2.2.2.2.2.2.2.2.2.2.2.2.2.2.2.2.2.2.2.2 z hI
  obtain ⟨r, h1, h2⟩ := hO.2.2.2.2.2.2.2.2.2.2.2.2.2.2.2.2.2.1 z (xs (i + 1)) (xs (i + 2)) hI
  refine lv_aload_n C.1 C.2.1 dL_law_673 rfl (lv_at hl 1 rfl) ?_
  refine lv_aload_n C.1 C.2.1 dL_law_674 rfl (lv_at hl 0 rfl) ?_
  refine lv_iload_n C.1 C.2.1 dL_law_675 rfl (lv_at hl 3 rfl) ?_
  refine lv_iconst (v := (1 : Int32)) C.1 C.2.1 dL_law_676 (by decide) ?_
  refine lv_iadd C.1 C.2.1 dL_law_677 ?_
  refine r_topi (y := nI (i + 1)) (nI_add i 1).symm ?_
  refine va_sld C.1 C.2.1 hX hbl hbA hw.2 (i := nI (i + 1)) (vp_in_nI (by omega) (by omega)) dL_law_678 ?_
  refine r_topi (y := xs (i + 1)) (by rw [nI_clamp (by omega)]) ?_
  refine lv_aload_n C.1 C.2.1 dL_law_679 rfl (lv_at hl 0 rfl) ?_
  refine lv_iload_n C.1 C.2.1 dL_law_680 rfl (lv_at hl 3 rfl) ?_
  refine lv_iconst (v := (2 : Int32)) C.1 C.2.1 dL_law_681 (by decide) ?_
  refine lv_iadd C.1 C.2.1 dL_law_682 ?_
  refine r_topi (y := nI (i + 2)) (nI_add i 2).symm ?_
  refine va_sld C.1 C.2.1 hX hbl hbA hw.2 (i := nI (i + 2)) (vp_in_nI (by omega) (by omega)) dL_law_683 ?_
  refine r_topi (y := xs (i + 2)) (by rw [nI_clamp (by omega)]) ?_
  refine r_afti hw (r_runV (As := [.int (xs (i + 1)), .int (xs (i + 2))]) (rest := []) C hw (ki := 10) hsh.1 (by decide) rfl (kX11_found l n0 D Y N 0 (xs (i + 1)) (xs (i + 2)) z h1) (cwV 2 C.2.2.2.2.2.1 gL_law_X11_found rfl rfl rfl (by decide +kernel) ⟨(Nat.le_of_ble_eq_true rfl), (Nat.le_of_ble_eq_true rfl)⟩) rfl hl.1 rfl (Nat.le_of_ble_eq_true rfl) dL_law_684 ⟨by show _ ≤ 600000; omega, by show _ ≤ 7302250; omega⟩) (fun H locs hw => ?_)
  refine lv_aload_n C.1 C.2.1 dL_law_687 rfl (lv_at hl 2 rfl) ?_
  refine lv_aload_n C.1 C.2.1 dL_law_688 rfl (lv_at hl 0 rfl) ?_
  refine lv_iload_n C.1 C.2.1 dL_law_689 rfl (lv_at hl 3 rfl) ?_
  refine lv_iconst (v := (1 : Int32)) C.1 C.2.1 dL_law_690 (by decide) ?_
  refine lv_iadd C.1 C.2.1 dL_law_691 ?_
  refine r_topi (y := nI (i + 1)) (nI_add i 1).symm ?_
  refine va_sld C.1 C.2.1 hX hbl hbA hw.2 (i := nI (i + 1)) (vp_in_nI (by omega) (by omega)) dL_law_692 ?_
  refine r_topi (y := xs (i + 1)) (by rw [nI_clamp (by omega)]) ?_
  refine lv_aload_n C.1 C.2.1 dL_law_693 rfl (lv_at hl 0 rfl) ?_
  refine lv_iload_n C.1 C.2.1 dL_law_694 rfl (lv_at hl 3 rfl) ?_
  refine lv_iconst (v := (2 : Int32)) C.1 C.2.1 dL_law_695 (by decide) ?_
  refine lv_iadd C.1 C.2.1 dL_law_696 ?_
  refine r_topi (y := nI (i + 2)) (nI_add i 2).symm ?_
  refine va_sld C.1 C.2.1 hX hbl hbA hw.2 (i := nI (i + 2)) (vp_in_nI (by omega) (by omega)) dL_law_697 ?_
  refine r_topi (y := xs (i + 2)) (by rw [nI_clamp (by omega)]) ?_
  refine r_afti hw (r_runV (As := [.int (xs (i + 1)), .int (xs (i + 2))]) (rest := [.int r]) C hw (ki := 11) hsh.2 (by decide) rfl (kX12_found l n0 D Y N 17 (xs (i + 1)) (xs (i + 2)) z h2) (cwV 2 C.2.2.2.2.2.1 gL_law_X12_found rfl rfl rfl (by decide +kernel) ⟨(Nat.le_of_ble_eq_true rfl), (Nat.le_of_ble_eq_true rfl)⟩) rfl hl.1 rfl (Nat.le_of_ble_eq_true rfl) dL_law_698 ⟨by show _ ≤ 600000; omega, by show _ ≤ 7302250; omega⟩) (fun H locs hw => ?_)
  refine lv_icmp_eq (tgt := 920) C.1 C.2.1 dL_law_701 (by decide) (fun _ => ?_) (fun q => absurd rfl q)
  exact K z _ _ _ _ _ (by omega) (by omega) hI hw hl
set_option maxHeartbeats 4000000 in
set_option maxRecDepth 100000 in
theorem law_18 {n0 : Nat} {D : va_G} {Y : Nat → ClassId} {p : Program} {l : Launch} {e : Env} {s : State} {m : MethodId} {below : List Frame} {meth : Method} {c : Code} {b L : Nat} {xs : Nat → Int32} {N : Nat} {Inv : Hp → Prop} (hL : L ≤ 3072) (C : Cx n0 D Y RL code ret 4 wsL_law meth.name p s m #[Value.ref b] meth c) (hn0 : n0 = s.heap.size) (hX : va_X b L xs s s.heap) (hbl : b < s.heap.size) (hO : Ops N Inv) {n i : Nat} (hi : i + 6 ≤ L) (K : (∀ (z : Hp) (cells slots : Nat) (H : Heap) (locs : List Loc) (ls : Array Slot), cells + 4 * n ≤ 600000 → slots + 26 * n ≤ 7302250 → Inv z → Wd n0 D Y z s H locs → lv_has ls 4 [(0, .ref b), (1, .ref (n0 + 0)), (2, .ref (n0 + 17)), (3, .int (nI i))] → W p l e room_1 s m #[Value.ref b] below meth c H locs cells slots (lw_Z below #[Value.ref b] s) (F0 m 920 ls []))) {z : Hp} {cells slots : Nat} {H : Heap} {locs : List Loc} {ls : Array Slot} (hc : cells + 4 * (n + 1) ≤ 600000) (hs : slots + 26 * (n + 1) ≤ 7302250) (hI : Inv z) (hw : Wd n0 D Y z s H locs) (hl : lv_has ls 4 [(0, .ref b), (1, .ref (n0 + 0)), (2, .ref (n0 + 17)), (3, .int (nI i))]) : W p l e room_1 s m #[Value.ref b] below meth c H locs cells slots (lw_Z below #[Value.ref b] s) (F0 m 706 ls []) := by
  have hbA : ¬ AA n0 b := by unfold AA; rw [hn0]; exact Nat.not_le.mpr hbl
  have hsh := hO.2.2.2.2.2.2.2.2.2.2.2.2.2.2.2.2.2.2.2.2.2.2.2.2.2.2 z hI
  obtain ⟨r, h1, h2⟩ := hO.2.2.2.2.2.2.2.2.2.2.2.2.2.2.2.2.2.2.1 z (xs (i + 1)) (xs (i + 2)) hI
  refine lv_aload_n C.1 C.2.1 dL_law_706 rfl (lv_at hl 1 rfl) ?_
  refine lv_aload_n C.1 C.2.1 dL_law_707 rfl (lv_at hl 0 rfl) ?_
  refine lv_iload_n C.1 C.2.1 dL_law_708 rfl (lv_at hl 3 rfl) ?_
  refine lv_iconst (v := (1 : Int32)) C.1 C.2.1 dL_law_709 (by decide) ?_
  refine lv_iadd C.1 C.2.1 dL_law_710 ?_
  refine r_topi (y := nI (i + 1)) (nI_add i 1).symm ?_
  refine va_sld C.1 C.2.1 hX hbl hbA hw.2 (i := nI (i + 1)) (vp_in_nI (by omega) (by omega)) dL_law_711 ?_
  refine r_topi (y := xs (i + 1)) (by rw [nI_clamp (by omega)]) ?_
  refine lv_aload_n C.1 C.2.1 dL_law_712 rfl (lv_at hl 0 rfl) ?_
  refine lv_iload_n C.1 C.2.1 dL_law_713 rfl (lv_at hl 3 rfl) ?_
  refine lv_iconst (v := (2 : Int32)) C.1 C.2.1 dL_law_714 (by decide) ?_
  refine lv_iadd C.1 C.2.1 dL_law_715 ?_
  refine r_topi (y := nI (i + 2)) (nI_add i 2).symm ?_
  refine va_sld C.1 C.2.1 hX hbl hbA hw.2 (i := nI (i + 2)) (vp_in_nI (by omega) (by omega)) dL_law_716 ?_
  refine r_topi (y := xs (i + 2)) (by rw [nI_clamp (by omega)]) ?_
  refine r_afti hw (r_runV (As := [.int (xs (i + 1)), .int (xs (i + 2))]) (rest := []) C hw (ki := 10) hsh.1 (by decide) rfl (kX11_about l n0 D Y N 0 (xs (i + 1)) (xs (i + 2)) z h1) (cwV 2 C.2.2.2.2.2.1 gL_law_X11_about rfl rfl rfl (by decide +kernel) ⟨(Nat.le_of_ble_eq_true rfl), (Nat.le_of_ble_eq_true rfl)⟩) rfl hl.1 rfl (Nat.le_of_ble_eq_true rfl) dL_law_717 ⟨by show _ ≤ 600000; omega, by show _ ≤ 7302250; omega⟩) (fun H locs hw => ?_)
  refine lv_aload_n C.1 C.2.1 dL_law_720 rfl (lv_at hl 2 rfl) ?_
  refine lv_aload_n C.1 C.2.1 dL_law_721 rfl (lv_at hl 0 rfl) ?_
  refine lv_iload_n C.1 C.2.1 dL_law_722 rfl (lv_at hl 3 rfl) ?_
  refine lv_iconst (v := (1 : Int32)) C.1 C.2.1 dL_law_723 (by decide) ?_
  refine lv_iadd C.1 C.2.1 dL_law_724 ?_
  refine r_topi (y := nI (i + 1)) (nI_add i 1).symm ?_
  refine va_sld C.1 C.2.1 hX hbl hbA hw.2 (i := nI (i + 1)) (vp_in_nI (by omega) (by omega)) dL_law_725 ?_
  refine r_topi (y := xs (i + 1)) (by rw [nI_clamp (by omega)]) ?_
  refine lv_aload_n C.1 C.2.1 dL_law_726 rfl (lv_at hl 0 rfl) ?_
  refine lv_iload_n C.1 C.2.1 dL_law_727 rfl (lv_at hl 3 rfl) ?_
  refine lv_iconst (v := (2 : Int32)) C.1 C.2.1 dL_law_728 (by decide) ?_
  refine lv_iadd C.1 C.2.1 dL_law_729 ?_
  refine r_topi (y := nI (i + 2)) (nI_add i 2).symm ?_
  refine va_sld C.1 C.2.1 hX hbl hbA hw.2 (i := nI (i + 2)) (vp_in_nI (by omega) (by omega)) dL_law_730 ?_
  refine r_topi (y := xs (i + 2)) (by rw [nI_clamp (by omega)]) ?_
  refine r_afti hw (r_runV (As := [.int (xs (i + 1)), .int (xs (i + 2))]) (rest := [.int r]) C hw (ki := 11) hsh.2 (by decide) rfl (kX12_about l n0 D Y N 17 (xs (i + 1)) (xs (i + 2)) z h2) (cwV 2 C.2.2.2.2.2.1 gL_law_X12_about rfl rfl rfl (by decide +kernel) ⟨(Nat.le_of_ble_eq_true rfl), (Nat.le_of_ble_eq_true rfl)⟩) rfl hl.1 rfl (Nat.le_of_ble_eq_true rfl) dL_law_731 ⟨by show _ ≤ 600000; omega, by show _ ≤ 7302250; omega⟩) (fun H locs hw => ?_)
  refine lv_icmp_eq (tgt := 920) C.1 C.2.1 dL_law_734 (by decide) (fun _ => ?_) (fun q => absurd rfl q)
  exact K z _ _ _ _ _ (by omega) (by omega) hI hw hl
set_option maxHeartbeats 4000000 in
set_option maxRecDepth 100000 in
theorem law_19 {n0 : Nat} {D : va_G} {Y : Nat → ClassId} {p : Program} {l : Launch} {e : Env} {s : State} {m : MethodId} {below : List Frame} {meth : Method} {c : Code} {b L : Nat} {xs : Nat → Int32} {N : Nat} {Inv : Hp → Prop} (hL : L ≤ 3072) (C : Cx n0 D Y RL code ret 4 wsL_law meth.name p s m #[Value.ref b] meth c) (hn0 : n0 = s.heap.size) (hX : va_X b L xs s s.heap) (hbl : b < s.heap.size) (hO : Ops N Inv) {n i : Nat} (hi : i + 6 ≤ L) (K : (∀ (z : Hp) (cells slots : Nat) (H : Heap) (locs : List Loc) (ls : Array Slot), cells + 4 * n ≤ 600000 → slots + 26 * n ≤ 7302250 → Inv z → Wd n0 D Y z s H locs → lv_has ls 4 [(0, .ref b), (1, .ref (n0 + 0)), (2, .ref (n0 + 17)), (3, .int (nI i))] → W p l e room_1 s m #[Value.ref b] below meth c H locs cells slots (lw_Z below #[Value.ref b] s) (F0 m 920 ls []))) {z : Hp} {cells slots : Nat} {H : Heap} {locs : List Loc} {ls : Array Slot} (hc : cells + 4 * (n + 1) ≤ 600000) (hs : slots + 26 * (n + 1) ≤ 7302250) (hI : Inv z) (hw : Wd n0 D Y z s H locs) (hl : lv_has ls 4 [(0, .ref b), (1, .ref (n0 + 0)), (2, .ref (n0 + 17)), (3, .int (nI i))]) : W p l e room_1 s m #[Value.ref b] below meth c H locs cells slots (lw_Z below #[Value.ref b] s) (F0 m 739 ls []) := by
  have hbA : ¬ AA n0 b := by unfold AA; rw [hn0]; exact Nat.not_le.mpr hbl
  have hsh := hO.2.2.2.2.2.2.2.2.2.2.2.2.2.2.2.2.2.2.2.2.2.2.2.2.2.2 z hI
  obtain ⟨r, z1, z2, h1, hg, h2, hI2⟩ := hO.2.2.2.2.2.2.2.2.2.2.2.2.2.2.2.2.2.2.2.1 z (xs (i + 1)) hI
  refine lv_aload_n C.1 C.2.1 dL_law_739 rfl (lv_at hl 1 rfl) ?_
  refine lv_aload_n C.1 C.2.1 dL_law_740 rfl (lv_at hl 0 rfl) ?_
  refine lv_iload_n C.1 C.2.1 dL_law_741 rfl (lv_at hl 3 rfl) ?_
  refine lv_iconst (v := (1 : Int32)) C.1 C.2.1 dL_law_742 (by decide) ?_
  refine lv_iadd C.1 C.2.1 dL_law_743 ?_
  refine r_topi (y := nI (i + 1)) (nI_add i 1).symm ?_
  refine va_sld C.1 C.2.1 hX hbl hbA hw.2 (i := nI (i + 1)) (vp_in_nI (by omega) (by omega)) dL_law_744 ?_
  refine r_topi (y := xs (i + 1)) (by rw [nI_clamp (by omega)]) ?_
  refine r_afti hw (r_runV (As := [.int (xs (i + 1))]) (rest := []) C hw (ki := 10) hsh.1 (by decide) rfl (kX11_store l n0 D Y N 0 (xs (i + 1)) z h1) (cwV 1 C.2.2.2.2.2.1 gL_law_X11_store rfl rfl rfl (by decide +kernel) ⟨(Nat.le_of_ble_eq_true rfl), (Nat.le_of_ble_eq_true rfl)⟩) rfl hl.1 rfl (Nat.le_of_ble_eq_true rfl) dL_law_745 ⟨by show _ ≤ 600000; omega, by show _ ≤ 7302250; omega⟩) (fun H locs hw => ?_)
  refine lv_aload_n C.1 C.2.1 dL_law_748 rfl (lv_at hl 2 rfl) ?_
  refine lv_aload_n C.1 C.2.1 dL_law_749 rfl (lv_at hl 0 rfl) ?_
  refine lv_iload_n C.1 C.2.1 dL_law_750 rfl (lv_at hl 3 rfl) ?_
  refine lv_iconst (v := (1 : Int32)) C.1 C.2.1 dL_law_751 (by decide) ?_
  refine lv_iadd C.1 C.2.1 dL_law_752 ?_
  refine r_topi (y := nI (i + 1)) (nI_add i 1).symm ?_
  refine va_sld C.1 C.2.1 hX hbl hbA hw.2 (i := nI (i + 1)) (vp_in_nI (by omega) (by omega)) dL_law_753 ?_
  refine r_topi (y := xs (i + 1)) (by rw [nI_clamp (by omega)]) ?_
  refine r_afti hw (r_runV (As := [.int (xs (i + 1))]) (rest := [.int r]) C hw (ki := 11) hg (by decide) rfl (kX12_store l n0 D Y N 17 (xs (i + 1)) z1 h2) (cwV 1 C.2.2.2.2.2.1 gL_law_X12_store rfl rfl rfl (by decide +kernel) ⟨(Nat.le_of_ble_eq_true rfl), (Nat.le_of_ble_eq_true rfl)⟩) rfl hl.1 rfl (Nat.le_of_ble_eq_true rfl) dL_law_754 ⟨by show _ ≤ 600000; omega, by show _ ≤ 7302250; omega⟩) (fun H locs hw => ?_)
  refine lv_icmp_eq (tgt := 920) C.1 C.2.1 dL_law_757 (by decide) (fun _ => ?_) (fun q => absurd rfl q)
  exact K z2 _ _ _ _ _ (by omega) (by omega) hI2 hw hl
set_option maxHeartbeats 4000000 in
set_option maxRecDepth 100000 in
theorem law_20 {n0 : Nat} {D : va_G} {Y : Nat → ClassId} {p : Program} {l : Launch} {e : Env} {s : State} {m : MethodId} {below : List Frame} {meth : Method} {c : Code} {b L : Nat} {xs : Nat → Int32} {N : Nat} {Inv : Hp → Prop} (hL : L ≤ 3072) (C : Cx n0 D Y RL code ret 4 wsL_law meth.name p s m #[Value.ref b] meth c) (hn0 : n0 = s.heap.size) (hX : va_X b L xs s s.heap) (hbl : b < s.heap.size) (hO : Ops N Inv) {n i : Nat} (hi : i + 6 ≤ L) (K : (∀ (z : Hp) (cells slots : Nat) (H : Heap) (locs : List Loc) (ls : Array Slot), cells + 4 * n ≤ 600000 → slots + 26 * n ≤ 7302250 → Inv z → Wd n0 D Y z s H locs → lv_has ls 4 [(0, .ref b), (1, .ref (n0 + 0)), (2, .ref (n0 + 17)), (3, .int (nI i))] → W p l e room_1 s m #[Value.ref b] below meth c H locs cells slots (lw_Z below #[Value.ref b] s) (F0 m 920 ls []))) {z : Hp} {cells slots : Nat} {H : Heap} {locs : List Loc} {ls : Array Slot} (hc : cells + 4 * (n + 1) ≤ 600000) (hs : slots + 26 * (n + 1) ≤ 7302250) (hI : Inv z) (hw : Wd n0 D Y z s H locs) (hl : lv_has ls 4 [(0, .ref b), (1, .ref (n0 + 0)), (2, .ref (n0 + 17)), (3, .int (nI i))]) : W p l e room_1 s m #[Value.ref b] below meth c H locs cells slots (lw_Z below #[Value.ref b] s) (F0 m 762 ls []) := by
  have hbA : ¬ AA n0 b := by unfold AA; rw [hn0]; exact Nat.not_le.mpr hbl
  have hsh := hO.2.2.2.2.2.2.2.2.2.2.2.2.2.2.2.2.2.2.2.2.2.2.2.2.2.2 z hI
  obtain ⟨r, z1, z2, h1, hg, h2, hI2⟩ := hO.2.2.2.2.2.2.2.2.2.2.2.2.2.2.2.2.2.2.2.2.1 z (xs (i + 1)) (xs (i + 2)) hI
  refine lv_aload_n C.1 C.2.1 dL_law_762 rfl (lv_at hl 1 rfl) ?_
  refine lv_aload_n C.1 C.2.1 dL_law_763 rfl (lv_at hl 0 rfl) ?_
  refine lv_iload_n C.1 C.2.1 dL_law_764 rfl (lv_at hl 3 rfl) ?_
  refine lv_iconst (v := (1 : Int32)) C.1 C.2.1 dL_law_765 (by decide) ?_
  refine lv_iadd C.1 C.2.1 dL_law_766 ?_
  refine r_topi (y := nI (i + 1)) (nI_add i 1).symm ?_
  refine va_sld C.1 C.2.1 hX hbl hbA hw.2 (i := nI (i + 1)) (vp_in_nI (by omega) (by omega)) dL_law_767 ?_
  refine r_topi (y := xs (i + 1)) (by rw [nI_clamp (by omega)]) ?_
  refine lv_aload_n C.1 C.2.1 dL_law_768 rfl (lv_at hl 0 rfl) ?_
  refine lv_iload_n C.1 C.2.1 dL_law_769 rfl (lv_at hl 3 rfl) ?_
  refine lv_iconst (v := (2 : Int32)) C.1 C.2.1 dL_law_770 (by decide) ?_
  refine lv_iadd C.1 C.2.1 dL_law_771 ?_
  refine r_topi (y := nI (i + 2)) (nI_add i 2).symm ?_
  refine va_sld C.1 C.2.1 hX hbl hbA hw.2 (i := nI (i + 2)) (vp_in_nI (by omega) (by omega)) dL_law_772 ?_
  refine r_topi (y := xs (i + 2)) (by rw [nI_clamp (by omega)]) ?_
  refine r_afti hw (r_runV (As := [.int (xs (i + 1)), .int (xs (i + 2))]) (rest := []) C hw (ki := 10) hsh.1 (by decide) rfl (kX11_mouths l n0 D Y N 0 (xs (i + 1)) (xs (i + 2)) z h1) (cwV 2 C.2.2.2.2.2.1 gL_law_X11_mouths rfl rfl rfl (by decide +kernel) ⟨(Nat.le_of_ble_eq_true rfl), (Nat.le_of_ble_eq_true rfl)⟩) rfl hl.1 rfl (Nat.le_of_ble_eq_true rfl) dL_law_773 ⟨by show _ ≤ 600000; omega, by show _ ≤ 7302250; omega⟩) (fun H locs hw => ?_)
  refine lv_aload_n C.1 C.2.1 dL_law_776 rfl (lv_at hl 2 rfl) ?_
  refine lv_aload_n C.1 C.2.1 dL_law_777 rfl (lv_at hl 0 rfl) ?_
  refine lv_iload_n C.1 C.2.1 dL_law_778 rfl (lv_at hl 3 rfl) ?_
  refine lv_iconst (v := (1 : Int32)) C.1 C.2.1 dL_law_779 (by decide) ?_
  refine lv_iadd C.1 C.2.1 dL_law_780 ?_
  refine r_topi (y := nI (i + 1)) (nI_add i 1).symm ?_
  refine va_sld C.1 C.2.1 hX hbl hbA hw.2 (i := nI (i + 1)) (vp_in_nI (by omega) (by omega)) dL_law_781 ?_
  refine r_topi (y := xs (i + 1)) (by rw [nI_clamp (by omega)]) ?_
  refine lv_aload_n C.1 C.2.1 dL_law_782 rfl (lv_at hl 0 rfl) ?_
  refine lv_iload_n C.1 C.2.1 dL_law_783 rfl (lv_at hl 3 rfl) ?_
  refine lv_iconst (v := (2 : Int32)) C.1 C.2.1 dL_law_784 (by decide) ?_
  refine lv_iadd C.1 C.2.1 dL_law_785 ?_
  refine r_topi (y := nI (i + 2)) (nI_add i 2).symm ?_
  refine va_sld C.1 C.2.1 hX hbl hbA hw.2 (i := nI (i + 2)) (vp_in_nI (by omega) (by omega)) dL_law_786 ?_
  refine r_topi (y := xs (i + 2)) (by rw [nI_clamp (by omega)]) ?_
  refine r_afti hw (r_runV (As := [.int (xs (i + 1)), .int (xs (i + 2))]) (rest := [.int r]) C hw (ki := 11) hg (by decide) rfl (kX12_mouths l n0 D Y N 17 (xs (i + 1)) (xs (i + 2)) z1 h2) (cwV 2 C.2.2.2.2.2.1 gL_law_X12_mouths rfl rfl rfl (by decide +kernel) ⟨(Nat.le_of_ble_eq_true rfl), (Nat.le_of_ble_eq_true rfl)⟩) rfl hl.1 rfl (Nat.le_of_ble_eq_true rfl) dL_law_787 ⟨by show _ ≤ 600000; omega, by show _ ≤ 7302250; omega⟩) (fun H locs hw => ?_)
  refine lv_icmp_eq (tgt := 920) C.1 C.2.1 dL_law_790 (by decide) (fun _ => ?_) (fun q => absurd rfl q)
  exact K z2 _ _ _ _ _ (by omega) (by omega) hI2 hw hl
set_option maxHeartbeats 4000000 in
set_option maxRecDepth 100000 in
theorem law_21 {n0 : Nat} {D : va_G} {Y : Nat → ClassId} {p : Program} {l : Launch} {e : Env} {s : State} {m : MethodId} {below : List Frame} {meth : Method} {c : Code} {b L : Nat} {xs : Nat → Int32} {N : Nat} {Inv : Hp → Prop} (hL : L ≤ 3072) (C : Cx n0 D Y RL code ret 4 wsL_law meth.name p s m #[Value.ref b] meth c) (hn0 : n0 = s.heap.size) (hX : va_X b L xs s s.heap) (hbl : b < s.heap.size) (hO : Ops N Inv) {n i : Nat} (hi : i + 6 ≤ L) (K : (∀ (z : Hp) (cells slots : Nat) (H : Heap) (locs : List Loc) (ls : Array Slot), cells + 4 * n ≤ 600000 → slots + 26 * n ≤ 7302250 → Inv z → Wd n0 D Y z s H locs → lv_has ls 4 [(0, .ref b), (1, .ref (n0 + 0)), (2, .ref (n0 + 17)), (3, .int (nI i))] → W p l e room_1 s m #[Value.ref b] below meth c H locs cells slots (lw_Z below #[Value.ref b] s) (F0 m 920 ls []))) {z : Hp} {cells slots : Nat} {H : Heap} {locs : List Loc} {ls : Array Slot} (hc : cells + 4 * (n + 1) ≤ 600000) (hs : slots + 26 * (n + 1) ≤ 7302250) (hI : Inv z) (hw : Wd n0 D Y z s H locs) (hl : lv_has ls 4 [(0, .ref b), (1, .ref (n0 + 0)), (2, .ref (n0 + 17)), (3, .int (nI i))]) : W p l e room_1 s m #[Value.ref b] below meth c H locs cells slots (lw_Z below #[Value.ref b] s) (F0 m 795 ls []) := by
  have hbA : ¬ AA n0 b := by unfold AA; rw [hn0]; exact Nat.not_le.mpr hbl
  have hsh := hO.2.2.2.2.2.2.2.2.2.2.2.2.2.2.2.2.2.2.2.2.2.2.2.2.2.2 z hI
  obtain ⟨r, z1, z2, h1, hg, h2, hI2⟩ := hO.2.2.2.2.2.2.2.2.2.2.2.2.2.2.2.2.2.2.2.2.2.1 z (xs (i + 1)) hI
  refine lv_aload_n C.1 C.2.1 dL_law_795 rfl (lv_at hl 1 rfl) ?_
  refine lv_aload_n C.1 C.2.1 dL_law_796 rfl (lv_at hl 0 rfl) ?_
  refine lv_iload_n C.1 C.2.1 dL_law_797 rfl (lv_at hl 3 rfl) ?_
  refine lv_iconst (v := (1 : Int32)) C.1 C.2.1 dL_law_798 (by decide) ?_
  refine lv_iadd C.1 C.2.1 dL_law_799 ?_
  refine r_topi (y := nI (i + 1)) (nI_add i 1).symm ?_
  refine va_sld C.1 C.2.1 hX hbl hbA hw.2 (i := nI (i + 1)) (vp_in_nI (by omega) (by omega)) dL_law_800 ?_
  refine r_topi (y := xs (i + 1)) (by rw [nI_clamp (by omega)]) ?_
  refine r_afti hw (r_runV (As := [.int (xs (i + 1))]) (rest := []) C hw (ki := 10) hsh.1 (by decide) rfl (kX11_ration l n0 D Y N 0 (xs (i + 1)) z h1) (cwV 1 C.2.2.2.2.2.1 gL_law_X11_ration rfl rfl rfl (by decide +kernel) ⟨(Nat.le_of_ble_eq_true rfl), (Nat.le_of_ble_eq_true rfl)⟩) rfl hl.1 rfl (Nat.le_of_ble_eq_true rfl) dL_law_801 ⟨by show _ ≤ 600000; omega, by show _ ≤ 7302250; omega⟩) (fun H locs hw => ?_)
  refine lv_aload_n C.1 C.2.1 dL_law_804 rfl (lv_at hl 2 rfl) ?_
  refine lv_aload_n C.1 C.2.1 dL_law_805 rfl (lv_at hl 0 rfl) ?_
  refine lv_iload_n C.1 C.2.1 dL_law_806 rfl (lv_at hl 3 rfl) ?_
  refine lv_iconst (v := (1 : Int32)) C.1 C.2.1 dL_law_807 (by decide) ?_
  refine lv_iadd C.1 C.2.1 dL_law_808 ?_
  refine r_topi (y := nI (i + 1)) (nI_add i 1).symm ?_
  refine va_sld C.1 C.2.1 hX hbl hbA hw.2 (i := nI (i + 1)) (vp_in_nI (by omega) (by omega)) dL_law_809 ?_
  refine r_topi (y := xs (i + 1)) (by rw [nI_clamp (by omega)]) ?_
  refine r_afti hw (r_runV (As := [.int (xs (i + 1))]) (rest := [.int r]) C hw (ki := 11) hg (by decide) rfl (kX12_ration l n0 D Y N 17 (xs (i + 1)) z1 h2) (cwV 1 C.2.2.2.2.2.1 gL_law_X12_ration rfl rfl rfl (by decide +kernel) ⟨(Nat.le_of_ble_eq_true rfl), (Nat.le_of_ble_eq_true rfl)⟩) rfl hl.1 rfl (Nat.le_of_ble_eq_true rfl) dL_law_810 ⟨by show _ ≤ 600000; omega, by show _ ≤ 7302250; omega⟩) (fun H locs hw => ?_)
  refine lv_icmp_eq (tgt := 920) C.1 C.2.1 dL_law_813 (by decide) (fun _ => ?_) (fun q => absurd rfl q)
  exact K z2 _ _ _ _ _ (by omega) (by omega) hI2 hw hl
set_option maxHeartbeats 4000000 in
set_option maxRecDepth 100000 in
theorem law_22 {n0 : Nat} {D : va_G} {Y : Nat → ClassId} {p : Program} {l : Launch} {e : Env} {s : State} {m : MethodId} {below : List Frame} {meth : Method} {c : Code} {b L : Nat} {xs : Nat → Int32} {N : Nat} {Inv : Hp → Prop} (hL : L ≤ 3072) (C : Cx n0 D Y RL code ret 4 wsL_law meth.name p s m #[Value.ref b] meth c) (hn0 : n0 = s.heap.size) (hX : va_X b L xs s s.heap) (hbl : b < s.heap.size) (hO : Ops N Inv) {n i : Nat} (hi : i + 6 ≤ L) (K : (∀ (z : Hp) (cells slots : Nat) (H : Heap) (locs : List Loc) (ls : Array Slot), cells + 4 * n ≤ 600000 → slots + 26 * n ≤ 7302250 → Inv z → Wd n0 D Y z s H locs → lv_has ls 4 [(0, .ref b), (1, .ref (n0 + 0)), (2, .ref (n0 + 17)), (3, .int (nI i))] → W p l e room_1 s m #[Value.ref b] below meth c H locs cells slots (lw_Z below #[Value.ref b] s) (F0 m 920 ls []))) {z : Hp} {cells slots : Nat} {H : Heap} {locs : List Loc} {ls : Array Slot} (hc : cells + 4 * (n + 1) ≤ 600000) (hs : slots + 26 * (n + 1) ≤ 7302250) (hI : Inv z) (hw : Wd n0 D Y z s H locs) (hl : lv_has ls 4 [(0, .ref b), (1, .ref (n0 + 0)), (2, .ref (n0 + 17)), (3, .int (nI i))]) : W p l e room_1 s m #[Value.ref b] below meth c H locs cells slots (lw_Z below #[Value.ref b] s) (F0 m 818 ls []) := by
  have hbA : ¬ AA n0 b := by unfold AA; rw [hn0]; exact Nat.not_le.mpr hbl
  have hsh := hO.2.2.2.2.2.2.2.2.2.2.2.2.2.2.2.2.2.2.2.2.2.2.2.2.2.2 z hI
  obtain ⟨r, z1, z2, h1, hg, h2, hI2⟩ := hO.2.2.2.2.2.2.2.2.2.2.2.2.2.2.2.2.2.2.2.2.2.2.1 z (xs (i + 1)) (xs (i + 2)) hI
  refine lv_aload_n C.1 C.2.1 dL_law_818 rfl (lv_at hl 1 rfl) ?_
  refine lv_aload_n C.1 C.2.1 dL_law_819 rfl (lv_at hl 0 rfl) ?_
  refine lv_iload_n C.1 C.2.1 dL_law_820 rfl (lv_at hl 3 rfl) ?_
  refine lv_iconst (v := (1 : Int32)) C.1 C.2.1 dL_law_821 (by decide) ?_
  refine lv_iadd C.1 C.2.1 dL_law_822 ?_
  refine r_topi (y := nI (i + 1)) (nI_add i 1).symm ?_
  refine va_sld C.1 C.2.1 hX hbl hbA hw.2 (i := nI (i + 1)) (vp_in_nI (by omega) (by omega)) dL_law_823 ?_
  refine r_topi (y := xs (i + 1)) (by rw [nI_clamp (by omega)]) ?_
  refine lv_aload_n C.1 C.2.1 dL_law_824 rfl (lv_at hl 0 rfl) ?_
  refine lv_iload_n C.1 C.2.1 dL_law_825 rfl (lv_at hl 3 rfl) ?_
  refine lv_iconst (v := (2 : Int32)) C.1 C.2.1 dL_law_826 (by decide) ?_
  refine lv_iadd C.1 C.2.1 dL_law_827 ?_
  refine r_topi (y := nI (i + 2)) (nI_add i 2).symm ?_
  refine va_sld C.1 C.2.1 hX hbl hbA hw.2 (i := nI (i + 2)) (vp_in_nI (by omega) (by omega)) dL_law_828 ?_
  refine r_topi (y := xs (i + 2)) (by rw [nI_clamp (by omega)]) ?_
  refine r_afti hw (r_runV (As := [.int (xs (i + 1)), .int (xs (i + 2))]) (rest := []) C hw (ki := 10) hsh.1 (by decide) rfl (kX11_harvest l n0 D Y N 0 (xs (i + 1)) (xs (i + 2)) z h1) (cwV 2 C.2.2.2.2.2.1 gL_law_X11_harvest rfl rfl rfl (by decide +kernel) ⟨(Nat.le_of_ble_eq_true rfl), (Nat.le_of_ble_eq_true rfl)⟩) rfl hl.1 rfl (Nat.le_of_ble_eq_true rfl) dL_law_829 ⟨by show _ ≤ 600000; omega, by show _ ≤ 7302250; omega⟩) (fun H locs hw => ?_)
  refine lv_aload_n C.1 C.2.1 dL_law_832 rfl (lv_at hl 2 rfl) ?_
  refine lv_aload_n C.1 C.2.1 dL_law_833 rfl (lv_at hl 0 rfl) ?_
  refine lv_iload_n C.1 C.2.1 dL_law_834 rfl (lv_at hl 3 rfl) ?_
  refine lv_iconst (v := (1 : Int32)) C.1 C.2.1 dL_law_835 (by decide) ?_
  refine lv_iadd C.1 C.2.1 dL_law_836 ?_
  refine r_topi (y := nI (i + 1)) (nI_add i 1).symm ?_
  refine va_sld C.1 C.2.1 hX hbl hbA hw.2 (i := nI (i + 1)) (vp_in_nI (by omega) (by omega)) dL_law_837 ?_
  refine r_topi (y := xs (i + 1)) (by rw [nI_clamp (by omega)]) ?_
  refine lv_aload_n C.1 C.2.1 dL_law_838 rfl (lv_at hl 0 rfl) ?_
  refine lv_iload_n C.1 C.2.1 dL_law_839 rfl (lv_at hl 3 rfl) ?_
  refine lv_iconst (v := (2 : Int32)) C.1 C.2.1 dL_law_840 (by decide) ?_
  refine lv_iadd C.1 C.2.1 dL_law_841 ?_
  refine r_topi (y := nI (i + 2)) (nI_add i 2).symm ?_
  refine va_sld C.1 C.2.1 hX hbl hbA hw.2 (i := nI (i + 2)) (vp_in_nI (by omega) (by omega)) dL_law_842 ?_
  refine r_topi (y := xs (i + 2)) (by rw [nI_clamp (by omega)]) ?_
  refine r_afti hw (r_runV (As := [.int (xs (i + 1)), .int (xs (i + 2))]) (rest := [.int r]) C hw (ki := 11) hg (by decide) rfl (kX12_harvest l n0 D Y N 17 (xs (i + 1)) (xs (i + 2)) z1 h2) (cwV 2 C.2.2.2.2.2.1 gL_law_X12_harvest rfl rfl rfl (by decide +kernel) ⟨(Nat.le_of_ble_eq_true rfl), (Nat.le_of_ble_eq_true rfl)⟩) rfl hl.1 rfl (Nat.le_of_ble_eq_true rfl) dL_law_843 ⟨by show _ ≤ 600000; omega, by show _ ≤ 7302250; omega⟩) (fun H locs hw => ?_)
  refine lv_icmp_eq (tgt := 920) C.1 C.2.1 dL_law_846 (by decide) (fun _ => ?_) (fun q => absurd rfl q)
  exact K z2 _ _ _ _ _ (by omega) (by omega) hI2 hw hl
set_option maxHeartbeats 4000000 in
set_option maxRecDepth 100000 in
theorem law_23 {n0 : Nat} {D : va_G} {Y : Nat → ClassId} {p : Program} {l : Launch} {e : Env} {s : State} {m : MethodId} {below : List Frame} {meth : Method} {c : Code} {b L : Nat} {xs : Nat → Int32} {N : Nat} {Inv : Hp → Prop} (hL : L ≤ 3072) (C : Cx n0 D Y RL code ret 4 wsL_law meth.name p s m #[Value.ref b] meth c) (hn0 : n0 = s.heap.size) (hX : va_X b L xs s s.heap) (hbl : b < s.heap.size) (hO : Ops N Inv) {n i : Nat} (hi : i + 6 ≤ L) (K : (∀ (z : Hp) (cells slots : Nat) (H : Heap) (locs : List Loc) (ls : Array Slot), cells + 4 * n ≤ 600000 → slots + 26 * n ≤ 7302250 → Inv z → Wd n0 D Y z s H locs → lv_has ls 4 [(0, .ref b), (1, .ref (n0 + 0)), (2, .ref (n0 + 17)), (3, .int (nI i))] → W p l e room_1 s m #[Value.ref b] below meth c H locs cells slots (lw_Z below #[Value.ref b] s) (F0 m 920 ls []))) {z : Hp} {cells slots : Nat} {H : Heap} {locs : List Loc} {ls : Array Slot} (hc : cells + 4 * (n + 1) ≤ 600000) (hs : slots + 26 * (n + 1) ≤ 7302250) (hI : Inv z) (hw : Wd n0 D Y z s H locs) (hl : lv_has ls 4 [(0, .ref b), (1, .ref (n0 + 0)), (2, .ref (n0 + 17)), (3, .int (nI i))]) : W p l e room_1 s m #[Value.ref b] below meth c H locs cells slots (lw_Z below #[Value.ref b] s) (F0 m 851 ls []) := by
  have hbA : ¬ AA n0 b := by unfold AA; rw [hn0]; exact Nat.not_le.mpr hbl
  have hsh := hO.2.2.2.2.2.2.2.2.2.2.2.2.2.2.2.2.2.2.2.2.2.2.2.2.2.2 z hI
  obtain ⟨r, h1, h2⟩ := hO.2.2.2.2.2.2.2.2.2.2.2.2.2.2.2.2.2.2.2.2.2.2.2.1 z (xs (i + 1)) hI
  refine lv_aload_n C.1 C.2.1 dL_law_851 rfl (lv_at hl 1 rfl) ?_
  refine lv_aload_n C.1 C.2.1 dL_law_852 rfl (lv_at hl 0 rfl) ?_
  refine lv_iload_n C.1 C.2.1 dL_law_853 rfl (lv_at hl 3 rfl) ?_
  refine lv_iconst (v := (1 : Int32)) C.1 C.2.1 dL_law_854 (by decide) ?_
  refine lv_iadd C.1 C.2.1 dL_law_855 ?_
  refine r_topi (y := nI (i + 1)) (nI_add i 1).symm ?_
  refine va_sld C.1 C.2.1 hX hbl hbA hw.2 (i := nI (i + 1)) (vp_in_nI (by omega) (by omega)) dL_law_856 ?_
  refine r_topi (y := xs (i + 1)) (by rw [nI_clamp (by omega)]) ?_
  refine r_afti hw (r_runV (As := [.int (xs (i + 1))]) (rest := []) C hw (ki := 10) hsh.1 (by decide) rfl (kX11_foretell l n0 D Y N 0 (xs (i + 1)) z h1) (cwV 1 C.2.2.2.2.2.1 gL_law_X11_foretell rfl rfl rfl (by decide +kernel) ⟨(Nat.le_of_ble_eq_true rfl), (Nat.le_of_ble_eq_true rfl)⟩) rfl hl.1 rfl (Nat.le_of_ble_eq_true rfl) dL_law_857 ⟨by show _ ≤ 600000; omega, by show _ ≤ 7302250; omega⟩) (fun H locs hw => ?_)
  refine lv_aload_n C.1 C.2.1 dL_law_860 rfl (lv_at hl 2 rfl) ?_
  refine lv_aload_n C.1 C.2.1 dL_law_861 rfl (lv_at hl 0 rfl) ?_
  refine lv_iload_n C.1 C.2.1 dL_law_862 rfl (lv_at hl 3 rfl) ?_
  refine lv_iconst (v := (1 : Int32)) C.1 C.2.1 dL_law_863 (by decide) ?_
  refine lv_iadd C.1 C.2.1 dL_law_864 ?_
  refine r_topi (y := nI (i + 1)) (nI_add i 1).symm ?_
  refine va_sld C.1 C.2.1 hX hbl hbA hw.2 (i := nI (i + 1)) (vp_in_nI (by omega) (by omega)) dL_law_865 ?_
  refine r_topi (y := xs (i + 1)) (by rw [nI_clamp (by omega)]) ?_
  refine r_afti hw (r_runV (As := [.int (xs (i + 1))]) (rest := [.int r]) C hw (ki := 11) hsh.2 (by decide) rfl (kX12_foretell l n0 D Y N 17 (xs (i + 1)) z h2) (cwV 1 C.2.2.2.2.2.1 gL_law_X12_foretell rfl rfl rfl (by decide +kernel) ⟨(Nat.le_of_ble_eq_true rfl), (Nat.le_of_ble_eq_true rfl)⟩) rfl hl.1 rfl (Nat.le_of_ble_eq_true rfl) dL_law_866 ⟨by show _ ≤ 600000; omega, by show _ ≤ 7302250; omega⟩) (fun H locs hw => ?_)
  refine lv_icmp_eq (tgt := 920) C.1 C.2.1 dL_law_869 (by decide) (fun _ => ?_) (fun q => absurd rfl q)
  exact K z _ _ _ _ _ (by omega) (by omega) hI hw hl
set_option maxHeartbeats 4000000 in
set_option maxRecDepth 100000 in
theorem law_24 {n0 : Nat} {D : va_G} {Y : Nat → ClassId} {p : Program} {l : Launch} {e : Env} {s : State} {m : MethodId} {below : List Frame} {meth : Method} {c : Code} {b L : Nat} {xs : Nat → Int32} {N : Nat} {Inv : Hp → Prop} (hL : L ≤ 3072) (C : Cx n0 D Y RL code ret 4 wsL_law meth.name p s m #[Value.ref b] meth c) (hn0 : n0 = s.heap.size) (hX : va_X b L xs s s.heap) (hbl : b < s.heap.size) (hO : Ops N Inv) {n i : Nat} (hi : i + 6 ≤ L) (K : (∀ (z : Hp) (cells slots : Nat) (H : Heap) (locs : List Loc) (ls : Array Slot), cells + 4 * n ≤ 600000 → slots + 26 * n ≤ 7302250 → Inv z → Wd n0 D Y z s H locs → lv_has ls 4 [(0, .ref b), (1, .ref (n0 + 0)), (2, .ref (n0 + 17)), (3, .int (nI i))] → W p l e room_1 s m #[Value.ref b] below meth c H locs cells slots (lw_Z below #[Value.ref b] s) (F0 m 920 ls []))) {z : Hp} {cells slots : Nat} {H : Heap} {locs : List Loc} {ls : Array Slot} (hc : cells + 4 * (n + 1) ≤ 600000) (hs : slots + 26 * (n + 1) ≤ 7302250) (hI : Inv z) (hw : Wd n0 D Y z s H locs) (hl : lv_has ls 4 [(0, .ref b), (1, .ref (n0 + 0)), (2, .ref (n0 + 17)), (3, .int (nI i))]) : W p l e room_1 s m #[Value.ref b] below meth c H locs cells slots (lw_Z below #[Value.ref b] s) (F0 m 874 ls []) := by
  have hbA : ¬ AA n0 b := by unfold AA; rw [hn0]; exact Nat.not_le.mpr hbl
  have hsh := hO.2.2.2.2.2.2.2.2.2.2.2.2.2.2.2.2.2.2.2.2.2.2.2.2.2.2 z hI
  obtain ⟨r, h1, h2⟩ := hO.2.2.2.2.2.2.2.2.2.2.2.2.2.2.2.2.2.2.2.2.2.2.2.2.1 z (xs (i + 1)) hI
  refine lv_aload_n C.1 C.2.1 dL_law_874 rfl (lv_at hl 1 rfl) ?_
  refine lv_aload_n C.1 C.2.1 dL_law_875 rfl (lv_at hl 0 rfl) ?_
  refine lv_iload_n C.1 C.2.1 dL_law_876 rfl (lv_at hl 3 rfl) ?_
  refine lv_iconst (v := (1 : Int32)) C.1 C.2.1 dL_law_877 (by decide) ?_
  refine lv_iadd C.1 C.2.1 dL_law_878 ?_
  refine r_topi (y := nI (i + 1)) (nI_add i 1).symm ?_
  refine va_sld C.1 C.2.1 hX hbl hbA hw.2 (i := nI (i + 1)) (vp_in_nI (by omega) (by omega)) dL_law_879 ?_
  refine r_topi (y := xs (i + 1)) (by rw [nI_clamp (by omega)]) ?_
  refine r_afti hw (r_runV (As := [.int (xs (i + 1))]) (rest := []) C hw (ki := 10) hsh.1 (by decide) rfl (kX11_order l n0 D Y N 0 (xs (i + 1)) z h1) (cwV 1 C.2.2.2.2.2.1 gL_law_X11_order rfl rfl rfl (by decide +kernel) ⟨(Nat.le_of_ble_eq_true rfl), (Nat.le_of_ble_eq_true rfl)⟩) rfl hl.1 rfl (Nat.le_of_ble_eq_true rfl) dL_law_880 ⟨by show _ ≤ 600000; omega, by show _ ≤ 7302250; omega⟩) (fun H locs hw => ?_)
  refine lv_aload_n C.1 C.2.1 dL_law_883 rfl (lv_at hl 2 rfl) ?_
  refine lv_aload_n C.1 C.2.1 dL_law_884 rfl (lv_at hl 0 rfl) ?_
  refine lv_iload_n C.1 C.2.1 dL_law_885 rfl (lv_at hl 3 rfl) ?_
  refine lv_iconst (v := (1 : Int32)) C.1 C.2.1 dL_law_886 (by decide) ?_
  refine lv_iadd C.1 C.2.1 dL_law_887 ?_
  refine r_topi (y := nI (i + 1)) (nI_add i 1).symm ?_
  refine va_sld C.1 C.2.1 hX hbl hbA hw.2 (i := nI (i + 1)) (vp_in_nI (by omega) (by omega)) dL_law_888 ?_
  refine r_topi (y := xs (i + 1)) (by rw [nI_clamp (by omega)]) ?_
  refine r_afti hw (r_runV (As := [.int (xs (i + 1))]) (rest := [.int r]) C hw (ki := 11) hsh.2 (by decide) rfl (kX12_order l n0 D Y N 17 (xs (i + 1)) z h2) (cwV 1 C.2.2.2.2.2.1 gL_law_X12_order rfl rfl rfl (by decide +kernel) ⟨(Nat.le_of_ble_eq_true rfl), (Nat.le_of_ble_eq_true rfl)⟩) rfl hl.1 rfl (Nat.le_of_ble_eq_true rfl) dL_law_889 ⟨by show _ ≤ 600000; omega, by show _ ≤ 7302250; omega⟩) (fun H locs hw => ?_)
  refine lv_icmp_eq (tgt := 920) C.1 C.2.1 dL_law_892 (by decide) (fun _ => ?_) (fun q => absurd rfl q)
  exact K z _ _ _ _ _ (by omega) (by omega) hI hw hl
set_option maxHeartbeats 4000000 in
set_option maxRecDepth 100000 in
theorem law_25 {n0 : Nat} {D : va_G} {Y : Nat → ClassId} {p : Program} {l : Launch} {e : Env} {s : State} {m : MethodId} {below : List Frame} {meth : Method} {c : Code} {b L : Nat} {xs : Nat → Int32} {N : Nat} {Inv : Hp → Prop} (hL : L ≤ 3072) (C : Cx n0 D Y RL code ret 4 wsL_law meth.name p s m #[Value.ref b] meth c) (hn0 : n0 = s.heap.size) (hX : va_X b L xs s s.heap) (hbl : b < s.heap.size) (hO : Ops N Inv) {n i : Nat} (hi : i + 6 ≤ L) (K : (∀ (z : Hp) (cells slots : Nat) (H : Heap) (locs : List Loc) (ls : Array Slot), cells + 4 * n ≤ 600000 → slots + 26 * n ≤ 7302250 → Inv z → Wd n0 D Y z s H locs → lv_has ls 4 [(0, .ref b), (1, .ref (n0 + 0)), (2, .ref (n0 + 17)), (3, .int (nI i))] → W p l e room_1 s m #[Value.ref b] below meth c H locs cells slots (lw_Z below #[Value.ref b] s) (F0 m 920 ls []))) {z : Hp} {cells slots : Nat} {H : Heap} {locs : List Loc} {ls : Array Slot} (hc : cells + 4 * (n + 1) ≤ 600000) (hs : slots + 26 * (n + 1) ≤ 7302250) (hI : Inv z) (hw : Wd n0 D Y z s H locs) (hl : lv_has ls 4 [(0, .ref b), (1, .ref (n0 + 0)), (2, .ref (n0 + 17)), (3, .int (nI i))]) : W p l e room_1 s m #[Value.ref b] below meth c H locs cells slots (lw_Z below #[Value.ref b] s) (F0 m 897 ls []) := by
  have hbA : ¬ AA n0 b := by unfold AA; rw [hn0]; exact Nat.not_le.mpr hbl
  have hsh := hO.2.2.2.2.2.2.2.2.2.2.2.2.2.2.2.2.2.2.2.2.2.2.2.2.2.2 z hI
  obtain ⟨r, h1, h2⟩ := hO.2.2.2.2.2.2.2.2.2.2.2.2.2.2.2.2.2.2.2.2.2.2.2.2.2.1 z (xs (i + 1)) hI
  refine lv_aload_n C.1 C.2.1 dL_law_897 rfl (lv_at hl 1 rfl) ?_
  refine lv_aload_n C.1 C.2.1 dL_law_898 rfl (lv_at hl 0 rfl) ?_
  refine lv_iload_n C.1 C.2.1 dL_law_899 rfl (lv_at hl 3 rfl) ?_
  refine lv_iconst (v := (1 : Int32)) C.1 C.2.1 dL_law_900 (by decide) ?_
  refine lv_iadd C.1 C.2.1 dL_law_901 ?_
  refine r_topi (y := nI (i + 1)) (nI_add i 1).symm ?_
  refine va_sld C.1 C.2.1 hX hbl hbA hw.2 (i := nI (i + 1)) (vp_in_nI (by omega) (by omega)) dL_law_902 ?_
  refine r_topi (y := xs (i + 1)) (by rw [nI_clamp (by omega)]) ?_
  refine r_afti hw (r_runV (As := [.int (xs (i + 1))]) (rest := []) C hw (ki := 10) hsh.1 (by decide) rfl (kX11_told l n0 D Y N 0 (xs (i + 1)) z h1) (cwV 1 C.2.2.2.2.2.1 gL_law_X11_told rfl rfl rfl (by decide +kernel) ⟨(Nat.le_of_ble_eq_true rfl), (Nat.le_of_ble_eq_true rfl)⟩) rfl hl.1 rfl (Nat.le_of_ble_eq_true rfl) dL_law_903 ⟨by show _ ≤ 600000; omega, by show _ ≤ 7302250; omega⟩) (fun H locs hw => ?_)
  refine lv_aload_n C.1 C.2.1 dL_law_906 rfl (lv_at hl 2 rfl) ?_
  refine lv_aload_n C.1 C.2.1 dL_law_907 rfl (lv_at hl 0 rfl) ?_
  refine lv_iload_n C.1 C.2.1 dL_law_908 rfl (lv_at hl 3 rfl) ?_
  refine lv_iconst (v := (1 : Int32)) C.1 C.2.1 dL_law_909 (by decide) ?_
  refine lv_iadd C.1 C.2.1 dL_law_910 ?_
  refine r_topi (y := nI (i + 1)) (nI_add i 1).symm ?_
  refine va_sld C.1 C.2.1 hX hbl hbA hw.2 (i := nI (i + 1)) (vp_in_nI (by omega) (by omega)) dL_law_911 ?_
  refine r_topi (y := xs (i + 1)) (by rw [nI_clamp (by omega)]) ?_
  refine r_afti hw (r_runV (As := [.int (xs (i + 1))]) (rest := [.int r]) C hw (ki := 11) hsh.2 (by decide) rfl (kX12_told l n0 D Y N 17 (xs (i + 1)) z h2) (cwV 1 C.2.2.2.2.2.1 gL_law_X12_told rfl rfl rfl (by decide +kernel) ⟨(Nat.le_of_ble_eq_true rfl), (Nat.le_of_ble_eq_true rfl)⟩) rfl hl.1 rfl (Nat.le_of_ble_eq_true rfl) dL_law_912 ⟨by show _ ≤ 600000; omega, by show _ ≤ 7302250; omega⟩) (fun H locs hw => ?_)
  refine lv_icmp_eq (tgt := 920) C.1 C.2.1 dL_law_915 (by decide) (fun _ => ?_) (fun q => absurd rfl q)
  exact K z _ _ _ _ _ (by omega) (by omega) hI hw hl
theorem law_le {i L : Nat} (hi : i < 1000000) (hL : L < 1000000) (h : ¬ Int32.ofNat L - 6 < nI i) : i + 6 ≤ L := by
  have e1 : (nI L - nI 6).toInt = (L : Int) - 6 := pk_sub_toInt (by omega) (by decide)
  have e2 : (nI i).toInt = (i : Int) := nI_toInt (by omega)
  have h' : ¬ (nI L - nI 6) < nI i := h
  rw [Int32.lt_iff_toInt_lt, e1, e2] at h'
  omega
set_option maxHeartbeats 8000000 in
set_option maxRecDepth 100000 in
theorem law_loop {n0 : Nat} {D : va_G} {Y : Nat → ClassId} {p : Program} {l : Launch} {e : Env} {s : State} {m : MethodId} {below : List Frame} {meth : Method} {c : Code} {b L : Nat} {xs : Nat → Int32} {N : Nat} {Inv : Hp → Prop} (hL : L ≤ 3072) (C : Cx n0 D Y RL code ret 4 wsL_law meth.name p s m #[Value.ref b] meth c) (hn0 : n0 = s.heap.size) (hX : va_X b L xs s s.heap) (hbl : b < s.heap.size) (hO : Ops N Inv) : ∀ (n i : Nat) (z : Hp) (cells slots : Nat) (H : Heap) (locs : List Loc) (ls : Array Slot), i ≤ L + 6 → L + 7 ≤ i + n → cells + 4 * n ≤ 600000 → slots + 26 * n ≤ 7302250 → Inv z → Wd n0 D Y z s H locs → lv_has ls 4 [(0, .ref b), (1, .ref (n0 + 0)), (2, .ref (n0 + 17)), (3, .int (nI i))] → W p l e room_1 s m #[Value.ref b] below meth c H locs cells slots (lw_Z below #[Value.ref b] s) (F0 m 18 ls []) := by
  intro n
  induction n with
  | zero => intro i z cells slots H locs ls h1 h2; exact absurd h2 (by omega)
  | succ n ih =>
    intro i z cells slots H locs ls hi hin hc hs hI hw hl
    have hbA : ¬ AA n0 b := by unfold AA; rw [hn0]; exact Nat.not_le.mpr hbl
    refine lv_iload_n C.1 C.2.1 dL_law_18 rfl (lv_at hl 3 rfl) ?_
    refine lv_aload_n C.1 C.2.1 dL_law_19 rfl (lv_at hl 0 rfl) ?_
    refine va_slen C.1 C.2.1 hX hbl hbA hw.2 dL_law_20 ?_
    refine lv_bipush (v := (6 : Int32)) C.1 C.2.1 dL_law_21 (by decide) ?_
    refine lv_isub C.1 C.2.1 dL_law_23 ?_
    refine lv_icmp_gt (tgt := 926) C.1 C.2.1 dL_law_24 (by decide) (fun c1 => ?_) (fun c1 => ?_)
    · refine lv_iconst (v := 1) C.1 C.2.1 dL_law_926 (by decide) ?_
      refine va_forget (fun q hq => ?_) ?_
      · have := hw.2.2.2 q hq; unfold AA at this; rw [← hn0]; exact this
      refine W.widen (k := 600000) (n := 7302250) (by omega) (by omega) ?_
      exact lw_ret C.1 C.2.1 C.2.2.1 C.2.2.2.2.2.2.1 dL_law_927
    · have hlt : i + 6 ≤ L := law_le (by omega) (by omega) c1
      refine lv_aload_n C.1 C.2.1 dL_law_27 rfl (lv_at hl 0 rfl) ?_
      refine lv_iload_n C.1 C.2.1 dL_law_28 rfl (lv_at hl 3 rfl) ?_
      refine va_sld C.1 C.2.1 hX hbl hbA hw.2 (i := nI i) (vp_in_nI (by omega) (by omega)) dL_law_29 ?_
      refine lv_bipush (v := (31 : Int32)) C.1 C.2.1 dL_law_30 (by decide) ?_
      refine lv_iand C.1 C.2.1 dL_law_32 ?_
      refine lv_topi (fun t et => ?_)
      have K : (∀ (z : Hp) (cells slots : Nat) (H : Heap) (locs : List Loc) (ls : Array Slot), cells + 4 * n ≤ 600000 → slots + 26 * n ≤ 7302250 → Inv z → Wd n0 D Y z s H locs → lv_has ls 4 [(0, .ref b), (1, .ref (n0 + 0)), (2, .ref (n0 + 17)), (3, .int (nI i))] → W p l e room_1 s m #[Value.ref b] below meth c H locs cells slots (lw_Z below #[Value.ref b] s) (F0 m 920 ls [])) := by
        intro z cells slots H locs ls hc hs hI hw hl
        obtain ⟨v1, e1⟩ : ∃ v : Int32, v = nI (i + 6) := ⟨_, rfl⟩
        refine lv_iinc (v := v1) (lv' := [(3, .int v1), (0, .ref b), (1, .ref (n0 + 0)), (2, .ref (n0 + 17))]) C.1 C.2.1 dL_law_920 hl (k := 3) rfl (by rw [e1]; exact nI_add i 6) (by decide) rfl (fun ls hl => ?_)
        refine lv_goto (tgt := 18) C.1 C.2.1 dL_law_923 (by decide) ?_
        subst e1
        exact ih (i + 6) z cells slots H locs ls (by omega) (by omega) hc hs hI hw (lv_sub hl [1, 2, 3, 0] rfl)
      by_cases c2 : t = (0 : Int32)
      · refine lv_tableIn (off := 119) (tgt := 152) C.1 C.2.1 dL_law_33 (by rw [c2]; decide) (by rw [c2]; decide) (by rw [c2]; decide) (by decide) ?_
        exact law_0 hL C hn0 hX hbl hO hlt K hc hs hI hw hl
      by_cases c3 : t = (1 : Int32)
      · refine lv_tableIn (off := 142) (tgt := 175) C.1 C.2.1 dL_law_33 (by rw [c3]; decide) (by rw [c3]; decide) (by rw [c3]; decide) (by decide) ?_
        exact law_1 hL C hn0 hX hbl hO hlt K hc hs hI hw hl
      by_cases c4 : t = (2 : Int32)
      · refine lv_tableIn (off := 155) (tgt := 188) C.1 C.2.1 dL_law_33 (by rw [c4]; decide) (by rw [c4]; decide) (by rw [c4]; decide) (by decide) ?_
        exact law_2 hL C hn0 hX hbl hO hlt K hc hs hI hw hl
      by_cases c5 : t = (3 : Int32)
      · refine lv_tableIn (off := 198) (tgt := 231) C.1 C.2.1 dL_law_33 (by rw [c5]; decide) (by rw [c5]; decide) (by rw [c5]; decide) (by decide) ?_
        exact law_3 hL C hn0 hX hbl hO hlt K hc hs hI hw hl
      by_cases c6 : t = (4 : Int32)
      · refine lv_tableIn (off := 221) (tgt := 254) C.1 C.2.1 dL_law_33 (by rw [c6]; decide) (by rw [c6]; decide) (by rw [c6]; decide) (by decide) ?_
        exact law_4 hL C hn0 hX hbl hO hlt K hc hs hI hw hl
      by_cases c7 : t = (5 : Int32)
      · refine lv_tableIn (off := 244) (tgt := 277) C.1 C.2.1 dL_law_33 (by rw [c7]; decide) (by rw [c7]; decide) (by rw [c7]; decide) (by decide) ?_
        exact law_5 hL C hn0 hX hbl hO hlt K hc hs hI hw hl
      by_cases c8 : t = (6 : Int32)
      · refine lv_tableIn (off := 267) (tgt := 300) C.1 C.2.1 dL_law_33 (by rw [c8]; decide) (by rw [c8]; decide) (by rw [c8]; decide) (by decide) ?_
        exact law_6 hL C hn0 hX hbl hO hlt K hc hs hI hw hl
      by_cases c9 : t = (7 : Int32)
      · refine lv_tableIn (off := 330) (tgt := 363) C.1 C.2.1 dL_law_33 (by rw [c9]; decide) (by rw [c9]; decide) (by rw [c9]; decide) (by decide) ?_
        exact law_7 hL C hn0 hX hbl hO hlt K hc hs hI hw hl
      by_cases c10 : t = (8 : Int32)
      · refine lv_tableIn (off := 373) (tgt := 406) C.1 C.2.1 dL_law_33 (by rw [c10]; decide) (by rw [c10]; decide) (by rw [c10]; decide) (by decide) ?_
        exact law_8 hL C hn0 hX hbl hO hlt K hc hs hI hw hl
      by_cases c11 : t = (9 : Int32)
      · refine lv_tableIn (off := 396) (tgt := 429) C.1 C.2.1 dL_law_33 (by rw [c11]; decide) (by rw [c11]; decide) (by rw [c11]; decide) (by decide) ?_
        exact law_9 hL C hn0 hX hbl hO hlt K hc hs hI hw hl
      by_cases c12 : t = (10 : Int32)
      · refine lv_tableIn (off := 429) (tgt := 462) C.1 C.2.1 dL_law_33 (by rw [c12]; decide) (by rw [c12]; decide) (by rw [c12]; decide) (by decide) ?_
        exact law_10 hL C hn0 hX hbl hO hlt K hc hs hI hw hl
      by_cases c13 : t = (11 : Int32)
      · refine lv_tableIn (off := 482) (tgt := 515) C.1 C.2.1 dL_law_33 (by rw [c13]; decide) (by rw [c13]; decide) (by rw [c13]; decide) (by decide) ?_
        exact law_11 hL C hn0 hX hbl hO hlt K hc hs hI hw hl
      by_cases c14 : t = (12 : Int32)
      · refine lv_tableIn (off := 495) (tgt := 528) C.1 C.2.1 dL_law_33 (by rw [c14]; decide) (by rw [c14]; decide) (by rw [c14]; decide) (by decide) ?_
        exact law_12 hL C hn0 hX hbl hO hlt K hc hs hI hw hl
      by_cases c15 : t = (13 : Int32)
      · refine lv_tableIn (off := 508) (tgt := 541) C.1 C.2.1 dL_law_33 (by rw [c15]; decide) (by rw [c15]; decide) (by rw [c15]; decide) (by decide) ?_
        exact law_13 hL C hn0 hX hbl hO hlt K hc hs hI hw hl
      by_cases c16 : t = (14 : Int32)
      · refine lv_tableIn (off := 541) (tgt := 574) C.1 C.2.1 dL_law_33 (by rw [c16]; decide) (by rw [c16]; decide) (by rw [c16]; decide) (by decide) ?_
        exact law_14 hL C hn0 hX hbl hO hlt K hc hs hI hw hl
      by_cases c17 : t = (15 : Int32)
      · refine lv_tableIn (off := 574) (tgt := 607) C.1 C.2.1 dL_law_33 (by rw [c17]; decide) (by rw [c17]; decide) (by rw [c17]; decide) (by decide) ?_
        exact law_15 hL C hn0 hX hbl hO hlt K hc hs hI hw hl
      by_cases c18 : t = (16 : Int32)
      · refine lv_tableIn (off := 607) (tgt := 640) C.1 C.2.1 dL_law_33 (by rw [c18]; decide) (by rw [c18]; decide) (by rw [c18]; decide) (by decide) ?_
        exact law_16 hL C hn0 hX hbl hO hlt K hc hs hI hw hl
      by_cases c19 : t = (17 : Int32)
      · refine lv_tableIn (off := 640) (tgt := 673) C.1 C.2.1 dL_law_33 (by rw [c19]; decide) (by rw [c19]; decide) (by rw [c19]; decide) (by decide) ?_
        exact law_17 hL C hn0 hX hbl hO hlt K hc hs hI hw hl
      by_cases c20 : t = (18 : Int32)
      · refine lv_tableIn (off := 673) (tgt := 706) C.1 C.2.1 dL_law_33 (by rw [c20]; decide) (by rw [c20]; decide) (by rw [c20]; decide) (by decide) ?_
        exact law_18 hL C hn0 hX hbl hO hlt K hc hs hI hw hl
      by_cases c21 : t = (19 : Int32)
      · refine lv_tableIn (off := 706) (tgt := 739) C.1 C.2.1 dL_law_33 (by rw [c21]; decide) (by rw [c21]; decide) (by rw [c21]; decide) (by decide) ?_
        exact law_19 hL C hn0 hX hbl hO hlt K hc hs hI hw hl
      by_cases c22 : t = (20 : Int32)
      · refine lv_tableIn (off := 729) (tgt := 762) C.1 C.2.1 dL_law_33 (by rw [c22]; decide) (by rw [c22]; decide) (by rw [c22]; decide) (by decide) ?_
        exact law_20 hL C hn0 hX hbl hO hlt K hc hs hI hw hl
      by_cases c23 : t = (21 : Int32)
      · refine lv_tableIn (off := 762) (tgt := 795) C.1 C.2.1 dL_law_33 (by rw [c23]; decide) (by rw [c23]; decide) (by rw [c23]; decide) (by decide) ?_
        exact law_21 hL C hn0 hX hbl hO hlt K hc hs hI hw hl
      by_cases c24 : t = (22 : Int32)
      · refine lv_tableIn (off := 785) (tgt := 818) C.1 C.2.1 dL_law_33 (by rw [c24]; decide) (by rw [c24]; decide) (by rw [c24]; decide) (by decide) ?_
        exact law_22 hL C hn0 hX hbl hO hlt K hc hs hI hw hl
      by_cases c25 : t = (23 : Int32)
      · refine lv_tableIn (off := 818) (tgt := 851) C.1 C.2.1 dL_law_33 (by rw [c25]; decide) (by rw [c25]; decide) (by rw [c25]; decide) (by decide) ?_
        exact law_23 hL C hn0 hX hbl hO hlt K hc hs hI hw hl
      by_cases c26 : t = (24 : Int32)
      · refine lv_tableIn (off := 841) (tgt := 874) C.1 C.2.1 dL_law_33 (by rw [c26]; decide) (by rw [c26]; decide) (by rw [c26]; decide) (by decide) ?_
        exact law_24 hL C hn0 hX hbl hO hlt K hc hs hI hw hl
      by_cases c27 : t = (25 : Int32)
      · refine lv_tableIn (off := 864) (tgt := 897) C.1 C.2.1 dL_law_33 (by rw [c27]; decide) (by rw [c27]; decide) (by rw [c27]; decide) (by decide) ?_
        exact law_25 hL C hn0 hX hbl hO hlt K hc hs hI hw hl
      refine lv_tableOut (tgt := 920) C.1 C.2.1 dL_law_33 (by have := ne_ti c2; have : (0 : Int32).toInt = 0 := (by decide); have := ne_ti c3; have : (1 : Int32).toInt = 1 := (by decide); have := ne_ti c4; have : (2 : Int32).toInt = 2 := (by decide); have := ne_ti c5; have : (3 : Int32).toInt = 3 := (by decide); have := ne_ti c6; have : (4 : Int32).toInt = 4 := (by decide); have := ne_ti c7; have : (5 : Int32).toInt = 5 := (by decide); have := ne_ti c8; have : (6 : Int32).toInt = 6 := (by decide); have := ne_ti c9; have : (7 : Int32).toInt = 7 := (by decide); have := ne_ti c10; have : (8 : Int32).toInt = 8 := (by decide); have := ne_ti c11; have : (9 : Int32).toInt = 9 := (by decide); have := ne_ti c12; have : (10 : Int32).toInt = 10 := (by decide); have := ne_ti c13; have : (11 : Int32).toInt = 11 := (by decide); have := ne_ti c14; have : (12 : Int32).toInt = 12 := (by decide); have := ne_ti c15; have : (13 : Int32).toInt = 13 := (by decide); have := ne_ti c16; have : (14 : Int32).toInt = 14 := (by decide); have := ne_ti c17; have : (15 : Int32).toInt = 15 := (by decide); have := ne_ti c18; have : (16 : Int32).toInt = 16 := (by decide); have := ne_ti c19; have : (17 : Int32).toInt = 17 := (by decide); have := ne_ti c20; have : (18 : Int32).toInt = 18 := (by decide); have := ne_ti c21; have : (19 : Int32).toInt = 19 := (by decide); have := ne_ti c22; have : (20 : Int32).toInt = 20 := (by decide); have := ne_ti c23; have : (21 : Int32).toInt = 21 := (by decide); have := ne_ti c24; have : (22 : Int32).toInt = 22 := (by decide); have := ne_ti c25; have : (23 : Int32).toInt = 23 := (by decide); have := ne_ti c26; have : (24 : Int32).toInt = 24 := (by decide); have := ne_ti c27; have : (25 : Int32).toInt = 25 := (by decide); omega) (by decide) ?_
      exact K z cells slots H locs ls (by omega) (by omega) hI hw hl
set_option maxHeartbeats 8000000 in
set_option maxRecDepth 100000 in
/-- THE LAW, from its entry, over what the plain functions do in step -/
theorem whole_open {p : Program} {e : Env} {s : State} {m : MethodId} {below : List Frame} {meth : Method} {c : Code} (l : Launch) {b L : Nat} {xs : Nat → Int32} (hL : L ≤ 3072) (C0 : lw_At p s m meth c b L xs) {N : Nat} {Inv : Hp → Prop} (hO : Ops N Inv) (hInit : OpInit N Inv) : W p l e room_1 s m #[Value.ref b] below meth c s.heap [] 0 0 (lw_Z below #[Value.ref b] s) (entryFrame m ([Value.ref b] : List Value).toArray 4) := by
  obtain ⟨hx, hb, hr, hml, hown, hts, hX, hbl, hlocks, hgv⟩ := id C0
  have hnv := flat_of_before _ hgv
  obtain ⟨c0, iS0, hKn0⟩ := u_known (C := RX0) (T := TX0) (N := 8) (n := 8) hts inX0 (hts (.instantiable RX0 8) (wsL_law_in _ (by decide +kernel)))
  obtain ⟨c1, iS1, hKn1⟩ := u_known (C := RX1) (T := TX1) (N := 9) (n := 9) hts inX1 (hts (.instantiable RX1 9) (wsL_law_in _ (by decide +kernel)))
  obtain ⟨c2, iS2, hKn2⟩ := u_known (C := RX2) (T := TX2) (N := 7) (n := 7) hts inX2 (hts (.instantiable RX2 7) (wsL_law_in _ (by decide +kernel)))
  obtain ⟨c3, iS3, hKn3⟩ := u_known (C := RX4) (T := TX4) (N := 8) (n := 8) hts inX4 (hts (.instantiable RX4 8) (wsL_law_in _ (by decide +kernel)))
  obtain ⟨c4, iS4, hKn4⟩ := u_known (C := RX5) (T := TX5) (N := 2) (n := 2) hts inX5 (hts (.instantiable RX5 2) (wsL_law_in _ (by decide +kernel)))
  obtain ⟨c5, iS5, hKn5⟩ := u_known (C := RX6) (T := TX6) (N := 8) (n := 8) hts inX6 (hts (.instantiable RX6 8) (wsL_law_in _ (by decide +kernel)))
  obtain ⟨c6, iS6, hKn6⟩ := u_known (C := RX7) (T := TX7) (N := 2) (n := 2) hts inX7 (hts (.instantiable RX7 2) (wsL_law_in _ (by decide +kernel)))
  obtain ⟨c7, iS7, hKn7⟩ := u_known (C := RX8) (T := TX8) (N := 10) (n := 10) hts inX8 (hts (.instantiable RX8 10) (wsL_law_in _ (by decide +kernel)))
  obtain ⟨c8, iS8, hKn8⟩ := u_known (C := RX9) (T := TX9) (N := 7) (n := 7) hts inX9 (hts (.instantiable RX9 7) (wsL_law_in _ (by decide +kernel)))
  obtain ⟨c9, iS9, hKn9⟩ := u_known (C := RX10) (T := TX10) (N := 4) (n := 4) hts inX10 (hts (.instantiable RX10 4) (wsL_law_in _ (by decide +kernel)))
  obtain ⟨c10, iS10, hKn10⟩ := u_known (C := RX11) (T := TX11) (N := 12) (n := 12) hts inX11 (hts (.instantiable RX11 12) (wsL_law_in _ (by decide +kernel)))
  obtain ⟨c11, iS11, hKn11⟩ := u_known (C := RX12) (T := TX12) (N := 50) (n := 50) hts inX12 (hts (.instantiable RX12 50) (wsL_law_in _ (by decide +kernel)))
  obtain ⟨yI, kI, mI, fI1, fI2, fI3⟩ := Cond.arrayClass_spec (hts (.arrayClass .int) (wsL_law_in _ (by decide +kernel)))
  obtain ⟨yJ, kJ, mJ, fJ1, fJ2, fJ3⟩ := Cond.arrayClass_spec (hts (.arrayClass .long) (wsL_law_in _ (by decide +kernel)))
  obtain ⟨yZ, kZ, mZ, fZ1, fZ2, fZ3⟩ := Cond.arrayClass_spec (hts (.arrayClass .boolean) (wsL_law_in _ (by decide +kernel)))
  have hoB : va_AO RX0 s := va_AO.of (hts (.arrayOver (.object RX0)) (by decide +kernel))
  obtain ⟨mB, yB, kB, fB1, fB2, fB3, fB4, fB5⟩ := Cond.arrayOver_spec (va_AO.use (A := #[]) hoB)
  have hoE : va_AO RX3 s := va_AO.of (hts (.arrayOver (.object RX3)) (by decide +kernel))
  obtain ⟨mE, yE, kE, fE1, fE2, fE3, fE4, fE5⟩ := Cond.arrayOver_spec (va_AO.use (A := #[]) hoE)
  have hoL : va_AO RX6 s := va_AO.of (hts (.arrayOver (.object RX6)) (by decide +kernel))
  obtain ⟨mL, yL, kL, fL1, fL2, fL3, fL4, fL5⟩ := Cond.arrayOver_spec (va_AO.use (A := #[]) hoL)
  have hoT : va_AO RX9 s := va_AO.of (hts (.arrayOver (.object RX9)) (by decide +kernel))
  obtain ⟨mT, yT, kT, fT1, fT2, fT3, fT4, fT5⟩ := Cond.arrayOver_spec (va_AO.use (A := #[]) hoT)
  obtain ⟨D, Y, hK⟩ : ∃ (D : va_G) (Y : Nat → ClassId), KK D Y s := by
    refine ⟨((fun k => if k = 0 then c0 else if k = 1 then c1 else if k = 2 then c2 else if k = 3 then c3 else if k = 4 then c4 else if k = 5 then c5 else if k = 6 then c6 else if k = 7 then c7 else if k = 8 then c8 else if k = 9 then c9 else if k = 10 then c10 else c11), (fun k => if k = 0 then iS0 else if k = 1 then iS1 else if k = 2 then iS2 else if k = 3 then iS3 else if k = 4 then iS4 else if k = 5 then iS5 else if k = 6 then iS6 else if k = 7 then iS7 else if k = 8 then iS8 else if k = 9 then iS9 else if k = 10 then iS10 else iS11)), (fun k => if k = 12 then yI else if k = 13 then yJ else if k = 14 then yZ else if k = 15 then yB else if k = 16 then yE else if k = 17 then yL else yT), ⟨?_, ?_⟩, ⟨hoB, hoE, hoL, hoT⟩, ⟨va_Nc.of (hnv (.not (.castable RX1 RX6)) (by decide +kernel)), va_Nc.of (hnv (.not (.castable RX8 RX6)) (by decide +kernel)), va_Nc.of (hnv (.not (.castable RX6 RX1)) (by decide +kernel)), va_Nc.of (hnv (.not (.castable RX8 RX1)) (by decide +kernel)), va_Nc.of (hnv (.not (.castable RX1 RX8)) (by decide +kernel)), va_Nc.of (hnv (.not (.castable RX6 RX8)) (by decide +kernel))⟩, ⟨va_Nw.of rfl (hts (.castable RX6 RX3) (by decide +kernel)), va_Nw.of rfl (hts (.castable RX1 RX3) (by decide +kernel)), va_Nw.of rfl (hts (.castable RX8 RX3) (by decide +kernel))⟩, va_Nw.of rfl (hts (.methodLinkNest RX11 82 yX0_init RX11) (by decide +kernel))⟩
    · intro k q hq
      match k, hq with
      | 0, hq => cases hq; exact hKn0
      | 1, hq => cases hq; exact hKn1
      | 2, hq => cases hq; exact hKn2
      | 3, hq => cases hq; exact hKn3
      | 4, hq => cases hq; exact hKn4
      | 5, hq => cases hq; exact hKn5
      | 6, hq => cases hq; exact hKn6
      | 7, hq => cases hq; exact hKn7
      | 8, hq => cases hq; exact hKn8
      | 9, hq => cases hq; exact hKn9
      | 10, hq => cases hq; exact hKn10
      | 11, hq => cases hq; exact hKn11
      | k + 12, hq => simp [vwCl] at hq
    · intro k q hq
      match k, hq with
      | 0, hq => cases hq; exact ⟨fun n z => ⟨(fun k h => by cases h), kI, fI2, mI, fI3⟩, fI1⟩
      | 1, hq => cases hq; exact ⟨fun n z => ⟨(fun k h => by cases h), kJ, fJ2, mJ, fJ3⟩, fJ1⟩
      | 2, hq => cases hq; exact ⟨fun n z => ⟨(fun k h => by cases h), kZ, fZ2, mZ, fZ3⟩, fZ1⟩
      | 3, hq => cases hq; exact ⟨fun n z => ⟨(fun k h => by cases h), kB, fB3, mB, fB4⟩, kB, mB, fB3, fB4, fB1, fB5⟩
      | 4, hq => cases hq; exact ⟨fun n z => ⟨(fun k h => by cases h), kE, fE3, mE, fE4⟩, kE, mE, fE3, fE4, fE1, fE5⟩
      | 5, hq => cases hq; exact ⟨fun n z => ⟨(fun k h => by cases h), kL, fL3, mL, fL4⟩, kL, mL, fL3, fL4, fL1, fL5⟩
      | 6, hq => cases hq; exact ⟨fun n z => ⟨(fun k h => by cases h), kT, fT3, mT, fT4⟩, kT, mT, fT3, fT4, fT1, fT5⟩
      | k + 7, hq => simp at hq
  obtain ⟨n0, hn0⟩ : ∃ n0, n0 = s.heap.size := ⟨_, rfl⟩
  have C : Cx n0 D Y RL code ret 4 wsL_law meth.name p s m #[Value.ref b] meth c := ⟨hx, hb, hr, hml, hown, fun w h => hts w (wsL_law_in w h), hlocks, rfl, hK⟩
  have hw : Wd n0 D Y z00 s s.heap [] := ⟨⟨by rw [hn0]; rfl, fun a ha => absurd ha (Nat.not_lt_zero a)⟩, va_S.rf⟩
  have hl := lv_entry ([.ref b]) (n := 4) (Nat.le_of_ble_eq_true rfl)
  rw [lg_entry_eq]
  generalize (lg_sl ([.ref b]) ++ List.replicate (4 - (lg_sl ([.ref b])).length) Slot.unset).toArray = ls at hl ⊢
  have hl : lv_has ls 4 [(0, .ref b)] := hl
  obtain ⟨z1, z2, h1, hz1, h2, hI⟩ := hInit
  refine r_new C hw 10 (by decide) (Cn := RX11) (T := TX11) (N := 12) rfl inlX11 tyX11 tyX11_ok (by decide +kernel) (by decide +kernel) (by decide +kernel) (nw_10 n0 z00) (by decide) (by decide) dL_law_0 (fun H hw => ?_)
  refine lv_dup C.1 C.2.1 dL_law_3 rfl ?_
  refine r_aftv hw (r_runI (a := 0) (As := []) (rest := [.ref (n0 + 0)]) C hw (kX11_init l n0 D Y N 0 _ h1) (cwI 0 C.2.2.2.2.2.1 gL_law_X11_init rfl rfl rfl (C.2.2.2.2.2.1 (.initialized RX11) (by decide +kernel)) (C.2.2.2.2.2.1 (.methodLink RL 9 yX11_init) (by decide +kernel)) (C.2.2.2.2.2.1 (.instanceMethod yX11_init) (by decide +kernel)) rfl (by decide +kernel) ⟨Nat.le_of_ble_eq_true rfl, Nat.le_of_ble_eq_true rfl⟩) rfl hl.1 rfl (Nat.le_of_ble_eq_true rfl) dL_law_4 ⟨Nat.le_of_ble_eq_true rfl, Nat.le_of_ble_eq_true rfl⟩) (fun H locs hw => ?_)
  refine lv_astore_n (i := 1) (lv' := [(1, .ref (n0 + 0)), (0, .ref b)]) C.1 C.2.1 dL_law_7 rfl hl (by decide) rfl (fun ls hl => ?_)
  refine r_new C hw 11 (by decide) (Cn := RX12) (T := TX12) (N := 50) rfl inlX12 tyX12 tyX12_ok (by decide +kernel) (by decide +kernel) (by decide +kernel) (nw_11 n0 z1) (by decide) (by decide) dL_law_8 (fun H hw => ?_)
  refine lv_dup C.1 C.2.1 dL_law_11 rfl ?_
  rw [hz1]
  refine r_aftv hw (r_runI (a := 17) (As := []) (rest := [.ref (n0 + 17)]) C hw (kX12_init l n0 D Y N 17 _ h2) (cwI 0 C.2.2.2.2.2.1 gL_law_X12_init rfl rfl rfl (C.2.2.2.2.2.1 (.initialized RX12) (by decide +kernel)) (C.2.2.2.2.2.1 (.methodLink RL 12 yX12_init) (by decide +kernel)) (C.2.2.2.2.2.1 (.instanceMethod yX12_init) (by decide +kernel)) rfl (by decide +kernel) ⟨Nat.le_of_ble_eq_true rfl, Nat.le_of_ble_eq_true rfl⟩) rfl hl.1 rfl (Nat.le_of_ble_eq_true rfl) dL_law_12 ⟨Nat.le_of_ble_eq_true rfl, Nat.le_of_ble_eq_true rfl⟩) (fun H locs hw => ?_)
  refine lv_astore_n (i := 2) (lv' := [(2, .ref (n0 + 17)), (1, .ref (n0 + 0)), (0, .ref b)]) C.1 C.2.1 dL_law_15 rfl hl (by decide) rfl (fun ls hl => ?_)
  refine lv_iconst (v := 0) C.1 C.2.1 dL_law_16 (by decide) ?_
  refine lv_istore_n (i := 3) (lv' := [(3, .int 0), (2, .ref (n0 + 17)), (1, .ref (n0 + 0)), (0, .ref b)]) C.1 C.2.1 dL_law_17 rfl hl (by decide) rfl (fun ls hl => ?_)
  refine W.widen (k := 1000) (n := 20000) (by decide) (by decide) ?_
  exact law_loop hL C hn0 hX hbl hO (L + 7) 0 z2 1000 20000 _ _ ls (by omega) (by omega) (by omega) (by omega) hI hw (lv_sub hl [3, 2, 1, 0] rfl)
