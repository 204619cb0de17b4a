section
-- ===== PART A: goes FIRST, ahead of the names: the tables' words, and 'selects' of the private methods out of them =====
/-- a private method of a class that the tables say can be made, by its rows of tables_1 -/
def lw_okq (q : MethodName × Nat) : Prop := (q.1.cls ≠ "java/lang/invoke/MethodHandle" ∧ q.1.cls ≠ "java/lang/invoke/VarHandle") ∧ Cond.instantiable q.1.cls q.2 ∈ tables_1 ∧ Cond.privateMethod q.1 ∈ tables_1 ∧ Cond.instanceMethod q.1 ∈ tables_1
theorem lw_p0 : lw_okq (⟨"BreadLaw", "weekNow", "()I"⟩, 12) := ⟨⟨by decide +kernel, by decide +kernel⟩, List.mem_of_getElem? (i := 16) (by decide +kernel), List.mem_of_getElem? (i := 191) (by decide +kernel), List.mem_of_getElem? (i := 192) (by decide +kernel)⟩
theorem lw_p1 : lw_okq (⟨"BreadLaw", "bakerAt", "(I)LBreadLaw$Baker;"⟩, 12) := ⟨⟨by decide +kernel, by decide +kernel⟩, List.mem_of_getElem? (i := 16) (by decide +kernel), List.mem_of_getElem? (i := 268) (by decide +kernel), List.mem_of_getElem? (i := 269) (by decide +kernel)⟩
theorem lw_p2 : lw_okq (⟨"BreadLaw", "toMill", "(LBreadLaw$Lot;)I"⟩, 12) := ⟨⟨by decide +kernel, by decide +kernel⟩, List.mem_of_getElem? (i := 16) (by decide +kernel), List.mem_of_getElem? (i := 358) (by decide +kernel), List.mem_of_getElem? (i := 359) (by decide +kernel)⟩
theorem lw_p3 : lw_okq (⟨"BreadLaw", "dueBy", "(LBreadLaw$Text;II)I"⟩, 12) := ⟨⟨by decide +kernel, by decide +kernel⟩, List.mem_of_getElem? (i := 16) (by decide +kernel), List.mem_of_getElem? (i := 453) (by decide +kernel), List.mem_of_getElem? (i := 454) (by decide +kernel)⟩
theorem lw_p4 : lw_okq (⟨"BreadLaw", "weighLatest", "(LBreadLaw$Search;LBreadLaw$Baker;)V"⟩, 12) := ⟨⟨by decide +kernel, by decide +kernel⟩, List.mem_of_getElem? (i := 16) (by decide +kernel), List.mem_of_getElem? (i := 564) (by decide +kernel), List.mem_of_getElem? (i := 565) (by decide +kernel)⟩
theorem lw_p5 : lw_okq (⟨"BreadLaw", "punish", "(LBreadLaw$Search;LBreadLaw$Baker;)V"⟩, 12) := ⟨⟨by decide +kernel, by decide +kernel⟩, List.mem_of_getElem? (i := 16) (by decide +kernel), List.mem_of_getElem? (i := 575) (by decide +kernel), List.mem_of_getElem? (i := 576) (by decide +kernel)⟩
theorem lw_p6 : lw_okq (⟨"BreadLawModel", "endWeek", "()V"⟩, 50) := ⟨⟨by decide +kernel, by decide +kernel⟩, List.mem_of_getElem? (i := 672) (by decide +kernel), List.mem_of_getElem? (i := 839) (by decide +kernel), List.mem_of_getElem? (i := 840) (by decide +kernel)⟩
theorem lw_p7 : lw_okq (⟨"BreadLawModel", "needOf", "(I)I"⟩, 50) := ⟨⟨by decide +kernel, by decide +kernel⟩, List.mem_of_getElem? (i := 672) (by decide +kernel), List.mem_of_getElem? (i := 843) (by decide +kernel), List.mem_of_getElem? (i := 844) (by decide +kernel)⟩
theorem lw_p8 : lw_okq (⟨"BreadLawModel", "isBaker", "(I)Z"⟩, 50) := ⟨⟨by decide +kernel, by decide +kernel⟩, List.mem_of_getElem? (i := 672) (by decide +kernel), List.mem_of_getElem? (i := 857) (by decide +kernel), List.mem_of_getElem? (i := 858) (by decide +kernel)⟩
theorem lw_p9 : lw_okq (⟨"BreadLawModel", "enter", "(II)I"⟩, 50) := ⟨⟨by decide +kernel, by decide +kernel⟩, List.mem_of_getElem? (i := 672) (by decide +kernel), List.mem_of_getElem? (i := 863) (by decide +kernel), List.mem_of_getElem? (i := 864) (by decide +kernel)⟩
theorem lw_p10 : lw_okq (⟨"BreadLawModel", "isRecord", "(I)Z"⟩, 50) := ⟨⟨by decide +kernel, by decide +kernel⟩, List.mem_of_getElem? (i := 672) (by decide +kernel), List.mem_of_getElem? (i := 871) (by decide +kernel), List.mem_of_getElem? (i := 872) (by decide +kernel)⟩
theorem lw_p11 : lw_okq (⟨"BreadLawModel", "priceIn", "(I)I"⟩, 50) := ⟨⟨by decide +kernel, by decide +kernel⟩, List.mem_of_getElem? (i := 672) (by decide +kernel), List.mem_of_getElem? (i := 885) (by decide +kernel), List.mem_of_getElem? (i := 886) (by decide +kernel)⟩
theorem lw_p12 : lw_okq (⟨"BreadLawModel", "textIn", "(I)I"⟩, 50) := ⟨⟨by decide +kernel, by decide +kernel⟩, List.mem_of_getElem? (i := 672) (by decide +kernel), List.mem_of_getElem? (i := 905) (by decide +kernel), List.mem_of_getElem? (i := 906) (by decide +kernel)⟩
theorem lw_p13 : lw_okq (⟨"BreadLawModel", "dueIn", "(II)I"⟩, 50) := ⟨⟨by decide +kernel, by decide +kernel⟩, List.mem_of_getElem? (i := 672) (by decide +kernel), List.mem_of_getElem? (i := 913) (by decide +kernel), List.mem_of_getElem? (i := 914) (by decide +kernel)⟩
theorem lw_p14 : lw_okq (⟨"BreadLawModel", "flourOf", "(I)I"⟩, 50) := ⟨⟨by decide +kernel, by decide +kernel⟩, List.mem_of_getElem? (i := 672) (by decide +kernel), List.mem_of_getElem? (i := 923) (by decide +kernel), List.mem_of_getElem? (i := 924) (by decide +kernel)⟩
theorem lw_p15 : lw_okq (⟨"BreadLawModel", "drawTurns", "()V"⟩, 50) := ⟨⟨by decide +kernel, by decide +kernel⟩, List.mem_of_getElem? (i := 672) (by decide +kernel), List.mem_of_getElem? (i := 931) (by decide +kernel), List.mem_of_getElem? (i := 932) (by decide +kernel)⟩
def lw_privs_1 : List (MethodName × Nat) := [(⟨"BreadLaw", "weekNow", "()I"⟩, 12), (⟨"BreadLaw", "bakerAt", "(I)LBreadLaw$Baker;"⟩, 12), (⟨"BreadLaw", "toMill", "(LBreadLaw$Lot;)I"⟩, 12), (⟨"BreadLaw", "dueBy", "(LBreadLaw$Text;II)I"⟩, 12), (⟨"BreadLaw", "weighLatest", "(LBreadLaw$Search;LBreadLaw$Baker;)V"⟩, 12), (⟨"BreadLaw", "punish", "(LBreadLaw$Search;LBreadLaw$Baker;)V"⟩, 12), (⟨"BreadLawModel", "endWeek", "()V"⟩, 50), (⟨"BreadLawModel", "needOf", "(I)I"⟩, 50), (⟨"BreadLawModel", "isBaker", "(I)Z"⟩, 50), (⟨"BreadLawModel", "enter", "(II)I"⟩, 50), (⟨"BreadLawModel", "isRecord", "(I)Z"⟩, 50), (⟨"BreadLawModel", "priceIn", "(I)I"⟩, 50), (⟨"BreadLawModel", "textIn", "(I)I"⟩, 50), (⟨"BreadLawModel", "dueIn", "(II)I"⟩, 50), (⟨"BreadLawModel", "flourOf", "(I)I"⟩, 50), (⟨"BreadLawModel", "drawTurns", "()V"⟩, 50)]
theorem lw_r1 : ∀ q ∈ lw_privs_1, lw_okq q := List.forall_mem_cons.mpr ⟨lw_p0, List.forall_mem_cons.mpr ⟨lw_p1, List.forall_mem_cons.mpr ⟨lw_p2, List.forall_mem_cons.mpr ⟨lw_p3, List.forall_mem_cons.mpr ⟨lw_p4, List.forall_mem_cons.mpr ⟨lw_p5, List.forall_mem_cons.mpr ⟨lw_p6, List.forall_mem_cons.mpr ⟨lw_p7, List.forall_mem_cons.mpr ⟨lw_p8, List.forall_mem_cons.mpr ⟨lw_p9, List.forall_mem_cons.mpr ⟨lw_p10, List.forall_mem_cons.mpr ⟨lw_p11, List.forall_mem_cons.mpr ⟨lw_p12, List.forall_mem_cons.mpr ⟨lw_p13, List.forall_mem_cons.mpr ⟨lw_p14, List.forall_mem_cons.mpr ⟨lw_p15, fun _ h => absurd h List.not_mem_nil⟩⟩⟩⟩⟩⟩⟩⟩⟩⟩⟩⟩⟩⟩⟩⟩
theorem lw_p16 : lw_okq (⟨"BreadLawModel", "manyOf", "(II)I"⟩, 50) := ⟨⟨by decide +kernel, by decide +kernel⟩, List.mem_of_getElem? (i := 672) (by decide +kernel), List.mem_of_getElem? (i := 972) (by decide +kernel), List.mem_of_getElem? (i := 973) (by decide +kernel)⟩
theorem lw_p17 : lw_okq (⟨"BreadLawModel", "hungerBy", "(II)I"⟩, 50) := ⟨⟨by decide +kernel, by decide +kernel⟩, List.mem_of_getElem? (i := 672) (by decide +kernel), List.mem_of_getElem? (i := 998) (by decide +kernel), List.mem_of_getElem? (i := 999) (by decide +kernel)⟩
def lw_privs_2 : List (MethodName × Nat) := [(⟨"BreadLawModel", "manyOf", "(II)I"⟩, 50), (⟨"BreadLawModel", "hungerBy", "(II)I"⟩, 50)]
theorem lw_r2 : ∀ q ∈ lw_privs_2, lw_okq q := List.forall_mem_cons.mpr ⟨lw_p16, List.forall_mem_cons.mpr ⟨lw_p17, fun _ h => absurd h List.not_mem_nil⟩⟩
def lw_privs : List (MethodName × Nat) := lw_privs_1 ++ (lw_privs_2)
def lw_tbl : List Cond := k2_sels lw_privs ++ tables_1
theorem lw_privs_ok : ∀ q ∈ lw_privs, lw_okq q := by
  show ∀ q ∈ lw_privs_1 ++ (lw_privs_2), lw_okq q
  exact List.forall_mem_append.mpr ⟨lw_r1, lw_r2⟩
/-! ===== BEGIN words of one list among another's, by their places ===== -/
theorem goodIn_r {big : List Cond} (ws : List Cond) (ps : List Nat) (hp : ws = ps.filterMap (fun i => big[i]?)) (h : ws.all goodWord = true) : GoodIn big ws := by
  intro w hw
  have h1 := List.all_eq_true.mp h w hw
  rw [hp] at hw
  obtain ⟨i, -, hi⟩ := List.mem_filterMap.mp hw
  have hm : w ∈ big := by first | exact List.mem_of_getElem? hi | exact List.getElem?_mem hi
  exact ⟨hm, good_of_word h1⟩
theorem goodIn_app {big a b : List Cond} (ha : GoodIn big a) (hb : GoodIn big b) : GoodIn big (a ++ b) := fun w h => (List.mem_append.mp h).elim (ha w) (hb w)
theorem goodIn_ca {big a b : List Cond} {c : Cond} (ha : GoodIn big (c :: a)) (hb : GoodIn big b) : GoodIn big (c :: (a ++ b)) := fun w h => (List.mem_cons.mp h).elim (fun e => ha w (List.mem_cons.mpr (Or.inl e))) (fun h => (List.mem_append.mp h).elim (fun h => ha w (List.mem_cons.mpr (Or.inr h))) (hb w))
theorem goodIn_sub {big ws : List Cond} (hm : ∀ w ∈ ws, w ∈ big) (h : ws.all goodWord = true) : GoodIn big ws := fun w hw => ⟨hm w hw, good_of_word (List.all_eq_true.mp h w hw)⟩
/-! ===== END ===== -/

/-! ===== BEGIN printed: names, fields, word lists, decode rows ===== -/
def RX0 : String := "BreadLaw$Baker"
def TX0 : u_T := fun k => match k with
  | 0 => ("BreadLaw$Baker", "flour", "I", false)
  | 1 => ("BreadLaw$Baker", "lots", "I", false)
  | 2 => ("BreadLaw$Baker", "batches", "I", false)
  | 3 => ("BreadLaw$Baker", "searches", "I", false)
  | 4 => ("BreadLaw$Baker", "shorts", "I", false)
  | 5 => ("BreadLaw$Baker", "fines", "I", false)
  | 6 => ("BreadLaw$Baker", "mayBakeFrom", "I", false)
  | _ => ("BreadLaw$Baker", "latest", "LBreadLaw$Batch;", false)
def tyX0 : Nat → FieldType := fun k => match k with
  | 0 => .int
  | 1 => .int
  | 2 => .int
  | 3 => .int
  | 4 => .int
  | 5 => .int
  | 6 => .int
  | _ => .object "BreadLaw$Batch"
abbrev wsX00 : List Cond := u_ws RX0 TX0 8
theorem nmX0 : ∀ a, a < 8 → ∀ b, b < 8 → a ≠ b → (TX0 a).2.1 ≠ (TX0 b).2.1 := by decide +kernel
theorem tyX0_ok : ∀ k, k < 8 → parseFieldDescriptor (TX0 k).2.2.1 = some (tyX0 k) := by decide +kernel
abbrev cX0_init : ByteArray := prog_2_method_1_code
def yX0_init : MethodName := ⟨RX0, "<init>", "()V"⟩
abbrev cX0_detail : ByteArray := prog_2_method_2_code
def yX0_detail : MethodName := ⟨RX0, "detail", "(I)I"⟩
def RX1 : String := "BreadLaw$Batch"
def TX1 : u_T := fun k => match k with
  | 0 => ("BreadLaw$Entry", "sort", "I", true)
  | 1 => ("BreadLaw$Entry", "number", "I", true)
  | 2 => ("BreadLaw$Entry", "at", "I", true)
  | 3 => ("BreadLaw$Entry", "baker", "I", true)
  | 4 => ("BreadLaw$Batch", "kind", "I", true)
  | 5 => ("BreadLaw$Batch", "loaves", "I", true)
  | 6 => ("BreadLaw$Batch", "weight", "I", true)
  | 7 => ("BreadLaw$Batch", "firstGift", "I", false)
  | _ => ("BreadLaw$Batch", "gifts", "I", false)
def tyX1 : Nat → FieldType := fun k => match k with
  | 0 => .int
  | 1 => .int
  | 2 => .int
  | 3 => .int
  | 4 => .int
  | 5 => .int
  | 6 => .int
  | 7 => .int
  | _ => .int
abbrev wsX10 : List Cond := u_ws RX1 TX1 9
theorem nmX1 : ∀ a, a < 9 → ∀ b, b < 9 → a ≠ b → (TX1 a).2.1 ≠ (TX1 b).2.1 := by decide +kernel
theorem tyX1_ok : ∀ k, k < 9 → parseFieldDescriptor (TX1 k).2.2.1 = some (tyX1 k) := by decide +kernel
abbrev cX1_init : ByteArray := prog_3_method_1_code
def yX1_init : MethodName := ⟨RX1, "<init>", "(IIIIII)V"⟩
abbrev cX1_detail : ByteArray := prog_3_method_2_code
def yX1_detail : MethodName := ⟨RX1, "detail", "(I)I"⟩
def RX2 : String := "BreadLaw$Book"
def TX2 : u_T := fun k => match k with
  | 0 => ("BreadLaw$Book", "entries", "[LBreadLaw$Entry;", true)
  | 1 => ("BreadLaw$Book", "ground", "[LBreadLaw$Lot;", true)
  | 2 => ("BreadLaw$Book", "giftLots", "[I", true)
  | 3 => ("BreadLaw$Book", "giftOunces", "[I", true)
  | 4 => ("BreadLaw$Book", "count", "I", false)
  | 5 => ("BreadLaw$Book", "groundCount", "I", false)
  | _ => ("BreadLaw$Book", "giftCount", "I", false)
def tyX2 : Nat → FieldType := fun k => match k with
  | 0 => .array (.object "BreadLaw$Entry")
  | 1 => .array (.object "BreadLaw$Lot")
  | 2 => .array .int
  | 3 => .array .int
  | 4 => .int
  | 5 => .int
  | _ => .int
abbrev wsX20 : List Cond := u_ws RX2 TX2 7
theorem nmX2 : ∀ a, a < 7 → ∀ b, b < 7 → a ≠ b → (TX2 a).2.1 ≠ (TX2 b).2.1 := by decide +kernel
theorem tyX2_ok : ∀ k, k < 7 → parseFieldDescriptor (TX2 k).2.2.1 = some (tyX2 k) := by decide +kernel
abbrev cX2_init : ByteArray := prog_4_method_1_code
def yX2_init : MethodName := ⟨RX2, "<init>", "()V"⟩
abbrev cX2_isFull : ByteArray := prog_4_method_2_code
def yX2_isFull : MethodName := ⟨RX2, "isFull", "()Z"⟩
abbrev cX2_enter : ByteArray := prog_4_method_3_code
def yX2_enter : MethodName := ⟨RX2, "enter", "(LBreadLaw$Entry;)V"⟩
abbrev cX2_entryAt : ByteArray := prog_4_method_4_code
def yX2_entryAt : MethodName := ⟨RX2, "entryAt", "(I)LBreadLaw$Entry;"⟩
abbrev cX2_queueFlour : ByteArray := prog_4_method_5_code
def yX2_queueFlour : MethodName := ⟨RX2, "queueFlour", "(LBreadLaw$Lot;)V"⟩
abbrev cX2_takeFlour : ByteArray := prog_4_method_6_code
def yX2_takeFlour : MethodName := ⟨RX2, "takeFlour", "(LBreadLaw$Batch;)V"⟩
abbrev cX2_noteGift : ByteArray := prog_4_method_7_code
def yX2_noteGift : MethodName := ⟨RX2, "noteGift", "(LBreadLaw$Batch;LBreadLaw$Lot;I)V"⟩
abbrev cX2_giftDetail : ByteArray := prog_4_method_8_code
def yX2_giftDetail : MethodName := ⟨RX2, "giftDetail", "(LBreadLaw$Batch;I)I"⟩
def RX3 : String := "BreadLaw$Entry"
def TX3 : u_T := fun k => match k with
  | _ => ("", "", "", false)
def tyX3 : Nat → FieldType := fun k => match k with
  | _ => .int
abbrev wsX30 : List Cond := u_ws RX3 TX3 0
theorem nmX3 : ∀ a, a < 0 → ∀ b, b < 0 → a ≠ b → (TX3 a).2.1 ≠ (TX3 b).2.1 := by decide +kernel
theorem tyX3_ok : ∀ k, k < 0 → parseFieldDescriptor (TX3 k).2.2.1 = some (tyX3 k) := by decide +kernel
abbrev cX3_init : ByteArray := prog_5_method_1_code
def yX3_init : MethodName := ⟨RX3, "<init>", "(IIII)V"⟩
abbrev cX3_week : ByteArray := prog_5_method_2_code
def yX3_week : MethodName := ⟨RX3, "week", "()I"⟩
def RX4 : String := "BreadLaw$Granary"
def TX4 : u_T := fun k => match k with
  | 0 => ("BreadLaw$Granary", "comingOunces", "[I", true)
  | 1 => ("BreadLaw$Granary", "comingHarvests", "[I", true)
  | 2 => ("BreadLaw$Granary", "toCome", "I", false)
  | 3 => ("BreadLaw$Granary", "ounces", "I", false)
  | 4 => ("BreadLaw$Granary", "mouths", "I", false)
  | 5 => ("BreadLaw$Granary", "each", "I", false)
  | 6 => ("BreadLaw$Granary", "ration", "I", false)
  | _ => ("BreadLaw$Granary", "hungerWeeks", "I", false)
def tyX4 : Nat → FieldType := fun k => match k with
  | 0 => .array .int
  | 1 => .array .int
  | 2 => .int
  | 3 => .int
  | 4 => .int
  | 5 => .int
  | 6 => .int
  | _ => .int
abbrev wsX40 : List Cond := u_ws RX4 TX4 8
theorem nmX4 : ∀ a, a < 8 → ∀ b, b < 8 → a ≠ b → (TX4 a).2.1 ≠ (TX4 b).2.1 := by decide +kernel
theorem tyX4_ok : ∀ k, k < 8 → parseFieldDescriptor (TX4 k).2.2.1 = some (tyX4 k) := by decide +kernel
abbrev cX4_init : ByteArray := prog_6_method_1_code
def yX4_init : MethodName := ⟨RX4, "<init>", "()V"⟩
abbrev cX4_expect : ByteArray := prog_6_method_2_code
def yX4_expect : MethodName := ⟨RX4, "expect", "(II)V"⟩
abbrev cX4_needWith : ByteArray := prog_6_method_3_code
def yX4_needWith : MethodName := ⟨RX4, "needWith", "(I)I"⟩
abbrev cX4_withHarvest : ByteArray := prog_6_method_4_code
def yX4_withHarvest : MethodName := ⟨RX4, "withHarvest", "(II)I"⟩
abbrev cX4_endWeek : ByteArray := prog_6_method_5_code
def yX4_endWeek : MethodName := ⟨RX4, "endWeek", "()V"⟩
abbrev cX4_beginWeek : ByteArray := prog_6_method_6_code
def yX4_beginWeek : MethodName := ⟨RX4, "beginWeek", "(I)V"⟩
abbrev cX4_firstHunger : ByteArray := prog_6_method_7_code
def yX4_firstHunger : MethodName := ⟨RX4, "firstHunger", "(III)I"⟩
abbrev cX4_greatestRation : ByteArray := prog_6_method_8_code
def yX4_greatestRation : MethodName := ⟨RX4, "greatestRation", "(II)I"⟩
def RX5 : String := "BreadLaw$Law"
def TX5 : u_T := fun k => match k with
  | 0 => ("BreadLaw$Law", "texts", "[LBreadLaw$Text;", true)
  | _ => ("BreadLaw$Law", "count", "I", false)
def tyX5 : Nat → FieldType := fun k => match k with
  | 0 => .array (.object "BreadLaw$Text")
  | _ => .int
abbrev wsX50 : List Cond := u_ws RX5 TX5 2
theorem nmX5 : ∀ a, a < 2 → ∀ b, b < 2 → a ≠ b → (TX5 a).2.1 ≠ (TX5 b).2.1 := by decide +kernel
theorem tyX5_ok : ∀ k, k < 2 → parseFieldDescriptor (TX5 k).2.2.1 = some (tyX5 k) := by decide +kernel
abbrev cX5_init : ByteArray := prog_7_method_1_code
def yX5_init : MethodName := ⟨RX5, "<init>", "()V"⟩
abbrev cX5_isFull : ByteArray := prog_7_method_2_code
def yX5_isFull : MethodName := ⟨RX5, "isFull", "()Z"⟩
abbrev cX5_enact : ByteArray := prog_7_method_3_code
def yX5_enact : MethodName := ⟨RX5, "enact", "(LBreadLaw$Text;)V"⟩
abbrev cX5_textAt : ByteArray := prog_7_method_4_code
def yX5_textAt : MethodName := ⟨RX5, "textAt", "(I)LBreadLaw$Text;"⟩
abbrev cX5_ruling : ByteArray := prog_7_method_5_code
def yX5_ruling : MethodName := ⟨RX5, "ruling", "(I)LBreadLaw$Text;"⟩
def RX6 : String := "BreadLaw$Lot"
def TX6 : u_T := fun k => match k with
  | 0 => ("BreadLaw$Entry", "sort", "I", true)
  | 1 => ("BreadLaw$Entry", "number", "I", true)
  | 2 => ("BreadLaw$Entry", "at", "I", true)
  | 3 => ("BreadLaw$Entry", "baker", "I", true)
  | 4 => ("BreadLaw$Lot", "ounces", "I", true)
  | 5 => ("BreadLaw$Lot", "price", "I", true)
  | 6 => ("BreadLaw$Lot", "isGround", "Z", false)
  | _ => ("BreadLaw$Lot", "flour", "I", false)
def tyX6 : Nat → FieldType := fun k => match k with
  | 0 => .int
  | 1 => .int
  | 2 => .int
  | 3 => .int
  | 4 => .int
  | 5 => .int
  | 6 => .boolean
  | _ => .int
abbrev wsX60 : List Cond := u_ws RX6 TX6 8
theorem nmX6 : ∀ a, a < 8 → ∀ b, b < 8 → a ≠ b → (TX6 a).2.1 ≠ (TX6 b).2.1 := by decide +kernel
theorem tyX6_ok : ∀ k, k < 8 → parseFieldDescriptor (TX6 k).2.2.1 = some (tyX6 k) := by decide +kernel
abbrev cX6_init : ByteArray := prog_8_method_1_code
def yX6_init : MethodName := ⟨RX6, "<init>", "(IIIII)V"⟩
abbrev cX6_detail : ByteArray := prog_8_method_2_code
def yX6_detail : MethodName := ⟨RX6, "detail", "(I)I"⟩
def RX7 : String := "BreadLaw$Market"
def TX7 : u_T := fun k => match k with
  | 0 => ("BreadLaw$Market", "ounces", "[J", true)
  | _ => ("BreadLaw$Market", "worth", "[J", true)
def tyX7 : Nat → FieldType := fun k => match k with
  | 0 => .array .long
  | _ => .array .long
abbrev wsX70 : List Cond := u_ws RX7 TX7 2
theorem nmX7 : ∀ a, a < 2 → ∀ b, b < 2 → a ≠ b → (TX7 a).2.1 ≠ (TX7 b).2.1 := by decide +kernel
theorem tyX7_ok : ∀ k, k < 2 → parseFieldDescriptor (TX7 k).2.2.1 = some (tyX7 k) := by decide +kernel
abbrev cX7_init : ByteArray := prog_9_method_1_code
def yX7_init : MethodName := ⟨RX7, "<init>", "()V"⟩
abbrev cX7_note : ByteArray := prog_9_method_2_code
def yX7_note : MethodName := ⟨RX7, "note", "(LBreadLaw$Lot;)V"⟩
abbrev cX7_priceOf : ByteArray := prog_9_method_3_code
def yX7_priceOf : MethodName := ⟨RX7, "priceOf", "(I)I"⟩
def RX8 : String := "BreadLaw$Search"
def TX8 : u_T := fun k => match k with
  | 0 => ("BreadLaw$Entry", "sort", "I", true)
  | 1 => ("BreadLaw$Entry", "number", "I", true)
  | 2 => ("BreadLaw$Entry", "at", "I", true)
  | 3 => ("BreadLaw$Entry", "baker", "I", true)
  | 4 => ("BreadLaw$Search", "batch", "I", false)
  | 5 => ("BreadLaw$Search", "age", "I", false)
  | 6 => ("BreadLaw$Search", "weighed", "I", false)
  | 7 => ("BreadLaw$Search", "asked", "I", false)
  | 8 => ("BreadLaw$Search", "isShort", "Z", false)
  | _ => ("BreadLaw$Search", "fine", "I", false)
def tyX8 : Nat → FieldType := fun k => match k with
  | 0 => .int
  | 1 => .int
  | 2 => .int
  | 3 => .int
  | 4 => .int
  | 5 => .int
  | 6 => .int
  | 7 => .int
  | 8 => .boolean
  | _ => .int
abbrev wsX80 : List Cond := u_ws RX8 TX8 10
theorem nmX8 : ∀ a, a < 10 → ∀ b, b < 10 → a ≠ b → (TX8 a).2.1 ≠ (TX8 b).2.1 := by decide +kernel
theorem tyX8_ok : ∀ k, k < 10 → parseFieldDescriptor (TX8 k).2.2.1 = some (tyX8 k) := by decide +kernel
abbrev cX8_init : ByteArray := prog_10_method_1_code
def yX8_init : MethodName := ⟨RX8, "<init>", "(III)V"⟩
abbrev cX8_detail : ByteArray := prog_10_method_2_code
def yX8_detail : MethodName := ⟨RX8, "detail", "(I)I"⟩
def RX9 : String := "BreadLaw$Text"
def TX9 : u_T := fun k => match k with
  | 0 => ("BreadLaw$Text", "number", "I", true)
  | 1 => ("BreadLaw$Text", "week", "I", true)
  | 2 => ("BreadLaw$Text", "allowance", "I", true)
  | 3 => ("BreadLaw$Text", "shares", "[I", true)
  | 4 => ("BreadLaw$Text", "stepPrices", "[I", true)
  | 5 => ("BreadLaw$Text", "stepOunces", "[I", true)
  | _ => ("BreadLaw$Text", "steps", "I", false)
def tyX9 : Nat → FieldType := fun k => match k with
  | 0 => .int
  | 1 => .int
  | 2 => .int
  | 3 => .array .int
  | 4 => .array .int
  | 5 => .array .int
  | _ => .int
abbrev wsX90 : List Cond := u_ws RX9 TX9 7
theorem nmX9 : ∀ a, a < 7 → ∀ b, b < 7 → a ≠ b → (TX9 a).2.1 ≠ (TX9 b).2.1 := by decide +kernel
theorem tyX9_ok : ∀ k, k < 7 → parseFieldDescriptor (TX9 k).2.2.1 = some (tyX9 k) := by decide +kernel
abbrev cX9_init : ByteArray := prog_11_method_1_code
def yX9_init : MethodName := ⟨RX9, "<init>", "(IIIIII)V"⟩
abbrev cX9_isFull : ByteArray := prog_11_method_2_code
def yX9_isFull : MethodName := ⟨RX9, "isFull", "()Z"⟩
abbrev cX9_addStep : ByteArray := prog_11_method_3_code
def yX9_addStep : MethodName := ⟨RX9, "addStep", "(II)V"⟩
abbrev cX9_loaf : ByteArray := prog_11_method_4_code
def yX9_loaf : MethodName := ⟨RX9, "loaf", "(II)I"⟩
abbrev cX9_ouncesAt : ByteArray := prog_11_method_5_code
def yX9_ouncesAt : MethodName := ⟨RX9, "ouncesAt", "(I)I"⟩
def RX10 : String := "BreadLaw$Turns"
def TX10 : u_T := fun k => match k with
  | 0 => ("BreadLaw$Turns", "row", "[I", true)
  | 1 => ("BreadLaw$Turns", "length", "I", false)
  | 2 => ("BreadLaw$Turns", "next", "I", false)
  | _ => ("BreadLaw$Turns", "seed", "I", false)
def tyX10 : Nat → FieldType := fun k => match k with
  | 0 => .array .int
  | 1 => .int
  | 2 => .int
  | _ => .int
abbrev wsX100 : List Cond := u_ws RX10 TX10 4
theorem nmX10 : ∀ a, a < 4 → ∀ b, b < 4 → a ≠ b → (TX10 a).2.1 ≠ (TX10 b).2.1 := by decide +kernel
theorem tyX10_ok : ∀ k, k < 4 → parseFieldDescriptor (TX10 k).2.2.1 = some (tyX10 k) := by decide +kernel
abbrev cX10_init : ByteArray := prog_12_method_1_code
def yX10_init : MethodName := ⟨RX10, "<init>", "()V"⟩
abbrev cX10_dropRow : ByteArray := prog_12_method_2_code
def yX10_dropRow : MethodName := ⟨RX10, "dropRow", "()V"⟩
abbrev cX10_moveOn : ByteArray := prog_12_method_3_code
def yX10_moveOn : MethodName := ⟨RX10, "moveOn", "()V"⟩
abbrev cX10_upNext : ByteArray := prog_12_method_4_code
def yX10_upNext : MethodName := ⟨RX10, "upNext", "(I)I"⟩
abbrev cX10_draw : ByteArray := prog_12_method_5_code
def yX10_draw : MethodName := ⟨RX10, "draw", "(I)V"⟩
def RX11 : String := "BreadLaw"
def TX11 : u_T := fun k => match k with
  | 0 => ("BreadLaw", "book", "LBreadLaw$Book;", true)
  | 1 => ("BreadLaw", "market", "LBreadLaw$Market;", true)
  | 2 => ("BreadLaw", "law", "LBreadLaw$Law;", true)
  | 3 => ("BreadLaw", "turns", "LBreadLaw$Turns;", true)
  | 4 => ("BreadLaw", "granary", "LBreadLaw$Granary;", true)
  | 5 => ("BreadLaw", "bakers", "[LBreadLaw$Baker;", true)
  | 6 => ("BreadLaw", "bakerCount", "I", false)
  | 7 => ("BreadLaw", "now", "I", false)
  | 8 => ("BreadLaw", "dish", "I", false)
  | 9 => ("BreadLaw", "dry", "I", false)
  | 10 => ("BreadLaw", "fine", "I", false)
  | _ => ("BreadLaw", "millerKept", "I", false)
def tyX11 : Nat → FieldType := fun k => match k with
  | 0 => .object "BreadLaw$Book"
  | 1 => .object "BreadLaw$Market"
  | 2 => .object "BreadLaw$Law"
  | 3 => .object "BreadLaw$Turns"
  | 4 => .object "BreadLaw$Granary"
  | 5 => .array (.object "BreadLaw$Baker")
  | 6 => .int
  | 7 => .int
  | 8 => .int
  | 9 => .int
  | 10 => .int
  | _ => .int
abbrev wsX110 : List Cond := u_ws RX11 TX11 12
theorem nmX11 : ∀ a, a < 12 → ∀ b, b < 12 → a ≠ b → (TX11 a).2.1 ≠ (TX11 b).2.1 := by decide +kernel
theorem tyX11_ok : ∀ k, k < 12 → parseFieldDescriptor (TX11 k).2.2.1 = some (tyX11 k) := by decide +kernel
abbrev cX11_init : ByteArray := prog_1_method_1_code
def yX11_init : MethodName := ⟨RX11, "<init>", "()V"⟩
abbrev cX11_go : ByteArray := prog_1_method_2_code
def yX11_go : MethodName := ⟨RX11, "go", "(I)I"⟩
abbrev cX11_baker : ByteArray := prog_1_method_3_code
def yX11_baker : MethodName := ⟨RX11, "baker", "()I"⟩
abbrev cX11_buy : ByteArray := prog_1_method_4_code
def yX11_buy : MethodName := ⟨RX11, "buy", "(III)I"⟩
abbrev cX11_grind : ByteArray := prog_1_method_5_code
def yX11_grind : MethodName := ⟨RX11, "grind", "(I)I"⟩
abbrev cX11_dish : ByteArray := prog_1_method_6_code
def yX11_dish : MethodName := ⟨RX11, "dish", "(I)I"⟩
abbrev cX11_price : ByteArray := prog_1_method_7_code
def yX11_price : MethodName := ⟨RX11, "price", "(I)I"⟩
abbrev cX11_text : ByteArray := prog_1_method_8_code
def yX11_text : MethodName := ⟨RX11, "text", "(IIIII)I"⟩
abbrev cX11_step : ByteArray := prog_1_method_9_code
def yX11_step : MethodName := ⟨RX11, "step", "(III)I"⟩
abbrev cX11_inForce : ByteArray := prog_1_method_10_code
def yX11_inForce : MethodName := ⟨RX11, "inForce", "(I)I"⟩
abbrev cX11_due : ByteArray := prog_1_method_11_code
def yX11_due : MethodName := ⟨RX11, "due", "(II)I"⟩
abbrev cX11_bake : ByteArray := prog_1_method_12_code
def yX11_bake : MethodName := ⟨RX11, "bake", "(IIII)I"⟩
abbrev cX11_search : ByteArray := prog_1_method_13_code
def yX11_search : MethodName := ⟨RX11, "search", "()I"⟩
abbrev cX11_turn : ByteArray := prog_1_method_14_code
def yX11_turn : MethodName := ⟨RX11, "turn", "()I"⟩
abbrev cX11_rules : ByteArray := prog_1_method_15_code
def yX11_rules : MethodName := ⟨RX11, "rules", "(II)I"⟩
abbrev cX11_record : ByteArray := prog_1_method_16_code
def yX11_record : MethodName := ⟨RX11, "record", "(II)I"⟩
abbrev cX11_lot : ByteArray := prog_1_method_17_code
def yX11_lot : MethodName := ⟨RX11, "lot", "(II)I"⟩
abbrev cX11_batch : ByteArray := prog_1_method_18_code
def yX11_batch : MethodName := ⟨RX11, "batch", "(II)I"⟩
abbrev cX11_found : ByteArray := prog_1_method_19_code
def yX11_found : MethodName := ⟨RX11, "found", "(II)I"⟩
abbrev cX11_about : ByteArray := prog_1_method_20_code
def yX11_about : MethodName := ⟨RX11, "about", "(II)I"⟩
abbrev cX11_store : ByteArray := prog_1_method_21_code
def yX11_store : MethodName := ⟨RX11, "store", "(I)I"⟩
abbrev cX11_mouths : ByteArray := prog_1_method_22_code
def yX11_mouths : MethodName := ⟨RX11, "mouths", "(II)I"⟩
abbrev cX11_ration : ByteArray := prog_1_method_23_code
def yX11_ration : MethodName := ⟨RX11, "ration", "(I)I"⟩
abbrev cX11_harvest : ByteArray := prog_1_method_24_code
def yX11_harvest : MethodName := ⟨RX11, "harvest", "(II)I"⟩
abbrev cX11_foretell : ByteArray := prog_1_method_25_code
def yX11_foretell : MethodName := ⟨RX11, "foretell", "(I)I"⟩
abbrev cX11_order : ByteArray := prog_1_method_26_code
def yX11_order : MethodName := ⟨RX11, "order", "(I)I"⟩
abbrev cX11_told : ByteArray := prog_1_method_27_code
def yX11_told : MethodName := ⟨RX11, "told", "(I)I"⟩
abbrev cX11_isOutside : ByteArray := prog_1_method_28_code
def yX11_isOutside : MethodName := ⟨RX11, "isOutside", "(III)Z"⟩
abbrev cX11_weekNow : ByteArray := prog_1_method_29_code
def yX11_weekNow : MethodName := ⟨RX11, "weekNow", "()I"⟩
abbrev cX11_bakerAt : ByteArray := prog_1_method_30_code
def yX11_bakerAt : MethodName := ⟨RX11, "bakerAt", "(I)LBreadLaw$Baker;"⟩
abbrev cX11_toMill : ByteArray := prog_1_method_31_code
def yX11_toMill : MethodName := ⟨RX11, "toMill", "(LBreadLaw$Lot;)I"⟩
abbrev cX11_dueBy : ByteArray := prog_1_method_32_code
def yX11_dueBy : MethodName := ⟨RX11, "dueBy", "(LBreadLaw$Text;II)I"⟩
abbrev cX11_weighLatest : ByteArray := prog_1_method_33_code
def yX11_weighLatest : MethodName := ⟨RX11, "weighLatest", "(LBreadLaw$Search;LBreadLaw$Baker;)V"⟩
abbrev cX11_lessened : ByteArray := prog_1_method_34_code
def yX11_lessened : MethodName := ⟨RX11, "lessened", "(III)I"⟩
abbrev cX11_punish : ByteArray := prog_1_method_35_code
def yX11_punish : MethodName := ⟨RX11, "punish", "(LBreadLaw$Search;LBreadLaw$Baker;)V"⟩
def RX12 : String := "BreadLawModel"
def TX12 : u_T := fun k => match k with
  | 0 => ("BreadLawModel", "week", "I", false)
  | 1 => ("BreadLawModel", "hour", "I", false)
  | 2 => ("BreadLawModel", "bakers", "I", false)
  | 3 => ("BreadLawModel", "sort", "[I", true)
  | 4 => ("BreadLawModel", "atWeek", "[I", true)
  | 5 => ("BreadLawModel", "atHour", "[I", true)
  | 6 => ("BreadLawModel", "bakerOf", "[I", true)
  | 7 => ("BreadLawModel", "records", "I", false)
  | 8 => ("BreadLawModel", "ounces", "[I", true)
  | 9 => ("BreadLawModel", "priceOf", "[I", true)
  | 10 => ("BreadLawModel", "isGround", "[Z", true)
  | 11 => ("BreadLawModel", "flour", "[I", true)
  | 12 => ("BreadLawModel", "ground", "[I", true)
  | 13 => ("BreadLawModel", "groundMany", "I", false)
  | 14 => ("BreadLawModel", "dish", "I", false)
  | 15 => ("BreadLawModel", "milled", "I", false)
  | 16 => ("BreadLawModel", "kindOf", "[I", true)
  | 17 => ("BreadLawModel", "loaves", "[I", true)
  | 18 => ("BreadLawModel", "weight", "[I", true)
  | 19 => ("BreadLawModel", "gaveFrom", "[I", true)
  | 20 => ("BreadLawModel", "gaveMany", "[I", true)
  | 21 => ("BreadLawModel", "gaveLot", "[I", true)
  | 22 => ("BreadLawModel", "gaveOunces", "[I", true)
  | 23 => ("BreadLawModel", "gave", "I", false)
  | 24 => ("BreadLawModel", "found", "[I", true)
  | 25 => ("BreadLawModel", "shorts", "[I", true)
  | 26 => ("BreadLawModel", "fines", "[I", true)
  | 27 => ("BreadLawModel", "barredTo", "[I", true)
  | 28 => ("BreadLawModel", "latest", "[I", true)
  | 29 => ("BreadLawModel", "textWeek", "[I", true)
  | 30 => ("BreadLawModel", "shares", "[I", true)
  | 31 => ("BreadLawModel", "allowance", "[I", true)
  | 32 => ("BreadLawModel", "stepPrice", "[I", true)
  | 33 => ("BreadLawModel", "stepOunces", "[I", true)
  | 34 => ("BreadLawModel", "steps", "[I", true)
  | 35 => ("BreadLawModel", "texts", "I", false)
  | 36 => ("BreadLawModel", "turns", "[I", true)
  | 37 => ("BreadLawModel", "turnsLeft", "I", false)
  | 38 => ("BreadLawModel", "turnsMany", "I", false)
  | 39 => ("BreadLawModel", "seed", "I", false)
  | 40 => ("BreadLawModel", "dry", "I", false)
  | 41 => ("BreadLawModel", "fine", "I", false)
  | 42 => ("BreadLawModel", "store", "I", false)
  | 43 => ("BreadLawModel", "mouths", "I", false)
  | 44 => ("BreadLawModel", "each", "I", false)
  | 45 => ("BreadLawModel", "ration", "I", false)
  | 46 => ("BreadLawModel", "hungers", "I", false)
  | 47 => ("BreadLawModel", "harvestWeek", "[I", true)
  | 48 => ("BreadLawModel", "harvestOunces", "[I", true)
  | _ => ("BreadLawModel", "harvests", "I", false)
def tyX12 : Nat → FieldType := fun k => match k with
  | 0 => .int
  | 1 => .int
  | 2 => .int
  | 3 => .array .int
  | 4 => .array .int
  | 5 => .array .int
  | 6 => .array .int
  | 7 => .int
  | 8 => .array .int
  | 9 => .array .int
  | 10 => .array .boolean
  | 11 => .array .int
  | 12 => .array .int
  | 13 => .int
  | 14 => .int
  | 15 => .int
  | 16 => .array .int
  | 17 => .array .int
  | 18 => .array .int
  | 19 => .array .int
  | 20 => .array .int
  | 21 => .array .int
  | 22 => .array .int
  | 23 => .int
  | 24 => .array .int
  | 25 => .array .int
  | 26 => .array .int
  | 27 => .array .int
  | 28 => .array .int
  | 29 => .array .int
  | 30 => .array .int
  | 31 => .array .int
  | 32 => .array .int
  | 33 => .array .int
  | 34 => .array .int
  | 35 => .int
  | 36 => .array .int
  | 37 => .int
  | 38 => .int
  | 39 => .int
  | 40 => .int
  | 41 => .int
  | 42 => .int
  | 43 => .int
  | 44 => .int
  | 45 => .int
  | 46 => .int
  | 47 => .array .int
  | 48 => .array .int
  | _ => .int
abbrev wsX120 : List Cond := u_ws RX12 TX12 50
theorem nmX12 : ∀ a, a < 50 → ∀ b, b < 50 → a ≠ b → (TX12 a).2.1 ≠ (TX12 b).2.1 := by decide +kernel
theorem tyX12_ok : ∀ k, k < 50 → parseFieldDescriptor (TX12 k).2.2.1 = some (tyX12 k) := by decide +kernel
abbrev cX12_init : ByteArray := prog_14_method_1_code
def yX12_init : MethodName := ⟨RX12, "<init>", "()V"⟩
abbrev cX12_in : ByteArray := prog_14_method_3_code
def yX12_in : MethodName := ⟨RX12, "in", "(JJJ)Z"⟩
abbrev cX12_isBaker : ByteArray := prog_14_method_4_code
def yX12_isBaker : MethodName := ⟨RX12, "isBaker", "(I)Z"⟩
abbrev cX12_isRecord : ByteArray := prog_14_method_5_code
def yX12_isRecord : MethodName := ⟨RX12, "isRecord", "(I)Z"⟩
abbrev cX12_enter : ByteArray := prog_14_method_6_code
def yX12_enter : MethodName := ⟨RX12, "enter", "(II)I"⟩
abbrev cX12_endWeek : ByteArray := prog_14_method_7_code
def yX12_endWeek : MethodName := ⟨RX12, "endWeek", "()V"⟩
abbrev cX12_go : ByteArray := prog_14_method_8_code
def yX12_go : MethodName := ⟨RX12, "go", "(I)I"⟩
abbrev cX12_baker : ByteArray := prog_14_method_9_code
def yX12_baker : MethodName := ⟨RX12, "baker", "()I"⟩
abbrev cX12_buy : ByteArray := prog_14_method_10_code
def yX12_buy : MethodName := ⟨RX12, "buy", "(III)I"⟩
abbrev cX12_grind : ByteArray := prog_14_method_11_code
def yX12_grind : MethodName := ⟨RX12, "grind", "(I)I"⟩
abbrev cX12_dish : ByteArray := prog_14_method_12_code
def yX12_dish : MethodName := ⟨RX12, "dish", "(I)I"⟩
abbrev cX12_priceIn : ByteArray := prog_14_method_13_code
def yX12_priceIn : MethodName := ⟨RX12, "priceIn", "(I)I"⟩
abbrev cX12_price : ByteArray := prog_14_method_14_code
def yX12_price : MethodName := ⟨RX12, "price", "(I)I"⟩
abbrev cX12_text : ByteArray := prog_14_method_15_code
def yX12_text : MethodName := ⟨RX12, "text", "(IIIII)I"⟩
abbrev cX12_step : ByteArray := prog_14_method_16_code
def yX12_step : MethodName := ⟨RX12, "step", "(III)I"⟩
abbrev cX12_textIn : ByteArray := prog_14_method_17_code
def yX12_textIn : MethodName := ⟨RX12, "textIn", "(I)I"⟩
abbrev cX12_inForce : ByteArray := prog_14_method_18_code
def yX12_inForce : MethodName := ⟨RX12, "inForce", "(I)I"⟩
abbrev cX12_dueIn : ByteArray := prog_14_method_19_code
def yX12_dueIn : MethodName := ⟨RX12, "dueIn", "(II)I"⟩
abbrev cX12_due : ByteArray := prog_14_method_20_code
def yX12_due : MethodName := ⟨RX12, "due", "(II)I"⟩
abbrev cX12_flourOf : ByteArray := prog_14_method_21_code
def yX12_flourOf : MethodName := ⟨RX12, "flourOf", "(I)I"⟩
abbrev cX12_bake : ByteArray := prog_14_method_22_code
def yX12_bake : MethodName := ⟨RX12, "bake", "(IIII)I"⟩
abbrev cX12_drawTurns : ByteArray := prog_14_method_23_code
def yX12_drawTurns : MethodName := ⟨RX12, "drawTurns", "()V"⟩
abbrev cX12_lessBy : ByteArray := prog_14_method_24_code
def yX12_lessBy : MethodName := ⟨RX12, "lessBy", "(III)I"⟩
abbrev cX12_search : ByteArray := prog_14_method_25_code
def yX12_search : MethodName := ⟨RX12, "search", "()I"⟩
abbrev cX12_turn : ByteArray := prog_14_method_26_code
def yX12_turn : MethodName := ⟨RX12, "turn", "()I"⟩
abbrev cX12_rules : ByteArray := prog_14_method_27_code
def yX12_rules : MethodName := ⟨RX12, "rules", "(II)I"⟩
abbrev cX12_record : ByteArray := prog_14_method_28_code
def yX12_record : MethodName := ⟨RX12, "record", "(II)I"⟩
abbrev cX12_lot : ByteArray := prog_14_method_29_code
def yX12_lot : MethodName := ⟨RX12, "lot", "(II)I"⟩
abbrev cX12_batch : ByteArray := prog_14_method_30_code
def yX12_batch : MethodName := ⟨RX12, "batch", "(II)I"⟩
abbrev cX12_found : ByteArray := prog_14_method_31_code
def yX12_found : MethodName := ⟨RX12, "found", "(II)I"⟩
abbrev cX12_manyOf : ByteArray := prog_14_method_32_code
def yX12_manyOf : MethodName := ⟨RX12, "manyOf", "(II)I"⟩
abbrev cX12_about : ByteArray := prog_14_method_33_code
def yX12_about : MethodName := ⟨RX12, "about", "(II)I"⟩
abbrev cX12_needOf : ByteArray := prog_14_method_34_code
def yX12_needOf : MethodName := ⟨RX12, "needOf", "(I)I"⟩
abbrev cX12_store : ByteArray := prog_14_method_35_code
def yX12_store : MethodName := ⟨RX12, "store", "(I)I"⟩
abbrev cX12_mouths : ByteArray := prog_14_method_36_code
def yX12_mouths : MethodName := ⟨RX12, "mouths", "(II)I"⟩
abbrev cX12_ration : ByteArray := prog_14_method_37_code
def yX12_ration : MethodName := ⟨RX12, "ration", "(I)I"⟩
abbrev cX12_harvest : ByteArray := prog_14_method_38_code
def yX12_harvest : MethodName := ⟨RX12, "harvest", "(II)I"⟩
abbrev cX12_hungerBy : ByteArray := prog_14_method_39_code
def yX12_hungerBy : MethodName := ⟨RX12, "hungerBy", "(II)I"⟩
abbrev cX12_foretell : ByteArray := prog_14_method_40_code
def yX12_foretell : MethodName := ⟨RX12, "foretell", "(I)I"⟩
abbrev cX12_order : ByteArray := prog_14_method_41_code
def yX12_order : MethodName := ⟨RX12, "order", "(I)I"⟩
abbrev cX12_told : ByteArray := prog_14_method_42_code
def yX12_told : MethodName := ⟨RX12, "told", "(I)I"⟩
def RJ9 : String := "java/lang/Math"
def TJ9 : u_T := fun k => match k with
  | _ => ("", "", "", false)
def tyJ9 : Nat → FieldType := fun k => match k with
  | _ => .int
abbrev wsJ90 : List Cond := u_ws RJ9 TJ9 0
theorem nmJ9 : ∀ a, a < 0 → ∀ b, b < 0 → a ≠ b → (TJ9 a).2.1 ≠ (TJ9 b).2.1 := by decide +kernel
theorem tyJ9_ok : ∀ k, k < 0 → parseFieldDescriptor (TJ9 k).2.2.1 = some (tyJ9 k) := by decide +kernel
abbrev cJ9_max_7cf53 : ByteArray := prog_15_method_65_code
def yJ9_max_7cf53 : MethodName := ⟨RJ9, "max", "(II)I"⟩
abbrev cJ9_min_7cf53 : ByteArray := prog_15_method_69_code
def yJ9_min_7cf53 : MethodName := ⟨RJ9, "min", "(II)I"⟩
def RL : String := "BreadLawLaw"
abbrev cL_law : ByteArray := code
def yL_law : MethodName := ⟨RL, "law", "([I)Z"⟩
def wsX0_init : List Cond := .code yX0_init cX0_init 1 none :: ([.methodLink RX0 3 objectInit, .instanceMethod objectInit, .code objectInit ⟨#[0xb1]⟩ 1 none])
def wsX0_detail : List Cond := .code yX0_detail cX0_detail 2 (some .int) :: ([.fieldLink RX0 9 "BreadLaw$Baker" "flour" "I", .fieldLink RX0 15 "BreadLaw$Baker" "lots" "I", .fieldLink RX0 18 "BreadLaw$Baker" "batches" "I", .fieldLink RX0 21 "BreadLaw$Baker" "searches" "I", .fieldLink RX0 24 "BreadLaw$Baker" "shorts" "I", .fieldLink RX0 27 "BreadLaw$Baker" "fines" "I", .fieldLink RX0 30 "BreadLaw$Baker" "mayBakeFrom" "I", .fieldLink RX0 33 "BreadLaw$Baker" "latest" "LBreadLaw$Batch;", .fieldLink RX0 37 "BreadLaw$Batch" "number" "I", .sameField "BreadLaw$Batch" "BreadLaw$Entry" "number" "I"] ++ wsX00 ++ wsX10 ++ wsX60 ++ wsX80)
def wsX3_init : List Cond := .code yX3_init cX3_init 5 none :: ([.methodLink RX3 3 objectInit, .instanceMethod objectInit, .code objectInit ⟨#[0xb1]⟩ 1 none, .fieldLink RX3 9 "BreadLaw$Entry" "sort" "I", .fieldLink RX3 15 "BreadLaw$Entry" "number" "I", .fieldLink RX3 18 "BreadLaw$Entry" "at" "I", .fieldLink RX3 21 "BreadLaw$Entry" "baker" "I"] ++ wsX10 ++ wsX60 ++ wsX80)
def wsX1_init : List Cond := .code yX1_init cX1_init 7 none :: ([.fieldLink RX1 9 "BreadLaw$Batch" "kind" "I", .fieldLink RX1 15 "BreadLaw$Batch" "loaves" "I", .fieldLink RX1 18 "BreadLaw$Batch" "weight" "I", .methodLink RX1 3 yX3_init, .instanceMethod yX3_init, .initialized RX3, .code yX3_init cX3_init 5 none, .methodLink RX3 3 objectInit, .instanceMethod objectInit, .code objectInit ⟨#[0xb1]⟩ 1 none, .fieldLink RX3 9 "BreadLaw$Entry" "sort" "I", .fieldLink RX3 15 "BreadLaw$Entry" "number" "I", .fieldLink RX3 18 "BreadLaw$Entry" "at" "I", .fieldLink RX3 21 "BreadLaw$Entry" "baker" "I"] ++ wsX10 ++ wsX60 ++ wsX80)
def wsX1_detail : List Cond := .code yX1_detail cX1_detail 2 (some .int) :: ([.fieldLink RX1 9 "BreadLaw$Batch" "kind" "I", .fieldLink RX1 15 "BreadLaw$Batch" "loaves" "I", .fieldLink RX1 18 "BreadLaw$Batch" "weight" "I", .fieldLink RX1 21 "BreadLaw$Batch" "gifts" "I"] ++ wsX10)
def wsX2_init : List Cond := .code yX2_init cX2_init 1 none :: ([.methodLink RX2 3 objectInit, .instanceMethod objectInit, .code objectInit ⟨#[0xb1]⟩ 1 none, .classLink RX2 9 RX3, .fieldLink RX2 11 "BreadLaw$Book" "entries" "[LBreadLaw$Entry;", .classLink RX2 17 RX6, .fieldLink RX2 19 "BreadLaw$Book" "ground" "[LBreadLaw$Lot;", .arrayClass .int, .fieldLink RX2 23 "BreadLaw$Book" "giftLots" "[I", .fieldLink RX2 27 "BreadLaw$Book" "giftOunces" "[I"] ++ wsX20)
def wsX2_isFull : List Cond := .code yX2_isFull cX2_isFull 1 (some .boolean) :: ([.fieldLink RX2 30 "BreadLaw$Book" "count" "I"] ++ wsX20)
def wsX2_enter : List Cond := .code yX2_enter cX2_enter 2 none :: ([.fieldLink RX2 11 "BreadLaw$Book" "entries" "[LBreadLaw$Entry;", .fieldLink RX2 30 "BreadLaw$Book" "count" "I", .methodLink RX2 34 yX2_isFull, .instanceMethod yX2_isFull, .selects RX2 yX2_isFull yX2_isFull, .initialized RX2, .code yX2_isFull cX2_isFull 1 (some .boolean)] ++ wsX20)
def wsX2_entryAt : List Cond := .code yX2_entryAt cX2_entryAt 2 (some (.object "BreadLaw$Entry")) :: ([.fieldLink RX2 30 "BreadLaw$Book" "count" "I", .fieldLink RX2 11 "BreadLaw$Book" "entries" "[LBreadLaw$Entry;"] ++ wsX20)
def wsX2_queueFlour : List Cond := .code yX2_queueFlour cX2_queueFlour 2 none :: ([.fieldLink RX2 38 "BreadLaw$Book" "groundCount" "I", .fieldLink RX2 19 "BreadLaw$Book" "ground" "[LBreadLaw$Lot;"] ++ wsX20)
def wsX2_noteGift : List Cond := .code yX2_noteGift cX2_noteGift 4 none :: ([.fieldLink RX2 49 "BreadLaw$Book" "giftCount" "I", .fieldLink RX2 23 "BreadLaw$Book" "giftLots" "[I", .fieldLink RX2 72 "BreadLaw$Lot" "number" "I", .sameField "BreadLaw$Lot" "BreadLaw$Entry" "number" "I", .fieldLink RX2 27 "BreadLaw$Book" "giftOunces" "[I", .fieldLink RX2 75 "BreadLaw$Batch" "gifts" "I"] ++ wsX20 ++ wsX10 ++ wsX60 ++ wsX80)
def wsX2_takeFlour_r1 : List Cond := [Cond.fieldLink RX2 41 "BreadLaw$Batch" "loaves" "I", Cond.fieldLink RX2 46 "BreadLaw$Batch" "weight" "I", Cond.fieldLink RX2 49 "BreadLaw$Book" "giftCount" "I", Cond.fieldLink RX2 52 "BreadLaw$Batch" "firstGift" "I", Cond.fieldLink RX2 38 "BreadLaw$Book" "groundCount" "I", Cond.fieldLink RX2 19 "BreadLaw$Book" "ground" "[LBreadLaw$Lot;", Cond.fieldLink RX2 55 "BreadLaw$Lot" "baker" "I", Cond.sameField "BreadLaw$Lot" "BreadLaw$Entry" "baker" "I", Cond.fieldLink RX2 58 "BreadLaw$Batch" "baker" "I", Cond.sameField "BreadLaw$Batch" "BreadLaw$Entry" "baker" "I", Cond.fieldLink RX2 59 "BreadLaw$Lot" "flour" "I", Cond.methodLink RX2 62 Lib.Math.min.name, Cond.static Lib.Math.min.name, Cond.initialized "java/lang/Math", Cond.code Lib.Math.min.name Lib.Math.min.code 2 (some .int), Cond.methodLink RX2 68 yX2_noteGift, Cond.instanceMethod yX2_noteGift, Cond.selects RX2 yX2_noteGift yX2_noteGift, Cond.initialized RX2, Cond.code yX2_noteGift cX2_noteGift 4 none, Cond.fieldLink RX2 23 "BreadLaw$Book" "giftLots" "[I", Cond.fieldLink RX2 72 "BreadLaw$Lot" "number" "I", Cond.sameField "BreadLaw$Lot" "BreadLaw$Entry" "number" "I", Cond.fieldLink RX2 27 "BreadLaw$Book" "giftOunces" "[I"]
def wsX2_takeFlour_r2 : List Cond := [Cond.fieldLink RX2 75 "BreadLaw$Batch" "gifts" "I"]
def wsX2_takeFlour : List Cond := .code yX2_takeFlour cX2_takeFlour 6 none :: ((wsX2_takeFlour_r1 ++ wsX2_takeFlour_r2) ++ wsX10 ++ wsX20 ++ wsX60 ++ wsX80)
def wsX2_giftDetail : List Cond := .code yX2_giftDetail cX2_giftDetail 4 (some .int) :: ([.fieldLink RX2 75 "BreadLaw$Batch" "gifts" "I", .fieldLink RX2 52 "BreadLaw$Batch" "firstGift" "I", .fieldLink RX2 49 "BreadLaw$Book" "giftCount" "I", .fieldLink RX2 23 "BreadLaw$Book" "giftLots" "[I", .fieldLink RX2 27 "BreadLaw$Book" "giftOunces" "[I"] ++ wsX10 ++ wsX20)
def wsX3_week : List Cond := .code yX3_week cX3_week 1 (some .int) :: ([.fieldLink RX3 18 "BreadLaw$Entry" "at" "I"] ++ wsX10 ++ wsX60 ++ wsX80)
def wsX4_init : List Cond := .code yX4_init cX4_init 1 none :: ([.methodLink RX4 3 objectInit, .instanceMethod objectInit, .code objectInit ⟨#[0xb1]⟩ 1 none, .arrayClass .int, .fieldLink RX4 9 "BreadLaw$Granary" "comingOunces" "[I", .fieldLink RX4 15 "BreadLaw$Granary" "comingHarvests" "[I", .fieldLink RX4 18 "BreadLaw$Granary" "each" "I", .fieldLink RX4 22 "BreadLaw$Granary" "ration" "I"] ++ wsX40)
def wsX4_expect : List Cond := .code yX4_expect cX4_expect 3 none :: ([.fieldLink RX4 9 "BreadLaw$Granary" "comingOunces" "[I", .fieldLink RX4 15 "BreadLaw$Granary" "comingHarvests" "[I", .fieldLink RX4 25 "BreadLaw$Granary" "toCome" "I"] ++ wsX40)
def wsX4_needWith : List Cond := .code yX4_needWith cX4_needWith 2 (some .int) :: ([.fieldLink RX4 28 "BreadLaw$Granary" "mouths" "I", .fieldLink RX4 18 "BreadLaw$Granary" "each" "I"] ++ wsX40)
def wsX4_withHarvest : List Cond := .code yX4_withHarvest cX4_withHarvest 3 (some .int) :: ([.constant RX4 31 (100000000), .fieldLink RX4 9 "BreadLaw$Granary" "comingOunces" "[I", .methodLink RX4 32 Lib.Math.min.name, .static Lib.Math.min.name, .initialized "java/lang/Math", .code Lib.Math.min.name Lib.Math.min.code 2 (some .int)] ++ wsX40)
def wsX4_endWeek : List Cond := .code yX4_endWeek cX4_endWeek 2 none :: ([.fieldLink RX4 22 "BreadLaw$Granary" "ration" "I", .fieldLink RX4 42 "BreadLaw$Granary" "ounces" "I", .fieldLink RX4 45 "BreadLaw$Granary" "hungerWeeks" "I", .methodLink RX4 48 Lib.Math.max.name, .static Lib.Math.max.name, .initialized "java/lang/Math", .code Lib.Math.max.name Lib.Math.max.code 2 (some .int), .methodLink RX4 38 yX4_needWith, .instanceMethod yX4_needWith, .selects RX4 yX4_needWith yX4_needWith, .initialized RX4, .code yX4_needWith cX4_needWith 2 (some .int), .fieldLink RX4 28 "BreadLaw$Granary" "mouths" "I", .fieldLink RX4 18 "BreadLaw$Granary" "each" "I"] ++ wsX40)
def wsX4_beginWeek : List Cond := .code yX4_beginWeek cX4_beginWeek 2 none :: ([.fieldLink RX4 42 "BreadLaw$Granary" "ounces" "I", .fieldLink RX4 25 "BreadLaw$Granary" "toCome" "I", .fieldLink RX4 15 "BreadLaw$Granary" "comingHarvests" "[I", .methodLink RX4 51 yX4_withHarvest, .instanceMethod yX4_withHarvest, .selects RX4 yX4_withHarvest yX4_withHarvest, .initialized RX4, .code yX4_withHarvest cX4_withHarvest 3 (some .int), .constant RX4 31 (100000000), .fieldLink RX4 9 "BreadLaw$Granary" "comingOunces" "[I", .methodLink RX4 32 Lib.Math.min.name, .static Lib.Math.min.name, .initialized "java/lang/Math", .code Lib.Math.min.name Lib.Math.min.code 2 (some .int)] ++ wsX40)
def wsX4_firstHunger : List Cond := .code yX4_firstHunger cX4_firstHunger 7 (some .int) :: ([.fieldLink RX4 42 "BreadLaw$Granary" "ounces" "I", .methodLink RX4 38 yX4_needWith, .instanceMethod yX4_needWith, .selects RX4 yX4_needWith yX4_needWith, .initialized RX4, .code yX4_needWith cX4_needWith 2 (some .int), .fieldLink RX4 28 "BreadLaw$Granary" "mouths" "I", .fieldLink RX4 18 "BreadLaw$Granary" "each" "I", .methodLink RX4 51 yX4_withHarvest, .instanceMethod yX4_withHarvest, .selects RX4 yX4_withHarvest yX4_withHarvest, .code yX4_withHarvest cX4_withHarvest 3 (some .int), .constant RX4 31 (100000000), .fieldLink RX4 9 "BreadLaw$Granary" "comingOunces" "[I", .methodLink RX4 32 Lib.Math.min.name, .static Lib.Math.min.name, .initialized "java/lang/Math", .code Lib.Math.min.name Lib.Math.min.code 2 (some .int)] ++ wsX40)
def wsX4_greatestRation : List Cond := .code yX4_greatestRation cX4_greatestRation 6 (some .int) :: ([.methodLink RX4 54 yX4_firstHunger, .instanceMethod yX4_firstHunger, .selects RX4 yX4_firstHunger yX4_firstHunger, .initialized RX4, .code yX4_firstHunger cX4_firstHunger 7 (some .int), .fieldLink RX4 42 "BreadLaw$Granary" "ounces" "I", .methodLink RX4 38 yX4_needWith, .instanceMethod yX4_needWith, .selects RX4 yX4_needWith yX4_needWith, .code yX4_needWith cX4_needWith 2 (some .int), .fieldLink RX4 28 "BreadLaw$Granary" "mouths" "I", .fieldLink RX4 18 "BreadLaw$Granary" "each" "I", .methodLink RX4 51 yX4_withHarvest, .instanceMethod yX4_withHarvest, .selects RX4 yX4_withHarvest yX4_withHarvest, .code yX4_withHarvest cX4_withHarvest 3 (some .int), .constant RX4 31 (100000000), .fieldLink RX4 9 "BreadLaw$Granary" "comingOunces" "[I", .methodLink RX4 32 Lib.Math.min.name, .static Lib.Math.min.name, .initialized "java/lang/Math", .code Lib.Math.min.name Lib.Math.min.code 2 (some .int)] ++ wsX40)
def wsX5_init : List Cond := .code yX5_init cX5_init 1 none :: ([.methodLink RX5 3 objectInit, .instanceMethod objectInit, .code objectInit ⟨#[0xb1]⟩ 1 none, .classLink RX5 9 RX9, .fieldLink RX5 11 "BreadLaw$Law" "texts" "[LBreadLaw$Text;"] ++ wsX50)
def wsX5_isFull : List Cond := .code yX5_isFull cX5_isFull 1 (some .boolean) :: ([.fieldLink RX5 17 "BreadLaw$Law" "count" "I"] ++ wsX50)
def wsX5_enact : List Cond := .code yX5_enact cX5_enact 2 none :: ([.fieldLink RX5 11 "BreadLaw$Law" "texts" "[LBreadLaw$Text;", .fieldLink RX5 17 "BreadLaw$Law" "count" "I", .methodLink RX5 21 yX5_isFull, .instanceMethod yX5_isFull, .selects RX5 yX5_isFull yX5_isFull, .initialized RX5, .code yX5_isFull cX5_isFull 1 (some .boolean)] ++ wsX50)
def wsX5_textAt : List Cond := .code yX5_textAt cX5_textAt 2 (some (.object "BreadLaw$Text")) :: ([.fieldLink RX5 17 "BreadLaw$Law" "count" "I", .fieldLink RX5 11 "BreadLaw$Law" "texts" "[LBreadLaw$Text;"] ++ wsX50)
def wsX5_ruling : List Cond := .code yX5_ruling cX5_ruling 5 (some (.object "BreadLaw$Text")) :: ([.fieldLink RX5 17 "BreadLaw$Law" "count" "I", .fieldLink RX5 11 "BreadLaw$Law" "texts" "[LBreadLaw$Text;", .fieldLink RX5 25 "BreadLaw$Text" "week" "I"] ++ wsX50 ++ wsX90)
def wsX6_init : List Cond := .code yX6_init cX6_init 6 none :: ([.fieldLink RX6 9 "BreadLaw$Lot" "ounces" "I", .fieldLink RX6 15 "BreadLaw$Lot" "price" "I", .methodLink RX6 3 yX3_init, .instanceMethod yX3_init, .initialized RX3, .code yX3_init cX3_init 5 none, .methodLink RX3 3 objectInit, .instanceMethod objectInit, .code objectInit ⟨#[0xb1]⟩ 1 none, .fieldLink RX3 9 "BreadLaw$Entry" "sort" "I", .fieldLink RX3 15 "BreadLaw$Entry" "number" "I", .fieldLink RX3 18 "BreadLaw$Entry" "at" "I", .fieldLink RX3 21 "BreadLaw$Entry" "baker" "I"] ++ wsX60 ++ wsX10 ++ wsX80)
def wsX6_detail : List Cond := .code yX6_detail cX6_detail 2 (some .int) :: ([.fieldLink RX6 9 "BreadLaw$Lot" "ounces" "I", .fieldLink RX6 15 "BreadLaw$Lot" "price" "I", .fieldLink RX6 18 "BreadLaw$Lot" "isGround" "Z", .fieldLink RX6 22 "BreadLaw$Lot" "flour" "I"] ++ wsX60)
def wsX7_init : List Cond := .code yX7_init cX7_init 1 none :: ([.methodLink RX7 3 objectInit, .instanceMethod objectInit, .code objectInit ⟨#[0xb1]⟩ 1 none, .arrayClass .long, .fieldLink RX7 9 "BreadLaw$Market" "ounces" "[J", .fieldLink RX7 15 "BreadLaw$Market" "worth" "[J"] ++ wsX70)
def wsX7_note : List Cond := .code yX7_note cX7_note 3 none :: ([.fieldLink RX7 9 "BreadLaw$Market" "ounces" "[J", .fieldLink RX7 24 "BreadLaw$Lot" "ounces" "I", .fieldLink RX7 15 "BreadLaw$Market" "worth" "[J", .fieldLink RX7 27 "BreadLaw$Lot" "price" "I", .methodLink RX7 18 ⟨"BreadLaw$Lot", "week", "()I"⟩, .sameMethod "BreadLaw$Lot" "BreadLaw$Entry" "week" "()I", .selects RX6 ⟨"BreadLaw$Lot", "week", "()I"⟩ yX3_week, .instanceMethod yX3_week, .initialized RX3, .code yX3_week cX3_week 1 (some .int), .fieldLink RX3 18 "BreadLaw$Entry" "at" "I"] ++ wsX70 ++ wsX60 ++ wsX10 ++ wsX80)
def wsX7_priceOf : List Cond := .code yX7_priceOf cX7_priceOf 3 (some .int) :: ([.methodLink RX7 30 Lib.Math.min.name, .static Lib.Math.min.name, .initialized "java/lang/Math", .code Lib.Math.min.name Lib.Math.min.code 2 (some .int), .fieldLink RX7 9 "BreadLaw$Market" "ounces" "[J", .fieldLink RX7 15 "BreadLaw$Market" "worth" "[J"] ++ wsX70)
def wsX8_init : List Cond := .code yX8_init cX8_init 4 none :: ([.fieldLink RX8 9 "BreadLaw$Search" "batch" "I", .methodLink RX8 3 yX3_init, .instanceMethod yX3_init, .initialized RX3, .code yX3_init cX3_init 5 none, .methodLink RX3 3 objectInit, .instanceMethod objectInit, .code objectInit ⟨#[0xb1]⟩ 1 none, .fieldLink RX3 9 "BreadLaw$Entry" "sort" "I", .fieldLink RX3 15 "BreadLaw$Entry" "number" "I", .fieldLink RX3 18 "BreadLaw$Entry" "at" "I", .fieldLink RX3 21 "BreadLaw$Entry" "baker" "I"] ++ wsX80 ++ wsX10 ++ wsX60)
def wsX8_detail : List Cond := .code yX8_detail cX8_detail 2 (some .int) :: ([.fieldLink RX8 9 "BreadLaw$Search" "batch" "I", .fieldLink RX8 15 "BreadLaw$Search" "age" "I", .fieldLink RX8 18 "BreadLaw$Search" "weighed" "I", .fieldLink RX8 21 "BreadLaw$Search" "asked" "I", .fieldLink RX8 24 "BreadLaw$Search" "isShort" "Z", .fieldLink RX8 28 "BreadLaw$Search" "fine" "I"] ++ wsX80)
def wsX9_init : List Cond := .code yX9_init cX9_init 7 none :: ([.methodLink RX9 3 objectInit, .instanceMethod objectInit, .code objectInit ⟨#[0xb1]⟩ 1 none, .fieldLink RX9 9 "BreadLaw$Text" "number" "I", .fieldLink RX9 15 "BreadLaw$Text" "week" "I", .fieldLink RX9 18 "BreadLaw$Text" "allowance" "I", .arrayClass .int, .fieldLink RX9 21 "BreadLaw$Text" "shares" "[I", .fieldLink RX9 25 "BreadLaw$Text" "stepPrices" "[I", .fieldLink RX9 28 "BreadLaw$Text" "stepOunces" "[I"] ++ wsX90)
def wsX9_isFull : List Cond := .code yX9_isFull cX9_isFull 1 (some .boolean) :: ([.fieldLink RX9 31 "BreadLaw$Text" "steps" "I"] ++ wsX90)
def wsX9_addStep : List Cond := .code yX9_addStep cX9_addStep 3 none :: ([.fieldLink RX9 25 "BreadLaw$Text" "stepPrices" "[I", .fieldLink RX9 31 "BreadLaw$Text" "steps" "I", .fieldLink RX9 28 "BreadLaw$Text" "stepOunces" "[I", .methodLink RX9 34 yX9_isFull, .instanceMethod yX9_isFull, .selects RX9 yX9_isFull yX9_isFull, .initialized RX9, .code yX9_isFull cX9_isFull 1 (some .boolean)] ++ wsX90)
def wsX9_ouncesAt : List Cond := .code yX9_ouncesAt cX9_ouncesAt 5 (some .int) :: ([.fieldLink RX9 31 "BreadLaw$Text" "steps" "I", .fieldLink RX9 25 "BreadLaw$Text" "stepPrices" "[I", .fieldLink RX9 28 "BreadLaw$Text" "stepOunces" "[I"] ++ wsX90)
def wsX9_loaf : List Cond := .code yX9_loaf cX9_loaf 3 (some .int) :: ([.fieldLink RX9 21 "BreadLaw$Text" "shares" "[I", .methodLink RX9 38 yX9_ouncesAt, .instanceMethod yX9_ouncesAt, .selects RX9 yX9_ouncesAt yX9_ouncesAt, .initialized RX9, .code yX9_ouncesAt cX9_ouncesAt 5 (some .int), .fieldLink RX9 31 "BreadLaw$Text" "steps" "I", .fieldLink RX9 25 "BreadLaw$Text" "stepPrices" "[I", .fieldLink RX9 28 "BreadLaw$Text" "stepOunces" "[I"] ++ wsX90)
def wsX10_init : List Cond := .code yX10_init cX10_init 1 none :: ([.methodLink RX10 3 objectInit, .instanceMethod objectInit, .code objectInit ⟨#[0xb1]⟩ 1 none, .arrayClass .int, .fieldLink RX10 9 "BreadLaw$Turns" "row" "[I", .fieldLink RX10 15 "BreadLaw$Turns" "seed" "I"] ++ wsX100)
def wsX10_dropRow : List Cond := .code yX10_dropRow cX10_dropRow 1 none :: ([.fieldLink RX10 19 "BreadLaw$Turns" "length" "I", .fieldLink RX10 22 "BreadLaw$Turns" "next" "I"] ++ wsX100)
def wsX10_moveOn : List Cond := .code yX10_moveOn cX10_moveOn 1 none :: ([.fieldLink RX10 22 "BreadLaw$Turns" "next" "I"] ++ wsX100)
def wsX10_draw : List Cond := .code yX10_draw cX10_draw 5 none :: ([.fieldLink RX10 9 "BreadLaw$Turns" "row" "[I", .fieldLink RX10 15 "BreadLaw$Turns" "seed" "I", .constant RX10 35 (1103515245), .constant RX10 36 (2147483647), .constant RX10 37 (65536), .fieldLink RX10 19 "BreadLaw$Turns" "length" "I", .fieldLink RX10 22 "BreadLaw$Turns" "next" "I"] ++ wsX100)
def wsX10_upNext : List Cond := .code yX10_upNext cX10_upNext 2 (some .int) :: ([.fieldLink RX10 22 "BreadLaw$Turns" "next" "I", .fieldLink RX10 19 "BreadLaw$Turns" "length" "I", .methodLink RX10 25 Lib.Math.min.name, .static Lib.Math.min.name, .initialized "java/lang/Math", .code Lib.Math.min.name Lib.Math.min.code 2 (some .int), .fieldLink RX10 9 "BreadLaw$Turns" "row" "[I", .methodLink RX10 31 yX10_draw, .instanceMethod yX10_draw, .selects RX10 yX10_draw yX10_draw, .initialized RX10, .code yX10_draw cX10_draw 5 none, .fieldLink RX10 15 "BreadLaw$Turns" "seed" "I", .constant RX10 35 (1103515245), .constant RX10 36 (2147483647), .constant RX10 37 (65536)] ++ wsX100)
def wsX11_init_r1 : List Cond := [Cond.methodLink RX11 1 objectInit, Cond.instanceMethod objectInit, Cond.code objectInit ⟨#[0xb1]⟩ 1 none, Cond.classLink RX11 7 RX2, Cond.instantiable RX2 7, Cond.initialized RX2, Cond.fieldLink RX11 10 "BreadLaw" "book" "LBreadLaw$Book;", Cond.classLink RX11 16 RX7, Cond.instantiable RX7 2, Cond.initialized RX7, Cond.fieldLink RX11 19 "BreadLaw" "market" "LBreadLaw$Market;", Cond.classLink RX11 23 RX5, Cond.instantiable RX5 2, Cond.initialized RX5, Cond.fieldLink RX11 26 "BreadLaw" "law" "LBreadLaw$Law;", Cond.classLink RX11 30 RX10, Cond.instantiable RX10 4, Cond.initialized RX10, Cond.fieldLink RX11 33 "BreadLaw" "turns" "LBreadLaw$Turns;", Cond.classLink RX11 37 RX4, Cond.instantiable RX4 8, Cond.initialized RX4, Cond.fieldLink RX11 40 "BreadLaw" "granary" "LBreadLaw$Granary;", Cond.classLink RX11 44 RX0]
def wsX11_init_r2 : List Cond := [Cond.fieldLink RX11 46 "BreadLaw" "bakers" "[LBreadLaw$Baker;", Cond.fieldLink RX11 50 "BreadLaw" "dish" "I", Cond.fieldLink RX11 54 "BreadLaw" "dry" "I", Cond.fieldLink RX11 57 "BreadLaw" "fine" "I", Cond.methodLink RX11 9 yX2_init, Cond.instanceMethod yX2_init, Cond.code yX2_init cX2_init 1 none, Cond.methodLink RX2 3 objectInit, Cond.classLink RX2 9 RX3, Cond.fieldLink RX2 11 "BreadLaw$Book" "entries" "[LBreadLaw$Entry;", Cond.classLink RX2 17 RX6, Cond.fieldLink RX2 19 "BreadLaw$Book" "ground" "[LBreadLaw$Lot;", Cond.arrayClass .int, Cond.fieldLink RX2 23 "BreadLaw$Book" "giftLots" "[I", Cond.fieldLink RX2 27 "BreadLaw$Book" "giftOunces" "[I", Cond.methodLink RX11 18 yX7_init, Cond.instanceMethod yX7_init, Cond.code yX7_init cX7_init 1 none, Cond.methodLink RX7 3 objectInit, Cond.arrayClass .long, Cond.fieldLink RX7 9 "BreadLaw$Market" "ounces" "[J", Cond.fieldLink RX7 15 "BreadLaw$Market" "worth" "[J", Cond.methodLink RX11 25 yX5_init, Cond.instanceMethod yX5_init]
def wsX11_init_r3 : List Cond := [Cond.code yX5_init cX5_init 1 none, Cond.methodLink RX5 3 objectInit, Cond.classLink RX5 9 RX9, Cond.fieldLink RX5 11 "BreadLaw$Law" "texts" "[LBreadLaw$Text;", Cond.methodLink RX11 32 yX10_init, Cond.instanceMethod yX10_init, Cond.code yX10_init cX10_init 1 none, Cond.methodLink RX10 3 objectInit, Cond.fieldLink RX10 9 "BreadLaw$Turns" "row" "[I", Cond.fieldLink RX10 15 "BreadLaw$Turns" "seed" "I", Cond.methodLink RX11 39 yX4_init, Cond.instanceMethod yX4_init, Cond.code yX4_init cX4_init 1 none, Cond.methodLink RX4 3 objectInit, Cond.fieldLink RX4 9 "BreadLaw$Granary" "comingOunces" "[I", Cond.fieldLink RX4 15 "BreadLaw$Granary" "comingHarvests" "[I", Cond.fieldLink RX4 18 "BreadLaw$Granary" "each" "I", Cond.fieldLink RX4 22 "BreadLaw$Granary" "ration" "I"]
def wsX11_init : List Cond := .code yX11_init cX11_init 1 none :: ((wsX11_init_r1 ++ (wsX11_init_r2 ++ wsX11_init_r3)) ++ wsX20 ++ wsX110 ++ wsX70 ++ wsX50 ++ wsX100 ++ wsX40)
def wsX11_isOutside : List Cond := .code yX11_isOutside cX11_isOutside 3 (some .boolean) :: ([])
def wsX11_weekNow : List Cond := .code yX11_weekNow cX11_weekNow 1 (some .int) :: ([.fieldLink RX11 64 "BreadLaw" "now" "I"] ++ wsX110)
def wsX11_go_r1 : List Cond := [Cond.fieldLink RX11 64 "BreadLaw" "now" "I", Cond.constant RX11 67 (33600), Cond.fieldLink RX11 40 "BreadLaw" "granary" "LBreadLaw$Granary;", Cond.methodLink RX11 60 yX11_isOutside, Cond.static yX11_isOutside, Cond.initialized RX11, Cond.code yX11_isOutside cX11_isOutside 3 (some .boolean), Cond.methodLink RX11 68 yX11_weekNow, Cond.instanceMethod yX11_weekNow, Cond.selects RX11 yX11_weekNow yX11_weekNow, Cond.code yX11_weekNow cX11_weekNow 1 (some .int), Cond.methodLink RX11 72 yX4_endWeek, Cond.instanceMethod yX4_endWeek, Cond.selects RX4 yX4_endWeek yX4_endWeek, Cond.initialized RX4, Cond.code yX4_endWeek cX4_endWeek 2 none, Cond.fieldLink RX4 22 "BreadLaw$Granary" "ration" "I", Cond.fieldLink RX4 42 "BreadLaw$Granary" "ounces" "I", Cond.fieldLink RX4 45 "BreadLaw$Granary" "hungerWeeks" "I", Cond.methodLink RX4 48 Lib.Math.max.name, Cond.static Lib.Math.max.name, Cond.initialized "java/lang/Math", Cond.code Lib.Math.max.name Lib.Math.max.code 2 (some .int), Cond.methodLink RX4 38 yX4_needWith]
def wsX11_go_r2 : List Cond := [Cond.instanceMethod yX4_needWith, Cond.selects RX4 yX4_needWith yX4_needWith, Cond.code yX4_needWith cX4_needWith 2 (some .int), Cond.fieldLink RX4 28 "BreadLaw$Granary" "mouths" "I", Cond.fieldLink RX4 18 "BreadLaw$Granary" "each" "I", Cond.methodLink RX11 75 yX4_beginWeek, Cond.instanceMethod yX4_beginWeek, Cond.selects RX4 yX4_beginWeek yX4_beginWeek, Cond.code yX4_beginWeek cX4_beginWeek 2 none, Cond.fieldLink RX4 25 "BreadLaw$Granary" "toCome" "I", Cond.fieldLink RX4 15 "BreadLaw$Granary" "comingHarvests" "[I", Cond.methodLink RX4 51 yX4_withHarvest, Cond.instanceMethod yX4_withHarvest, Cond.selects RX4 yX4_withHarvest yX4_withHarvest, Cond.code yX4_withHarvest cX4_withHarvest 3 (some .int), Cond.constant RX4 31 (100000000), Cond.fieldLink RX4 9 "BreadLaw$Granary" "comingOunces" "[I", Cond.methodLink RX4 32 Lib.Math.min.name, Cond.static Lib.Math.min.name, Cond.code Lib.Math.min.name Lib.Math.min.code 2 (some .int)]
def wsX11_go : List Cond := .code yX11_go cX11_go 5 (some .int) :: ((wsX11_go_r1 ++ wsX11_go_r2) ++ wsX110 ++ wsX40)
def wsX11_baker : List Cond := .code yX11_baker cX11_baker 1 (some .int) :: ([.fieldLink RX11 79 "BreadLaw" "bakerCount" "I", .fieldLink RX11 46 "BreadLaw" "bakers" "[LBreadLaw$Baker;", .classLink RX11 44 RX0, .instantiable RX0 8, .initialized RX0, .fieldLink RX11 33 "BreadLaw" "turns" "LBreadLaw$Turns;", .instanceMethod yX0_init, .code yX0_init cX0_init 1 none, .methodLink RX0 3 objectInit, .instanceMethod objectInit, .code objectInit ⟨#[0xb1]⟩ 1 none, .methodLink RX11 83 yX10_dropRow, .instanceMethod yX10_dropRow, .selects RX10 yX10_dropRow yX10_dropRow, .initialized RX10, .code yX10_dropRow cX10_dropRow 1 none, .fieldLink RX10 19 "BreadLaw$Turns" "length" "I", .fieldLink RX10 22 "BreadLaw$Turns" "next" "I"] ++ wsX110 ++ wsX00 ++ wsX100)
def wsX11_bakerAt : List Cond := .code yX11_bakerAt cX11_bakerAt 2 (some (.object "BreadLaw$Baker")) :: ([.fieldLink RX11 79 "BreadLaw" "bakerCount" "I", .fieldLink RX11 46 "BreadLaw" "bakers" "[LBreadLaw$Baker;"] ++ wsX110)
def wsX11_buy_r1 : List Cond := [Cond.constant RX11 90 (100000), Cond.fieldLink RX11 10 "BreadLaw" "book" "LBreadLaw$Book;", Cond.classLink RX11 95 RX6, Cond.instantiable RX6 8, Cond.initialized RX6, Cond.fieldLink RX11 97 "BreadLaw$Book" "count" "I", Cond.fieldLink RX11 64 "BreadLaw" "now" "I", Cond.fieldLink RX11 19 "BreadLaw" "market" "LBreadLaw$Market;", Cond.fieldLink RX11 111 "BreadLaw$Baker" "lots" "I", Cond.fieldLink RX11 114 "BreadLaw$Lot" "number" "I", Cond.sameField "BreadLaw$Lot" "BreadLaw$Entry" "number" "I", Cond.methodLink RX11 86 yX11_bakerAt, Cond.instanceMethod yX11_bakerAt, Cond.selects RX11 yX11_bakerAt yX11_bakerAt, Cond.initialized RX11, Cond.code yX11_bakerAt cX11_bakerAt 2 (some (.object "BreadLaw$Baker")), Cond.fieldLink RX11 79 "BreadLaw" "bakerCount" "I", Cond.fieldLink RX11 46 "BreadLaw" "bakers" "[LBreadLaw$Baker;", Cond.methodLink RX11 60 yX11_isOutside, Cond.static yX11_isOutside, Cond.code yX11_isOutside cX11_isOutside 3 (some .boolean), Cond.methodLink RX11 91 yX2_isFull, Cond.instanceMethod yX2_isFull, Cond.selects RX2 yX2_isFull yX2_isFull]
def wsX11_buy_r2 : List Cond := [Cond.initialized RX2, Cond.code yX2_isFull cX2_isFull 1 (some .boolean), Cond.fieldLink RX2 30 "BreadLaw$Book" "count" "I", Cond.methodLink RX11 100 yX6_init, Cond.instanceMethod yX6_init, Cond.code yX6_init cX6_init 6 none, Cond.fieldLink RX6 9 "BreadLaw$Lot" "ounces" "I", Cond.fieldLink RX6 15 "BreadLaw$Lot" "price" "I", Cond.methodLink RX6 3 yX3_init, Cond.instanceMethod yX3_init, Cond.initialized RX3, Cond.code yX3_init cX3_init 5 none, Cond.methodLink RX3 3 objectInit, Cond.instanceMethod objectInit, Cond.code objectInit ⟨#[0xb1]⟩ 1 none, Cond.fieldLink RX3 9 "BreadLaw$Entry" "sort" "I", Cond.fieldLink RX3 15 "BreadLaw$Entry" "number" "I", Cond.fieldLink RX3 18 "BreadLaw$Entry" "at" "I", Cond.fieldLink RX3 21 "BreadLaw$Entry" "baker" "I", Cond.methodLink RX11 103 yX2_enter, Cond.instanceMethod yX2_enter, Cond.selects RX2 yX2_enter yX2_enter, Cond.code yX2_enter cX2_enter 2 none, Cond.fieldLink RX2 11 "BreadLaw$Book" "entries" "[LBreadLaw$Entry;"]
def wsX11_buy_r3 : List Cond := [Cond.methodLink RX2 34 yX2_isFull, Cond.methodLink RX11 107 yX7_note, Cond.instanceMethod yX7_note, Cond.selects RX7 yX7_note yX7_note, Cond.initialized RX7, Cond.code yX7_note cX7_note 3 none, Cond.fieldLink RX7 9 "BreadLaw$Market" "ounces" "[J", Cond.fieldLink RX7 24 "BreadLaw$Lot" "ounces" "I", Cond.fieldLink RX7 15 "BreadLaw$Market" "worth" "[J", Cond.fieldLink RX7 27 "BreadLaw$Lot" "price" "I", Cond.methodLink RX7 18 ⟨"BreadLaw$Lot", "week", "()I"⟩, Cond.sameMethod "BreadLaw$Lot" "BreadLaw$Entry" "week" "()I", Cond.selects RX6 ⟨"BreadLaw$Lot", "week", "()I"⟩ yX3_week, Cond.instanceMethod yX3_week, Cond.code yX3_week cX3_week 1 (some .int)]
def wsX11_buy : List Cond := .code yX11_buy cX11_buy 6 (some .int) :: ((wsX11_buy_r1 ++ (wsX11_buy_r2 ++ wsX11_buy_r3)) ++ wsX110 ++ wsX60 ++ wsX20 ++ wsX00 ++ wsX10 ++ wsX80 ++ wsX70)
def wsX11_toMill : List Cond := .code yX11_toMill cX11_toMill 4 (some .int) :: ([.fieldLink RX11 50 "BreadLaw" "dish" "I", .fieldLink RX11 268 "BreadLaw$Lot" "ounces" "I", .fieldLink RX11 121 "BreadLaw$Lot" "isGround" "Z", .fieldLink RX11 269 "BreadLaw$Lot" "flour" "I", .fieldLink RX11 10 "BreadLaw" "book" "LBreadLaw$Book;", .fieldLink RX11 273 "BreadLaw$Lot" "baker" "I", .sameField "BreadLaw$Lot" "BreadLaw$Entry" "baker" "I", .fieldLink RX11 167 "BreadLaw$Baker" "flour" "I", .fieldLink RX11 262 "BreadLaw" "millerKept" "I", .methodLink RX11 270 yX2_queueFlour, .instanceMethod yX2_queueFlour, .selects RX2 yX2_queueFlour yX2_queueFlour, .initialized RX2, .code yX2_queueFlour cX2_queueFlour 2 none, .fieldLink RX2 38 "BreadLaw$Book" "groundCount" "I", .fieldLink RX2 19 "BreadLaw$Book" "ground" "[LBreadLaw$Lot;", .methodLink RX11 86 yX11_bakerAt, .instanceMethod yX11_bakerAt, .selects RX11 yX11_bakerAt yX11_bakerAt, .initialized RX11, .code yX11_bakerAt cX11_bakerAt 2 (some (.object "BreadLaw$Baker")), .fieldLink RX11 79 "BreadLaw" "bakerCount" "I", .fieldLink RX11 46 "BreadLaw" "bakers" "[LBreadLaw$Baker;"] ++ wsX110 ++ wsX60 ++ wsX10 ++ wsX80 ++ wsX00 ++ wsX20)
def wsX11_grind_r1 : List Cond := [Cond.fieldLink RX11 10 "BreadLaw" "book" "LBreadLaw$Book;", Cond.classLink RX11 95 "BreadLaw$Lot", Cond.fieldLink RX11 121 "BreadLaw$Lot" "isGround" "Z", Cond.methodLink RX11 117 yX2_entryAt, Cond.instanceMethod yX2_entryAt, Cond.selects RX2 yX2_entryAt yX2_entryAt, Cond.initialized RX2, Cond.code yX2_entryAt cX2_entryAt 2 (some (.object "BreadLaw$Entry")), Cond.fieldLink RX2 30 "BreadLaw$Book" "count" "I", Cond.fieldLink RX2 11 "BreadLaw$Book" "entries" "[LBreadLaw$Entry;", Cond.methodLink RX11 125 yX11_toMill, Cond.instanceMethod yX11_toMill, Cond.selects RX11 yX11_toMill yX11_toMill, Cond.initialized RX11, Cond.code yX11_toMill cX11_toMill 4 (some .int), Cond.fieldLink RX11 50 "BreadLaw" "dish" "I", Cond.fieldLink RX11 268 "BreadLaw$Lot" "ounces" "I", Cond.fieldLink RX11 269 "BreadLaw$Lot" "flour" "I", Cond.fieldLink RX11 273 "BreadLaw$Lot" "baker" "I", Cond.sameField "BreadLaw$Lot" "BreadLaw$Entry" "baker" "I", Cond.fieldLink RX11 167 "BreadLaw$Baker" "flour" "I", Cond.fieldLink RX11 262 "BreadLaw" "millerKept" "I", Cond.methodLink RX11 270 yX2_queueFlour, Cond.instanceMethod yX2_queueFlour]
def wsX11_grind_r2 : List Cond := [Cond.selects RX2 yX2_queueFlour yX2_queueFlour, Cond.code yX2_queueFlour cX2_queueFlour 2 none, Cond.fieldLink RX2 38 "BreadLaw$Book" "groundCount" "I", Cond.fieldLink RX2 19 "BreadLaw$Book" "ground" "[LBreadLaw$Lot;", Cond.methodLink RX11 86 yX11_bakerAt, Cond.instanceMethod yX11_bakerAt, Cond.selects RX11 yX11_bakerAt yX11_bakerAt, Cond.code yX11_bakerAt cX11_bakerAt 2 (some (.object "BreadLaw$Baker")), Cond.fieldLink RX11 79 "BreadLaw" "bakerCount" "I", Cond.fieldLink RX11 46 "BreadLaw" "bakers" "[LBreadLaw$Baker;"]
def wsX11_grind : List Cond := .code yX11_grind cX11_grind 4 (some .int) :: ((wsX11_grind_r1 ++ wsX11_grind_r2) ++ wsX110 ++ wsX60 ++ wsX20 ++ wsX10 ++ wsX80 ++ wsX00)
def wsX11_dish : List Cond := .code yX11_dish cX11_dish 3 (some .int) :: ([.fieldLink RX11 50 "BreadLaw" "dish" "I", .methodLink RX11 60 yX11_isOutside, .static yX11_isOutside, .initialized RX11, .code yX11_isOutside cX11_isOutside 3 (some .boolean)] ++ wsX110)
def wsX11_price : List Cond := .code yX11_price cX11_price 2 (some .int) :: ([.fieldLink RX11 19 "BreadLaw" "market" "LBreadLaw$Market;", .methodLink RX11 68 yX11_weekNow, .instanceMethod yX11_weekNow, .selects RX11 yX11_weekNow yX11_weekNow, .initialized RX11, .code yX11_weekNow cX11_weekNow 1 (some .int), .fieldLink RX11 64 "BreadLaw" "now" "I", .methodLink RX11 60 yX11_isOutside, .static yX11_isOutside, .code yX11_isOutside cX11_isOutside 3 (some .boolean), .methodLink RX11 129 yX7_priceOf, .instanceMethod yX7_priceOf, .selects RX7 yX7_priceOf yX7_priceOf, .initialized RX7, .code yX7_priceOf cX7_priceOf 3 (some .int), .methodLink RX7 30 Lib.Math.min.name, .static Lib.Math.min.name, .initialized "java/lang/Math", .code Lib.Math.min.name Lib.Math.min.code 2 (some .int), .fieldLink RX7 9 "BreadLaw$Market" "ounces" "[J", .fieldLink RX7 15 "BreadLaw$Market" "worth" "[J"] ++ wsX110 ++ wsX70)
def wsX11_text_r1 : List Cond := [Cond.fieldLink RX11 26 "BreadLaw" "law" "LBreadLaw$Law;", Cond.classLink RX11 134 RX9, Cond.instantiable RX9 7, Cond.initialized RX9, Cond.fieldLink RX11 136 "BreadLaw$Law" "count" "I", Cond.fieldLink RX11 144 "BreadLaw$Text" "number" "I", Cond.methodLink RX11 60 yX11_isOutside, Cond.static yX11_isOutside, Cond.initialized RX11, Cond.code yX11_isOutside cX11_isOutside 3 (some .boolean), Cond.methodLink RX11 133 yX5_isFull, Cond.instanceMethod yX5_isFull, Cond.selects RX5 yX5_isFull yX5_isFull, Cond.initialized RX5, Cond.code yX5_isFull cX5_isFull 1 (some .boolean), Cond.fieldLink RX5 17 "BreadLaw$Law" "count" "I", Cond.methodLink RX11 137 yX9_init, Cond.instanceMethod yX9_init, Cond.code yX9_init cX9_init 7 none, Cond.methodLink RX9 3 objectInit, Cond.instanceMethod objectInit, Cond.code objectInit ⟨#[0xb1]⟩ 1 none, Cond.fieldLink RX9 9 "BreadLaw$Text" "number" "I", Cond.fieldLink RX9 15 "BreadLaw$Text" "week" "I"]
def wsX11_text_r2 : List Cond := [Cond.fieldLink RX9 18 "BreadLaw$Text" "allowance" "I", Cond.arrayClass .int, Cond.fieldLink RX9 21 "BreadLaw$Text" "shares" "[I", Cond.fieldLink RX9 25 "BreadLaw$Text" "stepPrices" "[I", Cond.fieldLink RX9 28 "BreadLaw$Text" "stepOunces" "[I", Cond.methodLink RX11 140 yX5_enact, Cond.instanceMethod yX5_enact, Cond.selects RX5 yX5_enact yX5_enact, Cond.code yX5_enact cX5_enact 2 none, Cond.fieldLink RX5 11 "BreadLaw$Law" "texts" "[LBreadLaw$Text;", Cond.methodLink RX5 21 yX5_isFull]
def wsX11_text : List Cond := .code yX11_text cX11_text 7 (some .int) :: ((wsX11_text_r1 ++ wsX11_text_r2) ++ wsX110 ++ wsX90 ++ wsX50)
def wsX11_step_r1 : List Cond := [Cond.fieldLink RX11 26 "BreadLaw" "law" "LBreadLaw$Law;", Cond.fieldLink RX11 154 "BreadLaw$Text" "steps" "I", Cond.methodLink RX11 145 yX5_textAt, Cond.instanceMethod yX5_textAt, Cond.selects RX5 yX5_textAt yX5_textAt, Cond.initialized RX5, Cond.code yX5_textAt cX5_textAt 2 (some (.object "BreadLaw$Text")), Cond.fieldLink RX5 17 "BreadLaw$Law" "count" "I", Cond.fieldLink RX5 11 "BreadLaw$Law" "texts" "[LBreadLaw$Text;", Cond.methodLink RX11 60 yX11_isOutside, Cond.static yX11_isOutside, Cond.initialized RX11, Cond.code yX11_isOutside cX11_isOutside 3 (some .boolean), Cond.methodLink RX11 149 yX9_isFull, Cond.instanceMethod yX9_isFull, Cond.selects RX9 yX9_isFull yX9_isFull, Cond.initialized RX9, Cond.code yX9_isFull cX9_isFull 1 (some .boolean), Cond.fieldLink RX9 31 "BreadLaw$Text" "steps" "I", Cond.methodLink RX11 150 yX9_addStep, Cond.instanceMethod yX9_addStep, Cond.selects RX9 yX9_addStep yX9_addStep, Cond.code yX9_addStep cX9_addStep 3 none, Cond.fieldLink RX9 25 "BreadLaw$Text" "stepPrices" "[I"]
def wsX11_step_r2 : List Cond := [Cond.fieldLink RX9 28 "BreadLaw$Text" "stepOunces" "[I", Cond.methodLink RX9 34 yX9_isFull]
def wsX11_step : List Cond := .code yX11_step cX11_step 5 (some .int) :: ((wsX11_step_r1 ++ wsX11_step_r2) ++ wsX110 ++ wsX90 ++ wsX50)
def wsX11_inForce : List Cond := .code yX11_inForce cX11_inForce 3 (some .int) :: ([.fieldLink RX11 26 "BreadLaw" "law" "LBreadLaw$Law;", .fieldLink RX11 144 "BreadLaw$Text" "number" "I", .methodLink RX11 60 yX11_isOutside, .static yX11_isOutside, .initialized RX11, .code yX11_isOutside cX11_isOutside 3 (some .boolean), .methodLink RX11 157 yX5_ruling, .instanceMethod yX5_ruling, .selects RX5 yX5_ruling yX5_ruling, .initialized RX5, .code yX5_ruling cX5_ruling 5 (some (.object "BreadLaw$Text")), .fieldLink RX5 17 "BreadLaw$Law" "count" "I", .fieldLink RX5 11 "BreadLaw$Law" "texts" "[LBreadLaw$Text;", .fieldLink RX5 25 "BreadLaw$Text" "week" "I"] ++ wsX110 ++ wsX90 ++ wsX50)
def wsX11_dueBy_r1 : List Cond := [Cond.fieldLink RX11 19 "BreadLaw" "market" "LBreadLaw$Market;", Cond.methodLink RX11 129 yX7_priceOf, Cond.instanceMethod yX7_priceOf, Cond.selects RX7 yX7_priceOf yX7_priceOf, Cond.initialized RX7, Cond.code yX7_priceOf cX7_priceOf 3 (some .int), Cond.methodLink RX7 30 Lib.Math.min.name, Cond.static Lib.Math.min.name, Cond.initialized "java/lang/Math", Cond.code Lib.Math.min.name Lib.Math.min.code 2 (some .int), Cond.fieldLink RX7 9 "BreadLaw$Market" "ounces" "[J", Cond.fieldLink RX7 15 "BreadLaw$Market" "worth" "[J", Cond.methodLink RX11 274 yX9_loaf, Cond.instanceMethod yX9_loaf, Cond.selects RX9 yX9_loaf yX9_loaf, Cond.initialized RX9, Cond.code yX9_loaf cX9_loaf 3 (some .int), Cond.fieldLink RX9 21 "BreadLaw$Text" "shares" "[I", Cond.methodLink RX9 38 yX9_ouncesAt, Cond.instanceMethod yX9_ouncesAt, Cond.selects RX9 yX9_ouncesAt yX9_ouncesAt, Cond.code yX9_ouncesAt cX9_ouncesAt 5 (some .int), Cond.fieldLink RX9 31 "BreadLaw$Text" "steps" "I", Cond.fieldLink RX9 25 "BreadLaw$Text" "stepPrices" "[I"]
def wsX11_dueBy_r2 : List Cond := [Cond.fieldLink RX9 28 "BreadLaw$Text" "stepOunces" "[I"]
def wsX11_dueBy : List Cond := .code yX11_dueBy cX11_dueBy 4 (some .int) :: ((wsX11_dueBy_r1 ++ wsX11_dueBy_r2) ++ wsX110 ++ wsX70 ++ wsX90)
def wsX11_due_r1 : List Cond := [Cond.fieldLink RX11 26 "BreadLaw" "law" "LBreadLaw$Law;", Cond.methodLink RX11 68 yX11_weekNow, Cond.instanceMethod yX11_weekNow, Cond.selects RX11 yX11_weekNow yX11_weekNow, Cond.initialized RX11, Cond.code yX11_weekNow cX11_weekNow 1 (some .int), Cond.fieldLink RX11 64 "BreadLaw" "now" "I", Cond.methodLink RX11 60 yX11_isOutside, Cond.static yX11_isOutside, Cond.code yX11_isOutside cX11_isOutside 3 (some .boolean), Cond.methodLink RX11 157 yX5_ruling, Cond.instanceMethod yX5_ruling, Cond.selects RX5 yX5_ruling yX5_ruling, Cond.initialized RX5, Cond.code yX5_ruling cX5_ruling 5 (some (.object "BreadLaw$Text")), Cond.fieldLink RX5 17 "BreadLaw$Law" "count" "I", Cond.fieldLink RX5 11 "BreadLaw$Law" "texts" "[LBreadLaw$Text;", Cond.fieldLink RX5 25 "BreadLaw$Text" "week" "I", Cond.methodLink RX11 160 yX11_dueBy, Cond.instanceMethod yX11_dueBy, Cond.selects RX11 yX11_dueBy yX11_dueBy, Cond.code yX11_dueBy cX11_dueBy 4 (some .int), Cond.fieldLink RX11 19 "BreadLaw" "market" "LBreadLaw$Market;", Cond.methodLink RX11 129 yX7_priceOf]
def wsX11_due_r2 : List Cond := [Cond.instanceMethod yX7_priceOf, Cond.selects RX7 yX7_priceOf yX7_priceOf, Cond.initialized RX7, Cond.code yX7_priceOf cX7_priceOf 3 (some .int), Cond.methodLink RX7 30 Lib.Math.min.name, Cond.static Lib.Math.min.name, Cond.initialized "java/lang/Math", Cond.code Lib.Math.min.name Lib.Math.min.code 2 (some .int), Cond.fieldLink RX7 9 "BreadLaw$Market" "ounces" "[J", Cond.fieldLink RX7 15 "BreadLaw$Market" "worth" "[J", Cond.methodLink RX11 274 yX9_loaf, Cond.instanceMethod yX9_loaf, Cond.selects RX9 yX9_loaf yX9_loaf, Cond.initialized RX9, Cond.code yX9_loaf cX9_loaf 3 (some .int), Cond.fieldLink RX9 21 "BreadLaw$Text" "shares" "[I", Cond.methodLink RX9 38 yX9_ouncesAt, Cond.instanceMethod yX9_ouncesAt, Cond.selects RX9 yX9_ouncesAt yX9_ouncesAt, Cond.code yX9_ouncesAt cX9_ouncesAt 5 (some .int), Cond.fieldLink RX9 31 "BreadLaw$Text" "steps" "I", Cond.fieldLink RX9 25 "BreadLaw$Text" "stepPrices" "[I", Cond.fieldLink RX9 28 "BreadLaw$Text" "stepOunces" "[I"]
def wsX11_due : List Cond := .code yX11_due cX11_due 3 (some .int) :: ((wsX11_due_r1 ++ wsX11_due_r2) ++ wsX110 ++ wsX50 ++ wsX90 ++ wsX70)
def wsX11_bake_r1 : List Cond := [Cond.fieldLink RX11 164 "BreadLaw$Baker" "mayBakeFrom" "I", Cond.fieldLink RX11 10 "BreadLaw" "book" "LBreadLaw$Book;", Cond.fieldLink RX11 167 "BreadLaw$Baker" "flour" "I", Cond.classLink RX11 170 RX1, Cond.instantiable RX1 9, Cond.initialized RX1, Cond.fieldLink RX11 97 "BreadLaw$Book" "count" "I", Cond.fieldLink RX11 64 "BreadLaw" "now" "I", Cond.fieldLink RX11 177 "BreadLaw$Baker" "batches" "I", Cond.fieldLink RX11 180 "BreadLaw$Baker" "latest" "LBreadLaw$Batch;", Cond.fieldLink RX11 184 "BreadLaw$Batch" "number" "I", Cond.sameField "BreadLaw$Batch" "BreadLaw$Entry" "number" "I", Cond.methodLink RX11 86 yX11_bakerAt, Cond.instanceMethod yX11_bakerAt, Cond.selects RX11 yX11_bakerAt yX11_bakerAt, Cond.initialized RX11, Cond.code yX11_bakerAt cX11_bakerAt 2 (some (.object "BreadLaw$Baker")), Cond.fieldLink RX11 79 "BreadLaw" "bakerCount" "I", Cond.fieldLink RX11 46 "BreadLaw" "bakers" "[LBreadLaw$Baker;", Cond.methodLink RX11 60 yX11_isOutside, Cond.static yX11_isOutside, Cond.code yX11_isOutside cX11_isOutside 3 (some .boolean), Cond.methodLink RX11 68 yX11_weekNow, Cond.instanceMethod yX11_weekNow]
def wsX11_bake_r2 : List Cond := [Cond.selects RX11 yX11_weekNow yX11_weekNow, Cond.code yX11_weekNow cX11_weekNow 1 (some .int), Cond.methodLink RX11 91 yX2_isFull, Cond.instanceMethod yX2_isFull, Cond.selects RX2 yX2_isFull yX2_isFull, Cond.initialized RX2, Cond.code yX2_isFull cX2_isFull 1 (some .boolean), Cond.fieldLink RX2 30 "BreadLaw$Book" "count" "I", Cond.methodLink RX11 172 yX1_init, Cond.instanceMethod yX1_init, Cond.code yX1_init cX1_init 7 none, Cond.fieldLink RX1 9 "BreadLaw$Batch" "kind" "I", Cond.fieldLink RX1 15 "BreadLaw$Batch" "loaves" "I", Cond.fieldLink RX1 18 "BreadLaw$Batch" "weight" "I", Cond.methodLink RX1 3 yX3_init, Cond.instanceMethod yX3_init, Cond.initialized RX3, Cond.code yX3_init cX3_init 5 none, Cond.methodLink RX3 3 objectInit, Cond.instanceMethod objectInit, Cond.code objectInit ⟨#[0xb1]⟩ 1 none, Cond.fieldLink RX3 9 "BreadLaw$Entry" "sort" "I", Cond.fieldLink RX3 15 "BreadLaw$Entry" "number" "I", Cond.fieldLink RX3 18 "BreadLaw$Entry" "at" "I"]
def wsX11_bake_r3 : List Cond := [Cond.fieldLink RX3 21 "BreadLaw$Entry" "baker" "I", Cond.methodLink RX11 103 yX2_enter, Cond.instanceMethod yX2_enter, Cond.selects RX2 yX2_enter yX2_enter, Cond.code yX2_enter cX2_enter 2 none, Cond.fieldLink RX2 11 "BreadLaw$Book" "entries" "[LBreadLaw$Entry;", Cond.methodLink RX2 34 yX2_isFull, Cond.methodLink RX11 173 yX2_takeFlour, Cond.instanceMethod yX2_takeFlour, Cond.selects RX2 yX2_takeFlour yX2_takeFlour, Cond.code yX2_takeFlour cX2_takeFlour 6 none, Cond.fieldLink RX2 41 "BreadLaw$Batch" "loaves" "I", Cond.fieldLink RX2 46 "BreadLaw$Batch" "weight" "I", Cond.fieldLink RX2 49 "BreadLaw$Book" "giftCount" "I", Cond.fieldLink RX2 52 "BreadLaw$Batch" "firstGift" "I", Cond.fieldLink RX2 38 "BreadLaw$Book" "groundCount" "I", Cond.fieldLink RX2 19 "BreadLaw$Book" "ground" "[LBreadLaw$Lot;", Cond.fieldLink RX2 55 "BreadLaw$Lot" "baker" "I", Cond.sameField "BreadLaw$Lot" "BreadLaw$Entry" "baker" "I", Cond.fieldLink RX2 58 "BreadLaw$Batch" "baker" "I", Cond.sameField "BreadLaw$Batch" "BreadLaw$Entry" "baker" "I", Cond.fieldLink RX2 59 "BreadLaw$Lot" "flour" "I", Cond.methodLink RX2 62 Lib.Math.min.name, Cond.static Lib.Math.min.name]
def wsX11_bake_r4 : List Cond := [Cond.initialized "java/lang/Math", Cond.code Lib.Math.min.name Lib.Math.min.code 2 (some .int), Cond.methodLink RX2 68 yX2_noteGift, Cond.instanceMethod yX2_noteGift, Cond.selects RX2 yX2_noteGift yX2_noteGift, Cond.code yX2_noteGift cX2_noteGift 4 none, Cond.fieldLink RX2 23 "BreadLaw$Book" "giftLots" "[I", Cond.fieldLink RX2 72 "BreadLaw$Lot" "number" "I", Cond.sameField "BreadLaw$Lot" "BreadLaw$Entry" "number" "I", Cond.fieldLink RX2 27 "BreadLaw$Book" "giftOunces" "[I", Cond.fieldLink RX2 75 "BreadLaw$Batch" "gifts" "I"]
def wsX11_bake : List Cond := .code yX11_bake cX11_bake 7 (some .int) :: ((wsX11_bake_r1 ++ (wsX11_bake_r2 ++ (wsX11_bake_r3 ++ wsX11_bake_r4))) ++ wsX00 ++ wsX110 ++ wsX10 ++ wsX20 ++ wsX60 ++ wsX80)
def wsX11_lessened : List Cond := .code yX11_lessened cX11_lessened 3 (some .int) :: ([.methodLink RX11 303 Lib.Math.max.name, .static Lib.Math.max.name, .initialized "java/lang/Math", .code Lib.Math.max.name Lib.Math.max.code 2 (some .int)])
def wsX11_weighLatest_r1 : List Cond := [Cond.fieldLink RX11 180 "BreadLaw$Baker" "latest" "LBreadLaw$Batch;", Cond.fieldLink RX11 26 "BreadLaw" "law" "LBreadLaw$Law;", Cond.fieldLink RX11 278 "BreadLaw$Text" "allowance" "I", Cond.fieldLink RX11 184 "BreadLaw$Batch" "number" "I", Cond.sameField "BreadLaw$Batch" "BreadLaw$Entry" "number" "I", Cond.fieldLink RX11 281 "BreadLaw$Search" "batch" "I", Cond.fieldLink RX11 64 "BreadLaw" "now" "I", Cond.fieldLink RX11 284 "BreadLaw$Batch" "at" "I", Cond.sameField "BreadLaw$Batch" "BreadLaw$Entry" "at" "I", Cond.fieldLink RX11 285 "BreadLaw$Search" "age" "I", Cond.fieldLink RX11 288 "BreadLaw$Batch" "weight" "I", Cond.fieldLink RX11 54 "BreadLaw" "dry" "I", Cond.fieldLink RX11 294 "BreadLaw$Search" "weighed" "I", Cond.fieldLink RX11 297 "BreadLaw$Batch" "kind" "I", Cond.fieldLink RX11 300 "BreadLaw$Search" "asked" "I", Cond.fieldLink RX11 203 "BreadLaw$Search" "isShort" "Z", Cond.methodLink RX11 277 ⟨"BreadLaw$Batch", "week", "()I"⟩, Cond.sameMethod "BreadLaw$Batch" "BreadLaw$Entry" "week" "()I", Cond.selects RX1 ⟨"BreadLaw$Batch", "week", "()I"⟩ yX3_week, Cond.instanceMethod yX3_week, Cond.initialized RX3, Cond.code yX3_week cX3_week 1 (some .int), Cond.fieldLink RX3 18 "BreadLaw$Entry" "at" "I", Cond.methodLink RX11 157 yX5_ruling]
def wsX11_weighLatest_r2 : List Cond := [Cond.instanceMethod yX5_ruling, Cond.selects RX5 yX5_ruling yX5_ruling, Cond.initialized RX5, Cond.code yX5_ruling cX5_ruling 5 (some (.object "BreadLaw$Text")), Cond.fieldLink RX5 17 "BreadLaw$Law" "count" "I", Cond.fieldLink RX5 11 "BreadLaw$Law" "texts" "[LBreadLaw$Text;", Cond.fieldLink RX5 25 "BreadLaw$Text" "week" "I", Cond.methodLink RX11 291 yX11_lessened, Cond.static yX11_lessened, Cond.initialized RX11, Cond.code yX11_lessened cX11_lessened 3 (some .int), Cond.methodLink RX11 303 Lib.Math.max.name, Cond.static Lib.Math.max.name, Cond.initialized "java/lang/Math", Cond.code Lib.Math.max.name Lib.Math.max.code 2 (some .int), Cond.methodLink RX11 160 yX11_dueBy, Cond.instanceMethod yX11_dueBy, Cond.selects RX11 yX11_dueBy yX11_dueBy, Cond.code yX11_dueBy cX11_dueBy 4 (some .int), Cond.fieldLink RX11 19 "BreadLaw" "market" "LBreadLaw$Market;", Cond.methodLink RX11 129 yX7_priceOf, Cond.instanceMethod yX7_priceOf, Cond.selects RX7 yX7_priceOf yX7_priceOf, Cond.initialized RX7]
def wsX11_weighLatest_r3 : List Cond := [Cond.code yX7_priceOf cX7_priceOf 3 (some .int), Cond.methodLink RX7 30 Lib.Math.min.name, Cond.static Lib.Math.min.name, Cond.code Lib.Math.min.name Lib.Math.min.code 2 (some .int), Cond.fieldLink RX7 9 "BreadLaw$Market" "ounces" "[J", Cond.fieldLink RX7 15 "BreadLaw$Market" "worth" "[J", Cond.methodLink RX11 274 yX9_loaf, Cond.instanceMethod yX9_loaf, Cond.selects RX9 yX9_loaf yX9_loaf, Cond.initialized RX9, Cond.code yX9_loaf cX9_loaf 3 (some .int), Cond.fieldLink RX9 21 "BreadLaw$Text" "shares" "[I", Cond.methodLink RX9 38 yX9_ouncesAt, Cond.instanceMethod yX9_ouncesAt, Cond.selects RX9 yX9_ouncesAt yX9_ouncesAt, Cond.code yX9_ouncesAt cX9_ouncesAt 5 (some .int), Cond.fieldLink RX9 31 "BreadLaw$Text" "steps" "I", Cond.fieldLink RX9 25 "BreadLaw$Text" "stepPrices" "[I", Cond.fieldLink RX9 28 "BreadLaw$Text" "stepOunces" "[I"]
def wsX11_weighLatest : List Cond := .code yX11_weighLatest cX11_weighLatest 6 none :: ((wsX11_weighLatest_r1 ++ (wsX11_weighLatest_r2 ++ wsX11_weighLatest_r3)) ++ wsX00 ++ wsX110 ++ wsX90 ++ wsX10 ++ wsX60 ++ wsX80 ++ wsX50 ++ wsX70)
def wsX11_punish : List Cond := .code yX11_punish cX11_punish 3 none :: ([.fieldLink RX11 308 "BreadLaw$Baker" "shorts" "I", .fieldLink RX11 57 "BreadLaw" "fine" "I", .methodLink RX11 311 Lib.Math.min.name, .static Lib.Math.min.name, .initialized "java/lang/Math", .code Lib.Math.min.name Lib.Math.min.code 2 (some .int), .fieldLink RX11 314 "BreadLaw$Search" "fine" "I", .fieldLink RX11 315 "BreadLaw$Baker" "fines" "I", .fieldLink RX11 164 "BreadLaw$Baker" "mayBakeFrom" "I", .methodLink RX11 68 yX11_weekNow, .instanceMethod yX11_weekNow, .selects RX11 yX11_weekNow yX11_weekNow, .initialized RX11, .code yX11_weekNow cX11_weekNow 1 (some .int), .fieldLink RX11 64 "BreadLaw" "now" "I"] ++ wsX00 ++ wsX110 ++ wsX80)
def wsX11_search_r1 : List Cond := [Cond.fieldLink RX11 79 "BreadLaw" "bakerCount" "I", Cond.fieldLink RX11 10 "BreadLaw" "book" "LBreadLaw$Book;", Cond.fieldLink RX11 33 "BreadLaw" "turns" "LBreadLaw$Turns;", Cond.classLink RX11 191 RX8, Cond.instantiable RX8 10, Cond.initialized RX8, Cond.fieldLink RX11 97 "BreadLaw$Book" "count" "I", Cond.fieldLink RX11 64 "BreadLaw" "now" "I", Cond.fieldLink RX11 196 "BreadLaw$Baker" "searches" "I", Cond.fieldLink RX11 203 "BreadLaw$Search" "isShort" "Z", Cond.fieldLink RX11 209 "BreadLaw$Search" "number" "I", Cond.sameField "BreadLaw$Search" "BreadLaw$Entry" "number" "I", Cond.methodLink RX11 91 yX2_isFull, Cond.instanceMethod yX2_isFull, Cond.selects RX2 yX2_isFull yX2_isFull, Cond.initialized RX2, Cond.code yX2_isFull cX2_isFull 1 (some .boolean), Cond.fieldLink RX2 30 "BreadLaw$Book" "count" "I", Cond.methodLink RX11 185 yX10_upNext, Cond.instanceMethod yX10_upNext, Cond.selects RX10 yX10_upNext yX10_upNext, Cond.initialized RX10, Cond.code yX10_upNext cX10_upNext 2 (some .int), Cond.fieldLink RX10 22 "BreadLaw$Turns" "next" "I"]
def wsX11_search_r2 : List Cond := [Cond.fieldLink RX10 19 "BreadLaw$Turns" "length" "I", Cond.methodLink RX10 25 Lib.Math.min.name, Cond.static Lib.Math.min.name, Cond.initialized "java/lang/Math", Cond.code Lib.Math.min.name Lib.Math.min.code 2 (some .int), Cond.fieldLink RX10 9 "BreadLaw$Turns" "row" "[I", Cond.methodLink RX10 31 yX10_draw, Cond.instanceMethod yX10_draw, Cond.selects RX10 yX10_draw yX10_draw, Cond.code yX10_draw cX10_draw 5 none, Cond.fieldLink RX10 15 "BreadLaw$Turns" "seed" "I", Cond.constant RX10 35 (1103515245), Cond.constant RX10 36 (2147483647), Cond.constant RX10 37 (65536), Cond.methodLink RX11 86 yX11_bakerAt, Cond.instanceMethod yX11_bakerAt, Cond.selects RX11 yX11_bakerAt yX11_bakerAt, Cond.initialized RX11, Cond.code yX11_bakerAt cX11_bakerAt 2 (some (.object "BreadLaw$Baker")), Cond.fieldLink RX11 46 "BreadLaw" "bakers" "[LBreadLaw$Baker;", Cond.methodLink RX11 188 yX10_moveOn, Cond.instanceMethod yX10_moveOn, Cond.selects RX10 yX10_moveOn yX10_moveOn, Cond.code yX10_moveOn cX10_moveOn 1 none]
def wsX11_search_r3 : List Cond := [Cond.methodLink RX11 193 yX8_init, Cond.instanceMethod yX8_init, Cond.code yX8_init cX8_init 4 none, Cond.fieldLink RX8 9 "BreadLaw$Search" "batch" "I", Cond.methodLink RX8 3 yX3_init, Cond.instanceMethod yX3_init, Cond.initialized RX3, Cond.code yX3_init cX3_init 5 none, Cond.methodLink RX3 3 objectInit, Cond.instanceMethod objectInit, Cond.code objectInit ⟨#[0xb1]⟩ 1 none, Cond.fieldLink RX3 9 "BreadLaw$Entry" "sort" "I", Cond.fieldLink RX3 15 "BreadLaw$Entry" "number" "I", Cond.fieldLink RX3 18 "BreadLaw$Entry" "at" "I", Cond.fieldLink RX3 21 "BreadLaw$Entry" "baker" "I", Cond.methodLink RX11 103 yX2_enter, Cond.instanceMethod yX2_enter, Cond.selects RX2 yX2_enter yX2_enter, Cond.code yX2_enter cX2_enter 2 none, Cond.fieldLink RX2 11 "BreadLaw$Book" "entries" "[LBreadLaw$Entry;", Cond.methodLink RX2 34 yX2_isFull, Cond.methodLink RX11 199 yX11_weighLatest, Cond.instanceMethod yX11_weighLatest, Cond.selects RX11 yX11_weighLatest yX11_weighLatest]
def wsX11_search_r4 : List Cond := [Cond.code yX11_weighLatest cX11_weighLatest 6 none, Cond.fieldLink RX11 180 "BreadLaw$Baker" "latest" "LBreadLaw$Batch;", Cond.fieldLink RX11 26 "BreadLaw" "law" "LBreadLaw$Law;", Cond.fieldLink RX11 278 "BreadLaw$Text" "allowance" "I", Cond.fieldLink RX11 184 "BreadLaw$Batch" "number" "I", Cond.sameField "BreadLaw$Batch" "BreadLaw$Entry" "number" "I", Cond.fieldLink RX11 281 "BreadLaw$Search" "batch" "I", Cond.fieldLink RX11 284 "BreadLaw$Batch" "at" "I", Cond.sameField "BreadLaw$Batch" "BreadLaw$Entry" "at" "I", Cond.fieldLink RX11 285 "BreadLaw$Search" "age" "I", Cond.fieldLink RX11 288 "BreadLaw$Batch" "weight" "I", Cond.fieldLink RX11 54 "BreadLaw" "dry" "I", Cond.fieldLink RX11 294 "BreadLaw$Search" "weighed" "I", Cond.fieldLink RX11 297 "BreadLaw$Batch" "kind" "I", Cond.fieldLink RX11 300 "BreadLaw$Search" "asked" "I", Cond.methodLink RX11 277 ⟨"BreadLaw$Batch", "week", "()I"⟩, Cond.sameMethod "BreadLaw$Batch" "BreadLaw$Entry" "week" "()I", Cond.selects RX1 ⟨"BreadLaw$Batch", "week", "()I"⟩ yX3_week, Cond.instanceMethod yX3_week, Cond.code yX3_week cX3_week 1 (some .int), Cond.methodLink RX11 157 yX5_ruling, Cond.instanceMethod yX5_ruling, Cond.selects RX5 yX5_ruling yX5_ruling, Cond.initialized RX5]
def wsX11_search_r5 : List Cond := [Cond.code yX5_ruling cX5_ruling 5 (some (.object "BreadLaw$Text")), Cond.fieldLink RX5 17 "BreadLaw$Law" "count" "I", Cond.fieldLink RX5 11 "BreadLaw$Law" "texts" "[LBreadLaw$Text;", Cond.fieldLink RX5 25 "BreadLaw$Text" "week" "I", Cond.methodLink RX11 291 yX11_lessened, Cond.static yX11_lessened, Cond.code yX11_lessened cX11_lessened 3 (some .int), Cond.methodLink RX11 303 Lib.Math.max.name, Cond.static Lib.Math.max.name, Cond.code Lib.Math.max.name Lib.Math.max.code 2 (some .int), Cond.methodLink RX11 160 yX11_dueBy, Cond.instanceMethod yX11_dueBy, Cond.selects RX11 yX11_dueBy yX11_dueBy, Cond.code yX11_dueBy cX11_dueBy 4 (some .int), Cond.fieldLink RX11 19 "BreadLaw" "market" "LBreadLaw$Market;", Cond.methodLink RX11 129 yX7_priceOf, Cond.instanceMethod yX7_priceOf, Cond.selects RX7 yX7_priceOf yX7_priceOf, Cond.initialized RX7, Cond.code yX7_priceOf cX7_priceOf 3 (some .int), Cond.methodLink RX7 30 Lib.Math.min.name, Cond.fieldLink RX7 9 "BreadLaw$Market" "ounces" "[J", Cond.fieldLink RX7 15 "BreadLaw$Market" "worth" "[J", Cond.methodLink RX11 274 yX9_loaf]
def wsX11_search_r6 : List Cond := [Cond.instanceMethod yX9_loaf, Cond.selects RX9 yX9_loaf yX9_loaf, Cond.initialized RX9, Cond.code yX9_loaf cX9_loaf 3 (some .int), Cond.fieldLink RX9 21 "BreadLaw$Text" "shares" "[I", Cond.methodLink RX9 38 yX9_ouncesAt, Cond.instanceMethod yX9_ouncesAt, Cond.selects RX9 yX9_ouncesAt yX9_ouncesAt, Cond.code yX9_ouncesAt cX9_ouncesAt 5 (some .int), Cond.fieldLink RX9 31 "BreadLaw$Text" "steps" "I", Cond.fieldLink RX9 25 "BreadLaw$Text" "stepPrices" "[I", Cond.fieldLink RX9 28 "BreadLaw$Text" "stepOunces" "[I", Cond.methodLink RX11 206 yX11_punish, Cond.instanceMethod yX11_punish, Cond.selects RX11 yX11_punish yX11_punish, Cond.code yX11_punish cX11_punish 3 none, Cond.fieldLink RX11 308 "BreadLaw$Baker" "shorts" "I", Cond.fieldLink RX11 57 "BreadLaw" "fine" "I", Cond.methodLink RX11 311 Lib.Math.min.name, Cond.fieldLink RX11 314 "BreadLaw$Search" "fine" "I", Cond.fieldLink RX11 315 "BreadLaw$Baker" "fines" "I", Cond.fieldLink RX11 164 "BreadLaw$Baker" "mayBakeFrom" "I", Cond.methodLink RX11 68 yX11_weekNow, Cond.instanceMethod yX11_weekNow]
def wsX11_search_r7 : List Cond := [Cond.selects RX11 yX11_weekNow yX11_weekNow, Cond.code yX11_weekNow cX11_weekNow 1 (some .int)]
def wsX11_search : List Cond := .code yX11_search cX11_search 4 (some .int) :: ((wsX11_search_r1 ++ (wsX11_search_r2 ++ (wsX11_search_r3 ++ (wsX11_search_r4 ++ (wsX11_search_r5 ++ (wsX11_search_r6 ++ wsX11_search_r7)))))) ++ wsX110 ++ wsX80 ++ wsX20 ++ wsX00 ++ wsX10 ++ wsX60 ++ wsX100 ++ wsX90 ++ wsX50 ++ wsX70)
def wsX11_turn : List Cond := .code yX11_turn cX11_turn 1 (some .int) :: ([.fieldLink RX11 79 "BreadLaw" "bakerCount" "I", .fieldLink RX11 33 "BreadLaw" "turns" "LBreadLaw$Turns;", .methodLink RX11 185 yX10_upNext, .instanceMethod yX10_upNext, .selects RX10 yX10_upNext yX10_upNext, .initialized RX10, .code yX10_upNext cX10_upNext 2 (some .int), .fieldLink RX10 22 "BreadLaw$Turns" "next" "I", .fieldLink RX10 19 "BreadLaw$Turns" "length" "I", .methodLink RX10 25 Lib.Math.min.name, .static Lib.Math.min.name, .initialized "java/lang/Math", .code Lib.Math.min.name Lib.Math.min.code 2 (some .int), .fieldLink RX10 9 "BreadLaw$Turns" "row" "[I", .methodLink RX10 31 yX10_draw, .instanceMethod yX10_draw, .selects RX10 yX10_draw yX10_draw, .code yX10_draw cX10_draw 5 none, .fieldLink RX10 15 "BreadLaw$Turns" "seed" "I", .constant RX10 35 (1103515245), .constant RX10 36 (2147483647), .constant RX10 37 (65536)] ++ wsX110 ++ wsX100)
def wsX11_rules : List Cond := .code yX11_rules cX11_rules 3 (some .int) :: ([.fieldLink RX11 54 "BreadLaw" "dry" "I", .fieldLink RX11 57 "BreadLaw" "fine" "I", .methodLink RX11 60 yX11_isOutside, .static yX11_isOutside, .initialized RX11, .code yX11_isOutside cX11_isOutside 3 (some .boolean)] ++ wsX110)
def wsX11_record : List Cond := .code yX11_record cX11_record 4 (some .int) :: ([.fieldLink RX11 10 "BreadLaw" "book" "LBreadLaw$Book;", .fieldLink RX11 210 "BreadLaw$Entry" "sort" "I", .fieldLink RX11 218 "BreadLaw$Entry" "at" "I", .fieldLink RX11 221 "BreadLaw$Entry" "baker" "I", .methodLink RX11 117 yX2_entryAt, .instanceMethod yX2_entryAt, .selects RX2 yX2_entryAt yX2_entryAt, .initialized RX2, .code yX2_entryAt cX2_entryAt 2 (some (.object "BreadLaw$Entry")), .fieldLink RX2 30 "BreadLaw$Book" "count" "I", .fieldLink RX2 11 "BreadLaw$Book" "entries" "[LBreadLaw$Entry;", .methodLink RX11 215 ⟨"BreadLaw$Entry", "week", "()I"⟩, .sameMethod "BreadLaw$Entry" "BreadLaw$Entry" "week" "()I", .selects RX1 ⟨"BreadLaw$Entry", "week", "()I"⟩ yX3_week, .instanceMethod yX3_week, .initialized RX3, .code yX3_week cX3_week 1 (some .int), .fieldLink RX3 18 "BreadLaw$Entry" "at" "I", .selects RX6 ⟨"BreadLaw$Entry", "week", "()I"⟩ yX3_week, .selects RX8 ⟨"BreadLaw$Entry", "week", "()I"⟩ yX3_week] ++ wsX110 ++ wsX10 ++ wsX60 ++ wsX80 ++ wsX20)
def wsX11_lot : List Cond := .code yX11_lot cX11_lot 5 (some .int) :: ([.fieldLink RX11 10 "BreadLaw" "book" "LBreadLaw$Book;", .classLink RX11 95 "BreadLaw$Lot", .methodLink RX11 117 yX2_entryAt, .instanceMethod yX2_entryAt, .selects RX2 yX2_entryAt yX2_entryAt, .initialized RX2, .code yX2_entryAt cX2_entryAt 2 (some (.object "BreadLaw$Entry")), .fieldLink RX2 30 "BreadLaw$Book" "count" "I", .fieldLink RX2 11 "BreadLaw$Book" "entries" "[LBreadLaw$Entry;", .methodLink RX11 60 yX11_isOutside, .static yX11_isOutside, .initialized RX11, .code yX11_isOutside cX11_isOutside 3 (some .boolean), .methodLink RX11 224 yX6_detail, .instanceMethod yX6_detail, .selects RX6 yX6_detail yX6_detail, .initialized RX6, .code yX6_detail cX6_detail 2 (some .int), .fieldLink RX6 9 "BreadLaw$Lot" "ounces" "I", .fieldLink RX6 15 "BreadLaw$Lot" "price" "I", .fieldLink RX6 18 "BreadLaw$Lot" "isGround" "Z", .fieldLink RX6 22 "BreadLaw$Lot" "flour" "I"] ++ wsX110 ++ wsX20 ++ wsX60)
def wsX11_batch_r1 : List Cond := [Cond.fieldLink RX11 10 "BreadLaw" "book" "LBreadLaw$Book;", Cond.classLink RX11 170 "BreadLaw$Batch", Cond.methodLink RX11 117 yX2_entryAt, Cond.instanceMethod yX2_entryAt, Cond.selects RX2 yX2_entryAt yX2_entryAt, Cond.initialized RX2, Cond.code yX2_entryAt cX2_entryAt 2 (some (.object "BreadLaw$Entry")), Cond.fieldLink RX2 30 "BreadLaw$Book" "count" "I", Cond.fieldLink RX2 11 "BreadLaw$Book" "entries" "[LBreadLaw$Entry;", Cond.methodLink RX11 227 yX1_detail, Cond.instanceMethod yX1_detail, Cond.selects RX1 yX1_detail yX1_detail, Cond.initialized RX1, Cond.code yX1_detail cX1_detail 2 (some .int), Cond.fieldLink RX1 9 "BreadLaw$Batch" "kind" "I", Cond.fieldLink RX1 15 "BreadLaw$Batch" "loaves" "I", Cond.fieldLink RX1 18 "BreadLaw$Batch" "weight" "I", Cond.fieldLink RX1 21 "BreadLaw$Batch" "gifts" "I", Cond.methodLink RX11 228 yX2_giftDetail, Cond.instanceMethod yX2_giftDetail, Cond.selects RX2 yX2_giftDetail yX2_giftDetail, Cond.code yX2_giftDetail cX2_giftDetail 4 (some .int), Cond.fieldLink RX2 75 "BreadLaw$Batch" "gifts" "I", Cond.fieldLink RX2 52 "BreadLaw$Batch" "firstGift" "I"]
def wsX11_batch_r2 : List Cond := [Cond.fieldLink RX2 49 "BreadLaw$Book" "giftCount" "I", Cond.fieldLink RX2 23 "BreadLaw$Book" "giftLots" "[I", Cond.fieldLink RX2 27 "BreadLaw$Book" "giftOunces" "[I"]
def wsX11_batch : List Cond := .code yX11_batch cX11_batch 5 (some .int) :: ((wsX11_batch_r1 ++ wsX11_batch_r2) ++ wsX110 ++ wsX20 ++ wsX10)
def wsX11_found : List Cond := .code yX11_found cX11_found 5 (some .int) :: ([.fieldLink RX11 10 "BreadLaw" "book" "LBreadLaw$Book;", .classLink RX11 191 "BreadLaw$Search", .methodLink RX11 117 yX2_entryAt, .instanceMethod yX2_entryAt, .selects RX2 yX2_entryAt yX2_entryAt, .initialized RX2, .code yX2_entryAt cX2_entryAt 2 (some (.object "BreadLaw$Entry")), .fieldLink RX2 30 "BreadLaw$Book" "count" "I", .fieldLink RX2 11 "BreadLaw$Book" "entries" "[LBreadLaw$Entry;", .methodLink RX11 60 yX11_isOutside, .static yX11_isOutside, .initialized RX11, .code yX11_isOutside cX11_isOutside 3 (some .boolean), .methodLink RX11 232 yX8_detail, .instanceMethod yX8_detail, .selects RX8 yX8_detail yX8_detail, .initialized RX8, .code yX8_detail cX8_detail 2 (some .int), .fieldLink RX8 9 "BreadLaw$Search" "batch" "I", .fieldLink RX8 15 "BreadLaw$Search" "age" "I", .fieldLink RX8 18 "BreadLaw$Search" "weighed" "I", .fieldLink RX8 21 "BreadLaw$Search" "asked" "I", .fieldLink RX8 24 "BreadLaw$Search" "isShort" "Z", .fieldLink RX8 28 "BreadLaw$Search" "fine" "I"] ++ wsX110 ++ wsX20 ++ wsX80)
def wsX11_about : List Cond := .code yX11_about cX11_about 4 (some .int) :: ([.methodLink RX11 86 yX11_bakerAt, .instanceMethod yX11_bakerAt, .selects RX11 yX11_bakerAt yX11_bakerAt, .initialized RX11, .code yX11_bakerAt cX11_bakerAt 2 (some (.object "BreadLaw$Baker")), .fieldLink RX11 79 "BreadLaw" "bakerCount" "I", .fieldLink RX11 46 "BreadLaw" "bakers" "[LBreadLaw$Baker;", .methodLink RX11 233 yX0_detail, .instanceMethod yX0_detail, .selects RX0 yX0_detail yX0_detail, .initialized RX0, .code yX0_detail cX0_detail 2 (some .int), .fieldLink RX0 9 "BreadLaw$Baker" "flour" "I", .fieldLink RX0 15 "BreadLaw$Baker" "lots" "I", .fieldLink RX0 18 "BreadLaw$Baker" "batches" "I", .fieldLink RX0 21 "BreadLaw$Baker" "searches" "I", .fieldLink RX0 24 "BreadLaw$Baker" "shorts" "I", .fieldLink RX0 27 "BreadLaw$Baker" "fines" "I", .fieldLink RX0 30 "BreadLaw$Baker" "mayBakeFrom" "I", .fieldLink RX0 33 "BreadLaw$Baker" "latest" "LBreadLaw$Batch;", .fieldLink RX0 37 "BreadLaw$Batch" "number" "I", .sameField "BreadLaw$Batch" "BreadLaw$Entry" "number" "I"] ++ wsX110 ++ wsX00 ++ wsX10 ++ wsX60 ++ wsX80)
def wsX11_store : List Cond := .code yX11_store cX11_store 2 (some .int) :: ([.constant RX11 234 (10000000), .fieldLink RX11 40 "BreadLaw" "granary" "LBreadLaw$Granary;", .fieldLink RX11 235 "BreadLaw$Granary" "ounces" "I", .constant RX11 238 (100000000), .methodLink RX11 60 yX11_isOutside, .static yX11_isOutside, .initialized RX11, .code yX11_isOutside cX11_isOutside 3 (some .boolean)] ++ wsX110 ++ wsX40)
def wsX11_mouths : List Cond := .code yX11_mouths cX11_mouths 3 (some .int) :: ([.fieldLink RX11 40 "BreadLaw" "granary" "LBreadLaw$Granary;", .fieldLink RX11 239 "BreadLaw$Granary" "mouths" "I", .fieldLink RX11 242 "BreadLaw$Granary" "each" "I", .methodLink RX11 60 yX11_isOutside, .static yX11_isOutside, .initialized RX11, .code yX11_isOutside cX11_isOutside 3 (some .boolean)] ++ wsX110 ++ wsX40)
def wsX11_ration : List Cond := .code yX11_ration cX11_ration 3 (some .int) :: ([.fieldLink RX11 40 "BreadLaw" "granary" "LBreadLaw$Granary;", .fieldLink RX11 245 "BreadLaw$Granary" "ration" "I", .methodLink RX11 60 yX11_isOutside, .static yX11_isOutside, .initialized RX11, .code yX11_isOutside cX11_isOutside 3 (some .boolean)] ++ wsX110 ++ wsX40)
def wsX11_harvest : List Cond := .code yX11_harvest cX11_harvest 3 (some .int) :: ([.constant RX11 234 (10000000), .fieldLink RX11 40 "BreadLaw" "granary" "LBreadLaw$Granary;", .fieldLink RX11 248 "BreadLaw$Granary" "toCome" "I", .methodLink RX11 60 yX11_isOutside, .static yX11_isOutside, .initialized RX11, .code yX11_isOutside cX11_isOutside 3 (some .boolean), .methodLink RX11 68 yX11_weekNow, .instanceMethod yX11_weekNow, .selects RX11 yX11_weekNow yX11_weekNow, .code yX11_weekNow cX11_weekNow 1 (some .int), .fieldLink RX11 64 "BreadLaw" "now" "I", .methodLink RX11 251 yX4_expect, .instanceMethod yX4_expect, .selects RX4 yX4_expect yX4_expect, .initialized RX4, .code yX4_expect cX4_expect 3 none, .fieldLink RX4 9 "BreadLaw$Granary" "comingOunces" "[I", .fieldLink RX4 15 "BreadLaw$Granary" "comingHarvests" "[I", .fieldLink RX4 25 "BreadLaw$Granary" "toCome" "I"] ++ wsX110 ++ wsX40)
def wsX11_foretell_r1 : List Cond := [Cond.fieldLink RX11 40 "BreadLaw" "granary" "LBreadLaw$Granary;", Cond.methodLink RX11 60 yX11_isOutside, Cond.static yX11_isOutside, Cond.initialized RX11, Cond.code yX11_isOutside cX11_isOutside 3 (some .boolean), Cond.methodLink RX11 68 yX11_weekNow, Cond.instanceMethod yX11_weekNow, Cond.selects RX11 yX11_weekNow yX11_weekNow, Cond.code yX11_weekNow cX11_weekNow 1 (some .int), Cond.fieldLink RX11 64 "BreadLaw" "now" "I", Cond.methodLink RX11 254 yX4_firstHunger, Cond.instanceMethod yX4_firstHunger, Cond.selects RX4 yX4_firstHunger yX4_firstHunger, Cond.initialized RX4, Cond.code yX4_firstHunger cX4_firstHunger 7 (some .int), Cond.fieldLink RX4 42 "BreadLaw$Granary" "ounces" "I", Cond.methodLink RX4 38 yX4_needWith, Cond.instanceMethod yX4_needWith, Cond.selects RX4 yX4_needWith yX4_needWith, Cond.code yX4_needWith cX4_needWith 2 (some .int), Cond.fieldLink RX4 28 "BreadLaw$Granary" "mouths" "I", Cond.fieldLink RX4 18 "BreadLaw$Granary" "each" "I", Cond.methodLink RX4 51 yX4_withHarvest, Cond.instanceMethod yX4_withHarvest]
def wsX11_foretell_r2 : List Cond := [Cond.selects RX4 yX4_withHarvest yX4_withHarvest, Cond.code yX4_withHarvest cX4_withHarvest 3 (some .int), Cond.constant RX4 31 (100000000), Cond.fieldLink RX4 9 "BreadLaw$Granary" "comingOunces" "[I", Cond.methodLink RX4 32 Lib.Math.min.name, Cond.static Lib.Math.min.name, Cond.initialized "java/lang/Math", Cond.code Lib.Math.min.name Lib.Math.min.code 2 (some .int)]
def wsX11_foretell : List Cond := .code yX11_foretell cX11_foretell 2 (some .int) :: ((wsX11_foretell_r1 ++ wsX11_foretell_r2) ++ wsX110 ++ wsX40)
def wsX11_order_r1 : List Cond := [Cond.fieldLink RX11 40 "BreadLaw" "granary" "LBreadLaw$Granary;", Cond.methodLink RX11 68 yX11_weekNow, Cond.instanceMethod yX11_weekNow, Cond.selects RX11 yX11_weekNow yX11_weekNow, Cond.initialized RX11, Cond.code yX11_weekNow cX11_weekNow 1 (some .int), Cond.fieldLink RX11 64 "BreadLaw" "now" "I", Cond.methodLink RX11 60 yX11_isOutside, Cond.static yX11_isOutside, Cond.code yX11_isOutside cX11_isOutside 3 (some .boolean), Cond.methodLink RX11 258 yX4_greatestRation, Cond.instanceMethod yX4_greatestRation, Cond.selects RX4 yX4_greatestRation yX4_greatestRation, Cond.initialized RX4, Cond.code yX4_greatestRation cX4_greatestRation 6 (some .int), Cond.methodLink RX4 54 yX4_firstHunger, Cond.instanceMethod yX4_firstHunger, Cond.selects RX4 yX4_firstHunger yX4_firstHunger, Cond.code yX4_firstHunger cX4_firstHunger 7 (some .int), Cond.fieldLink RX4 42 "BreadLaw$Granary" "ounces" "I", Cond.methodLink RX4 38 yX4_needWith, Cond.instanceMethod yX4_needWith, Cond.selects RX4 yX4_needWith yX4_needWith, Cond.code yX4_needWith cX4_needWith 2 (some .int)]
def wsX11_order_r2 : List Cond := [Cond.fieldLink RX4 28 "BreadLaw$Granary" "mouths" "I", Cond.fieldLink RX4 18 "BreadLaw$Granary" "each" "I", Cond.methodLink RX4 51 yX4_withHarvest, Cond.instanceMethod yX4_withHarvest, Cond.selects RX4 yX4_withHarvest yX4_withHarvest, Cond.code yX4_withHarvest cX4_withHarvest 3 (some .int), Cond.constant RX4 31 (100000000), Cond.fieldLink RX4 9 "BreadLaw$Granary" "comingOunces" "[I", Cond.methodLink RX4 32 Lib.Math.min.name, Cond.static Lib.Math.min.name, Cond.initialized "java/lang/Math", Cond.code Lib.Math.min.name Lib.Math.min.code 2 (some .int)]
def wsX11_order : List Cond := .code yX11_order cX11_order 2 (some .int) :: ((wsX11_order_r1 ++ wsX11_order_r2) ++ wsX110 ++ wsX40)
def wsX11_told : List Cond := .code yX11_told cX11_told 2 (some .int) :: ([.fieldLink RX11 64 "BreadLaw" "now" "I", .fieldLink RX11 79 "BreadLaw" "bakerCount" "I", .fieldLink RX11 26 "BreadLaw" "law" "LBreadLaw$Law;", .fieldLink RX11 136 "BreadLaw$Law" "count" "I", .fieldLink RX11 10 "BreadLaw" "book" "LBreadLaw$Book;", .fieldLink RX11 97 "BreadLaw$Book" "count" "I", .fieldLink RX11 262 "BreadLaw" "millerKept" "I", .fieldLink RX11 40 "BreadLaw" "granary" "LBreadLaw$Granary;", .fieldLink RX11 235 "BreadLaw$Granary" "ounces" "I", .fieldLink RX11 265 "BreadLaw$Granary" "hungerWeeks" "I", .fieldLink RX11 245 "BreadLaw$Granary" "ration" "I", .fieldLink RX11 248 "BreadLaw$Granary" "toCome" "I", .methodLink RX11 68 yX11_weekNow, .instanceMethod yX11_weekNow, .selects RX11 yX11_weekNow yX11_weekNow, .initialized RX11, .code yX11_weekNow cX11_weekNow 1 (some .int)] ++ wsX110 ++ wsX50 ++ wsX20 ++ wsX40)
def wsX12_init_r1 : List Cond := [Cond.methodLink RX12 1 objectInit, Cond.instanceMethod objectInit, Cond.code objectInit ⟨#[0xb1]⟩ 1 none, Cond.arrayClass .int, Cond.fieldLink RX12 7 "BreadLawModel" "sort" "[I", Cond.fieldLink RX12 13 "BreadLawModel" "atWeek" "[I", Cond.fieldLink RX12 16 "BreadLawModel" "atHour" "[I", Cond.fieldLink RX12 19 "BreadLawModel" "bakerOf" "[I", Cond.fieldLink RX12 22 "BreadLawModel" "ounces" "[I", Cond.fieldLink RX12 25 "BreadLawModel" "priceOf" "[I", Cond.arrayClass .boolean, Cond.fieldLink RX12 28 "BreadLawModel" "isGround" "[Z", Cond.fieldLink RX12 32 "BreadLawModel" "flour" "[I", Cond.fieldLink RX12 35 "BreadLawModel" "ground" "[I", Cond.fieldLink RX12 38 "BreadLawModel" "dish" "I", Cond.fieldLink RX12 42 "BreadLawModel" "kindOf" "[I", Cond.fieldLink RX12 45 "BreadLawModel" "loaves" "[I", Cond.fieldLink RX12 48 "BreadLawModel" "weight" "[I", Cond.fieldLink RX12 51 "BreadLawModel" "gaveFrom" "[I", Cond.fieldLink RX12 54 "BreadLawModel" "gaveMany" "[I", Cond.fieldLink RX12 57 "BreadLawModel" "gaveLot" "[I", Cond.fieldLink RX12 60 "BreadLawModel" "gaveOunces" "[I", Cond.fieldLink RX12 63 "BreadLawModel" "found" "[I", Cond.fieldLink RX12 66 "BreadLawModel" "shorts" "[I"]
def wsX12_init_r2 : List Cond := [Cond.fieldLink RX12 69 "BreadLawModel" "fines" "[I", Cond.fieldLink RX12 72 "BreadLawModel" "barredTo" "[I", Cond.fieldLink RX12 75 "BreadLawModel" "latest" "[I", Cond.fieldLink RX12 78 "BreadLawModel" "textWeek" "[I", Cond.fieldLink RX12 81 "BreadLawModel" "shares" "[I", Cond.fieldLink RX12 84 "BreadLawModel" "allowance" "[I", Cond.fieldLink RX12 87 "BreadLawModel" "stepPrice" "[I", Cond.fieldLink RX12 90 "BreadLawModel" "stepOunces" "[I", Cond.fieldLink RX12 93 "BreadLawModel" "steps" "[I", Cond.fieldLink RX12 96 "BreadLawModel" "turns" "[I", Cond.fieldLink RX12 99 "BreadLawModel" "seed" "I", Cond.fieldLink RX12 102 "BreadLawModel" "dry" "I", Cond.fieldLink RX12 105 "BreadLawModel" "fine" "I", Cond.fieldLink RX12 108 "BreadLawModel" "each" "I", Cond.fieldLink RX12 111 "BreadLawModel" "ration" "I", Cond.fieldLink RX12 114 "BreadLawModel" "harvestWeek" "[I", Cond.fieldLink RX12 117 "BreadLawModel" "harvestOunces" "[I"]
def wsX12_init : List Cond := .code yX12_init cX12_init 1 none :: ((wsX12_init_r1 ++ wsX12_init_r2) ++ wsX120)
def wsX12_in : List Cond := .code yX12_in cX12_in 6 (some .boolean) :: ([])
def wsX12_isBaker : List Cond := .code yX12_isBaker cX12_isBaker 2 (some .boolean) :: ([.fieldLink RX12 120 "BreadLawModel" "bakers" "I", .methodLink RX12 123 yX12_in, .static yX12_in, .initialized RX12, .code yX12_in cX12_in 6 (some .boolean)] ++ wsX120)
def wsX12_isRecord : List Cond := .code yX12_isRecord cX12_isRecord 2 (some .boolean) :: ([.fieldLink RX12 127 "BreadLawModel" "records" "I", .methodLink RX12 123 yX12_in, .static yX12_in, .initialized RX12, .code yX12_in cX12_in 6 (some .boolean)] ++ wsX120)
def wsX12_enter : List Cond := .code yX12_enter cX12_enter 3 (some .int) :: ([.fieldLink RX12 7 "BreadLawModel" "sort" "[I", .fieldLink RX12 127 "BreadLawModel" "records" "I", .fieldLink RX12 13 "BreadLawModel" "atWeek" "[I", .fieldLink RX12 130 "BreadLawModel" "week" "I", .fieldLink RX12 16 "BreadLawModel" "atHour" "[I", .fieldLink RX12 133 "BreadLawModel" "hour" "I", .fieldLink RX12 19 "BreadLawModel" "bakerOf" "[I"] ++ wsX120)
def wsX12_needOf : List Cond := .code yX12_needOf cX12_needOf 2 (some .int) :: ([.fieldLink RX12 238 "BreadLawModel" "mouths" "I", .fieldLink RX12 108 "BreadLawModel" "each" "I", .constantLong RX12 182 (100)] ++ wsX120)
def wsX12_endWeek : List Cond := .code yX12_endWeek cX12_endWeek 4 none :: ([.fieldLink RX12 111 "BreadLawModel" "ration" "I", .fieldLink RX12 140 "BreadLawModel" "hungers" "I", .fieldLink RX12 143 "BreadLawModel" "store" "I", .fieldLink RX12 130 "BreadLawModel" "week" "I", .fieldLink RX12 133 "BreadLawModel" "hour" "I", .fieldLink RX12 146 "BreadLawModel" "harvests" "I", .fieldLink RX12 114 "BreadLawModel" "harvestWeek" "[I", .fieldLink RX12 117 "BreadLawModel" "harvestOunces" "[I", .constant RX12 149 (100000000), .methodLink RX12 136 yX12_needOf, .instanceMethod yX12_needOf, .selects RX12 yX12_needOf yX12_needOf, .initialized RX12, .code yX12_needOf cX12_needOf 2 (some .int), .fieldLink RX12 238 "BreadLawModel" "mouths" "I", .fieldLink RX12 108 "BreadLawModel" "each" "I", .constantLong RX12 182 (100)] ++ wsX120)
def wsX12_go_r1 : List Cond := [Cond.constantLong RX12 150 (5000), Cond.fieldLink RX12 130 "BreadLawModel" "week" "I", Cond.fieldLink RX12 133 "BreadLawModel" "hour" "I", Cond.constant RX12 152 (33599), Cond.methodLink RX12 123 yX12_in, Cond.static yX12_in, Cond.initialized RX12, Cond.code yX12_in cX12_in 6 (some .boolean), Cond.methodLink RX12 153 yX12_endWeek, Cond.instanceMethod yX12_endWeek, Cond.selects RX12 yX12_endWeek yX12_endWeek, Cond.code yX12_endWeek cX12_endWeek 4 none, Cond.fieldLink RX12 111 "BreadLawModel" "ration" "I", Cond.fieldLink RX12 140 "BreadLawModel" "hungers" "I", Cond.fieldLink RX12 143 "BreadLawModel" "store" "I", Cond.fieldLink RX12 146 "BreadLawModel" "harvests" "I", Cond.fieldLink RX12 114 "BreadLawModel" "harvestWeek" "[I", Cond.fieldLink RX12 117 "BreadLawModel" "harvestOunces" "[I", Cond.constant RX12 149 (100000000), Cond.methodLink RX12 136 yX12_needOf, Cond.instanceMethod yX12_needOf, Cond.selects RX12 yX12_needOf yX12_needOf, Cond.code yX12_needOf cX12_needOf 2 (some .int), Cond.fieldLink RX12 238 "BreadLawModel" "mouths" "I"]
def wsX12_go_r2 : List Cond := [Cond.fieldLink RX12 108 "BreadLawModel" "each" "I", Cond.constantLong RX12 182 (100)]
def wsX12_go : List Cond := .code yX12_go cX12_go 3 (some .int) :: ((wsX12_go_r1 ++ wsX12_go_r2) ++ wsX120)
def wsX12_baker : List Cond := .code yX12_baker cX12_baker 1 (some .int) :: ([.fieldLink RX12 120 "BreadLawModel" "bakers" "I", .fieldLink RX12 75 "BreadLawModel" "latest" "[I", .fieldLink RX12 156 "BreadLawModel" "turnsLeft" "I"] ++ wsX120)
def wsX12_buy : List Cond := .code yX12_buy cX12_buy 4 (some .int) :: ([.constantLong RX12 163 (100000), .constantLong RX12 165 (1000), .fieldLink RX12 127 "BreadLawModel" "records" "I", .fieldLink RX12 22 "BreadLawModel" "ounces" "[I", .fieldLink RX12 25 "BreadLawModel" "priceOf" "[I", .methodLink RX12 159 yX12_isBaker, .instanceMethod yX12_isBaker, .selects RX12 yX12_isBaker yX12_isBaker, .initialized RX12, .code yX12_isBaker cX12_isBaker 2 (some .boolean), .fieldLink RX12 120 "BreadLawModel" "bakers" "I", .methodLink RX12 123 yX12_in, .static yX12_in, .code yX12_in cX12_in 6 (some .boolean), .methodLink RX12 167 yX12_enter, .instanceMethod yX12_enter, .selects RX12 yX12_enter yX12_enter, .code yX12_enter cX12_enter 3 (some .int), .fieldLink RX12 7 "BreadLawModel" "sort" "[I", .fieldLink RX12 13 "BreadLawModel" "atWeek" "[I", .fieldLink RX12 130 "BreadLawModel" "week" "I", .fieldLink RX12 16 "BreadLawModel" "atHour" "[I", .fieldLink RX12 133 "BreadLawModel" "hour" "I", .fieldLink RX12 19 "BreadLawModel" "bakerOf" "[I"] ++ wsX120)
def wsX12_grind : List Cond := .code yX12_grind cX12_grind 3 (some .int) :: ([.fieldLink RX12 7 "BreadLawModel" "sort" "[I", .fieldLink RX12 28 "BreadLawModel" "isGround" "[Z", .fieldLink RX12 22 "BreadLawModel" "ounces" "[I", .fieldLink RX12 38 "BreadLawModel" "dish" "I", .fieldLink RX12 32 "BreadLawModel" "flour" "[I", .fieldLink RX12 35 "BreadLawModel" "ground" "[I", .fieldLink RX12 174 "BreadLawModel" "groundMany" "I", .fieldLink RX12 177 "BreadLawModel" "milled" "I", .methodLink RX12 171 yX12_isRecord, .instanceMethod yX12_isRecord, .selects RX12 yX12_isRecord yX12_isRecord, .initialized RX12, .code yX12_isRecord cX12_isRecord 2 (some .boolean), .fieldLink RX12 127 "BreadLawModel" "records" "I", .methodLink RX12 123 yX12_in, .static yX12_in, .code yX12_in cX12_in 6 (some .boolean)] ++ wsX120)
def wsX12_dish : List Cond := .code yX12_dish cX12_dish 3 (some .int) :: ([.constantLong RX12 180 (2), .constantLong RX12 182 (100), .fieldLink RX12 38 "BreadLawModel" "dish" "I", .methodLink RX12 123 yX12_in, .static yX12_in, .initialized RX12, .code yX12_in cX12_in 6 (some .boolean)] ++ wsX120)
def wsX12_priceIn : List Cond := .code yX12_priceIn cX12_priceIn 8 (some .int) :: ([.fieldLink RX12 127 "BreadLawModel" "records" "I", .fieldLink RX12 7 "BreadLawModel" "sort" "[I", .fieldLink RX12 13 "BreadLawModel" "atWeek" "[I", .fieldLink RX12 25 "BreadLawModel" "priceOf" "[I", .fieldLink RX12 22 "BreadLawModel" "ounces" "[I"] ++ wsX120)
def wsX12_price : List Cond := .code yX12_price cX12_price 2 (some .int) :: ([.constantLong RX12 184 (-1), .fieldLink RX12 130 "BreadLawModel" "week" "I", .methodLink RX12 123 yX12_in, .static yX12_in, .initialized RX12, .code yX12_in cX12_in 6 (some .boolean), .methodLink RX12 186 yX12_priceIn, .instanceMethod yX12_priceIn, .selects RX12 yX12_priceIn yX12_priceIn, .code yX12_priceIn cX12_priceIn 8 (some .int), .fieldLink RX12 127 "BreadLawModel" "records" "I", .fieldLink RX12 7 "BreadLawModel" "sort" "[I", .fieldLink RX12 13 "BreadLawModel" "atWeek" "[I", .fieldLink RX12 25 "BreadLawModel" "priceOf" "[I", .fieldLink RX12 22 "BreadLawModel" "ounces" "[I"] ++ wsX120)
def wsX12_text : List Cond := .code yX12_text cX12_text 6 (some .int) :: ([.constantLong RX12 189 (199), .constantLong RX12 191 (10), .constantLong RX12 193 (300), .constantLong RX12 195 (5), .fieldLink RX12 197 "BreadLawModel" "texts" "I", .fieldLink RX12 78 "BreadLawModel" "textWeek" "[I", .fieldLink RX12 81 "BreadLawModel" "shares" "[I", .fieldLink RX12 84 "BreadLawModel" "allowance" "[I", .methodLink RX12 123 yX12_in, .static yX12_in, .initialized RX12, .code yX12_in cX12_in 6 (some .boolean)] ++ wsX120)
def wsX12_step : List Cond := .code yX12_step cX12_step 4 (some .int) :: ([.fieldLink RX12 197 "BreadLawModel" "texts" "I", .constantLong RX12 165 (1000), .fieldLink RX12 93 "BreadLawModel" "steps" "[I", .fieldLink RX12 87 "BreadLawModel" "stepPrice" "[I", .fieldLink RX12 90 "BreadLawModel" "stepOunces" "[I", .methodLink RX12 123 yX12_in, .static yX12_in, .initialized RX12, .code yX12_in cX12_in 6 (some .boolean)] ++ wsX120)
def wsX12_textIn : List Cond := .code yX12_textIn cX12_textIn 4 (some .int) :: ([.fieldLink RX12 197 "BreadLawModel" "texts" "I", .fieldLink RX12 78 "BreadLawModel" "textWeek" "[I"] ++ wsX120)
def wsX12_inForce : List Cond := .code yX12_inForce cX12_inForce 2 (some .int) :: ([.constantLong RX12 189 (199), .methodLink RX12 123 yX12_in, .static yX12_in, .initialized RX12, .code yX12_in cX12_in 6 (some .boolean), .methodLink RX12 200 yX12_textIn, .instanceMethod yX12_textIn, .selects RX12 yX12_textIn yX12_textIn, .code yX12_textIn cX12_textIn 4 (some .int), .fieldLink RX12 197 "BreadLawModel" "texts" "I", .fieldLink RX12 78 "BreadLawModel" "textWeek" "[I"] ++ wsX120)
def wsX12_dueIn : List Cond := .code yX12_dueIn cX12_dueIn 7 (some .int) :: ([.fieldLink RX12 93 "BreadLawModel" "steps" "[I", .fieldLink RX12 87 "BreadLawModel" "stepPrice" "[I", .fieldLink RX12 90 "BreadLawModel" "stepOunces" "[I", .fieldLink RX12 81 "BreadLawModel" "shares" "[I", .methodLink RX12 200 yX12_textIn, .instanceMethod yX12_textIn, .selects RX12 yX12_textIn yX12_textIn, .initialized RX12, .code yX12_textIn cX12_textIn 4 (some .int), .fieldLink RX12 197 "BreadLawModel" "texts" "I", .fieldLink RX12 78 "BreadLawModel" "textWeek" "[I", .methodLink RX12 186 yX12_priceIn, .instanceMethod yX12_priceIn, .selects RX12 yX12_priceIn yX12_priceIn, .code yX12_priceIn cX12_priceIn 8 (some .int), .fieldLink RX12 127 "BreadLawModel" "records" "I", .fieldLink RX12 7 "BreadLawModel" "sort" "[I", .fieldLink RX12 13 "BreadLawModel" "atWeek" "[I", .fieldLink RX12 25 "BreadLawModel" "priceOf" "[I", .fieldLink RX12 22 "BreadLawModel" "ounces" "[I"] ++ wsX120)
def wsX12_due_r1 : List Cond := [Cond.fieldLink RX12 130 "BreadLawModel" "week" "I", Cond.constantLong RX12 180 (2), Cond.methodLink RX12 123 yX12_in, Cond.static yX12_in, Cond.initialized RX12, Cond.code yX12_in cX12_in 6 (some .boolean), Cond.methodLink RX12 203 yX12_dueIn, Cond.instanceMethod yX12_dueIn, Cond.selects RX12 yX12_dueIn yX12_dueIn, Cond.code yX12_dueIn cX12_dueIn 7 (some .int), Cond.fieldLink RX12 93 "BreadLawModel" "steps" "[I", Cond.fieldLink RX12 87 "BreadLawModel" "stepPrice" "[I", Cond.fieldLink RX12 90 "BreadLawModel" "stepOunces" "[I", Cond.fieldLink RX12 81 "BreadLawModel" "shares" "[I", Cond.methodLink RX12 200 yX12_textIn, Cond.instanceMethod yX12_textIn, Cond.selects RX12 yX12_textIn yX12_textIn, Cond.code yX12_textIn cX12_textIn 4 (some .int), Cond.fieldLink RX12 197 "BreadLawModel" "texts" "I", Cond.fieldLink RX12 78 "BreadLawModel" "textWeek" "[I", Cond.methodLink RX12 186 yX12_priceIn, Cond.instanceMethod yX12_priceIn, Cond.selects RX12 yX12_priceIn yX12_priceIn, Cond.code yX12_priceIn cX12_priceIn 8 (some .int)]
def wsX12_due_r2 : List Cond := [Cond.fieldLink RX12 127 "BreadLawModel" "records" "I", Cond.fieldLink RX12 7 "BreadLawModel" "sort" "[I", Cond.fieldLink RX12 13 "BreadLawModel" "atWeek" "[I", Cond.fieldLink RX12 25 "BreadLawModel" "priceOf" "[I", Cond.fieldLink RX12 22 "BreadLawModel" "ounces" "[I"]
def wsX12_due : List Cond := .code yX12_due cX12_due 3 (some .int) :: ((wsX12_due_r1 ++ wsX12_due_r2) ++ wsX120)
def wsX12_flourOf : List Cond := .code yX12_flourOf cX12_flourOf 4 (some .int) :: ([.fieldLink RX12 127 "BreadLawModel" "records" "I", .fieldLink RX12 7 "BreadLawModel" "sort" "[I", .fieldLink RX12 19 "BreadLawModel" "bakerOf" "[I", .fieldLink RX12 32 "BreadLawModel" "flour" "[I"] ++ wsX120)
def wsX12_bake_r1 : List Cond := [Cond.constantLong RX12 180 (2), Cond.constantLong RX12 206 (500), Cond.constantLong RX12 208 (2000), Cond.fieldLink RX12 130 "BreadLawModel" "week" "I", Cond.fieldLink RX12 72 "BreadLawModel" "barredTo" "[I", Cond.fieldLink RX12 127 "BreadLawModel" "records" "I", Cond.fieldLink RX12 42 "BreadLawModel" "kindOf" "[I", Cond.fieldLink RX12 45 "BreadLawModel" "loaves" "[I", Cond.fieldLink RX12 48 "BreadLawModel" "weight" "[I", Cond.fieldLink RX12 51 "BreadLawModel" "gaveFrom" "[I", Cond.fieldLink RX12 213 "BreadLawModel" "gave" "I", Cond.fieldLink RX12 174 "BreadLawModel" "groundMany" "I", Cond.fieldLink RX12 35 "BreadLawModel" "ground" "[I", Cond.fieldLink RX12 19 "BreadLawModel" "bakerOf" "[I", Cond.fieldLink RX12 32 "BreadLawModel" "flour" "[I", Cond.fieldLink RX12 57 "BreadLawModel" "gaveLot" "[I", Cond.fieldLink RX12 60 "BreadLawModel" "gaveOunces" "[I", Cond.fieldLink RX12 54 "BreadLawModel" "gaveMany" "[I", Cond.fieldLink RX12 75 "BreadLawModel" "latest" "[I", Cond.methodLink RX12 159 yX12_isBaker, Cond.instanceMethod yX12_isBaker, Cond.selects RX12 yX12_isBaker yX12_isBaker, Cond.initialized RX12, Cond.code yX12_isBaker cX12_isBaker 2 (some .boolean)]
def wsX12_bake_r2 : List Cond := [Cond.fieldLink RX12 120 "BreadLawModel" "bakers" "I", Cond.methodLink RX12 123 yX12_in, Cond.static yX12_in, Cond.code yX12_in cX12_in 6 (some .boolean), Cond.methodLink RX12 210 yX12_flourOf, Cond.instanceMethod yX12_flourOf, Cond.selects RX12 yX12_flourOf yX12_flourOf, Cond.code yX12_flourOf cX12_flourOf 4 (some .int), Cond.fieldLink RX12 7 "BreadLawModel" "sort" "[I", Cond.methodLink RX12 167 yX12_enter, Cond.instanceMethod yX12_enter, Cond.selects RX12 yX12_enter yX12_enter, Cond.code yX12_enter cX12_enter 3 (some .int), Cond.fieldLink RX12 13 "BreadLawModel" "atWeek" "[I", Cond.fieldLink RX12 16 "BreadLawModel" "atHour" "[I", Cond.fieldLink RX12 133 "BreadLawModel" "hour" "I"]
def wsX12_bake : List Cond := .code yX12_bake cX12_bake 10 (some .int) :: ((wsX12_bake_r1 ++ wsX12_bake_r2) ++ wsX120)
def wsX12_drawTurns : List Cond := .code yX12_drawTurns cX12_drawTurns 4 none :: ([.fieldLink RX12 156 "BreadLawModel" "turnsLeft" "I", .fieldLink RX12 120 "BreadLawModel" "bakers" "I", .fieldLink RX12 96 "BreadLawModel" "turns" "[I", .fieldLink RX12 99 "BreadLawModel" "seed" "I", .constant RX12 216 (1103515245), .constant RX12 217 (2147483647), .constant RX12 218 (65536), .fieldLink RX12 219 "BreadLawModel" "turnsMany" "I"] ++ wsX120)
def wsX12_lessBy : List Cond := .code yX12_lessBy cX12_lessBy 4 (some .int) :: ([])
def wsX12_search_r1 : List Cond := [Cond.fieldLink RX12 120 "BreadLawModel" "bakers" "I", Cond.fieldLink RX12 127 "BreadLawModel" "records" "I", Cond.fieldLink RX12 96 "BreadLawModel" "turns" "[I", Cond.fieldLink RX12 219 "BreadLawModel" "turnsMany" "I", Cond.fieldLink RX12 156 "BreadLawModel" "turnsLeft" "I", Cond.fieldLink RX12 75 "BreadLawModel" "latest" "[I", Cond.fieldLink RX12 63 "BreadLawModel" "found" "[I", Cond.fieldLink RX12 130 "BreadLawModel" "week" "I", Cond.fieldLink RX12 13 "BreadLawModel" "atWeek" "[I", Cond.fieldLink RX12 133 "BreadLawModel" "hour" "I", Cond.fieldLink RX12 16 "BreadLawModel" "atHour" "[I", Cond.fieldLink RX12 48 "BreadLawModel" "weight" "[I", Cond.fieldLink RX12 102 "BreadLawModel" "dry" "I", Cond.fieldLink RX12 42 "BreadLawModel" "kindOf" "[I", Cond.fieldLink RX12 84 "BreadLawModel" "allowance" "[I", Cond.fieldLink RX12 66 "BreadLawModel" "shorts" "[I", Cond.fieldLink RX12 105 "BreadLawModel" "fine" "I", Cond.fieldLink RX12 69 "BreadLawModel" "fines" "[I", Cond.fieldLink RX12 72 "BreadLawModel" "barredTo" "[I", Cond.methodLink RX12 222 yX12_drawTurns, Cond.instanceMethod yX12_drawTurns, Cond.selects RX12 yX12_drawTurns yX12_drawTurns, Cond.initialized RX12, Cond.code yX12_drawTurns cX12_drawTurns 4 none]
def wsX12_search_r2 : List Cond := [Cond.fieldLink RX12 99 "BreadLawModel" "seed" "I", Cond.constant RX12 216 (1103515245), Cond.constant RX12 217 (2147483647), Cond.constant RX12 218 (65536), Cond.methodLink RX12 200 yX12_textIn, Cond.instanceMethod yX12_textIn, Cond.selects RX12 yX12_textIn yX12_textIn, Cond.code yX12_textIn cX12_textIn 4 (some .int), Cond.fieldLink RX12 197 "BreadLawModel" "texts" "I", Cond.fieldLink RX12 78 "BreadLawModel" "textWeek" "[I", Cond.methodLink RX12 225 yX12_lessBy, Cond.static yX12_lessBy, Cond.code yX12_lessBy cX12_lessBy 4 (some .int), Cond.methodLink RX12 203 yX12_dueIn, Cond.instanceMethod yX12_dueIn, Cond.selects RX12 yX12_dueIn yX12_dueIn, Cond.code yX12_dueIn cX12_dueIn 7 (some .int), Cond.fieldLink RX12 93 "BreadLawModel" "steps" "[I", Cond.fieldLink RX12 87 "BreadLawModel" "stepPrice" "[I", Cond.fieldLink RX12 90 "BreadLawModel" "stepOunces" "[I", Cond.fieldLink RX12 81 "BreadLawModel" "shares" "[I", Cond.methodLink RX12 186 yX12_priceIn, Cond.instanceMethod yX12_priceIn, Cond.selects RX12 yX12_priceIn yX12_priceIn]
def wsX12_search_r3 : List Cond := [Cond.code yX12_priceIn cX12_priceIn 8 (some .int), Cond.fieldLink RX12 7 "BreadLawModel" "sort" "[I", Cond.fieldLink RX12 25 "BreadLawModel" "priceOf" "[I", Cond.fieldLink RX12 22 "BreadLawModel" "ounces" "[I", Cond.methodLink RX12 167 yX12_enter, Cond.instanceMethod yX12_enter, Cond.selects RX12 yX12_enter yX12_enter, Cond.code yX12_enter cX12_enter 3 (some .int), Cond.fieldLink RX12 19 "BreadLawModel" "bakerOf" "[I"]
def wsX12_search : List Cond := .code yX12_search cX12_search 9 (some .int) :: ((wsX12_search_r1 ++ (wsX12_search_r2 ++ wsX12_search_r3)) ++ wsX120)
def wsX12_turn : List Cond := .code yX12_turn cX12_turn 1 (some .int) :: ([.fieldLink RX12 120 "BreadLawModel" "bakers" "I", .fieldLink RX12 96 "BreadLawModel" "turns" "[I", .fieldLink RX12 219 "BreadLawModel" "turnsMany" "I", .fieldLink RX12 156 "BreadLawModel" "turnsLeft" "I", .methodLink RX12 222 yX12_drawTurns, .instanceMethod yX12_drawTurns, .selects RX12 yX12_drawTurns yX12_drawTurns, .initialized RX12, .code yX12_drawTurns cX12_drawTurns 4 none, .fieldLink RX12 99 "BreadLawModel" "seed" "I", .constant RX12 216 (1103515245), .constant RX12 217 (2147483647), .constant RX12 218 (65536)] ++ wsX120)
def wsX12_rules : List Cond := .code yX12_rules cX12_rules 3 (some .int) :: ([.constantLong RX12 195 (5), .constantLong RX12 165 (1000), .fieldLink RX12 102 "BreadLawModel" "dry" "I", .fieldLink RX12 105 "BreadLawModel" "fine" "I", .methodLink RX12 123 yX12_in, .static yX12_in, .initialized RX12, .code yX12_in cX12_in 6 (some .boolean)] ++ wsX120)
def wsX12_record : List Cond := .code yX12_record cX12_record 3 (some .int) :: ([.fieldLink RX12 7 "BreadLawModel" "sort" "[I", .fieldLink RX12 13 "BreadLawModel" "atWeek" "[I", .fieldLink RX12 16 "BreadLawModel" "atHour" "[I", .fieldLink RX12 19 "BreadLawModel" "bakerOf" "[I", .methodLink RX12 171 yX12_isRecord, .instanceMethod yX12_isRecord, .selects RX12 yX12_isRecord yX12_isRecord, .initialized RX12, .code yX12_isRecord cX12_isRecord 2 (some .boolean), .fieldLink RX12 127 "BreadLawModel" "records" "I", .methodLink RX12 123 yX12_in, .static yX12_in, .code yX12_in cX12_in 6 (some .boolean)] ++ wsX120)
def wsX12_lot : List Cond := .code yX12_lot cX12_lot 3 (some .int) :: ([.constantLong RX12 229 (3), .fieldLink RX12 7 "BreadLawModel" "sort" "[I", .fieldLink RX12 22 "BreadLawModel" "ounces" "[I", .fieldLink RX12 25 "BreadLawModel" "priceOf" "[I", .fieldLink RX12 28 "BreadLawModel" "isGround" "[Z", .fieldLink RX12 32 "BreadLawModel" "flour" "[I", .methodLink RX12 171 yX12_isRecord, .instanceMethod yX12_isRecord, .selects RX12 yX12_isRecord yX12_isRecord, .initialized RX12, .code yX12_isRecord cX12_isRecord 2 (some .boolean), .fieldLink RX12 127 "BreadLawModel" "records" "I", .methodLink RX12 123 yX12_in, .static yX12_in, .code yX12_in cX12_in 6 (some .boolean)] ++ wsX120)
def wsX12_batch : List Cond := .code yX12_batch cX12_batch 4 (some .int) :: ([.constantLong RX12 231 (4), .constantLong RX12 233 (9), .fieldLink RX12 7 "BreadLawModel" "sort" "[I", .fieldLink RX12 42 "BreadLawModel" "kindOf" "[I", .fieldLink RX12 45 "BreadLawModel" "loaves" "[I", .fieldLink RX12 48 "BreadLawModel" "weight" "[I", .fieldLink RX12 54 "BreadLawModel" "gaveMany" "[I", .fieldLink RX12 57 "BreadLawModel" "gaveLot" "[I", .fieldLink RX12 51 "BreadLawModel" "gaveFrom" "[I", .fieldLink RX12 60 "BreadLawModel" "gaveOunces" "[I", .methodLink RX12 171 yX12_isRecord, .instanceMethod yX12_isRecord, .selects RX12 yX12_isRecord yX12_isRecord, .initialized RX12, .code yX12_isRecord cX12_isRecord 2 (some .boolean), .fieldLink RX12 127 "BreadLawModel" "records" "I", .methodLink RX12 123 yX12_in, .static yX12_in, .code yX12_in cX12_in 6 (some .boolean)] ++ wsX120)
def wsX12_found : List Cond := .code yX12_found cX12_found 3 (some .int) :: ([.constantLong RX12 195 (5), .fieldLink RX12 7 "BreadLawModel" "sort" "[I", .fieldLink RX12 63 "BreadLawModel" "found" "[I", .methodLink RX12 171 yX12_isRecord, .instanceMethod yX12_isRecord, .selects RX12 yX12_isRecord yX12_isRecord, .initialized RX12, .code yX12_isRecord cX12_isRecord 2 (some .boolean), .fieldLink RX12 127 "BreadLawModel" "records" "I", .methodLink RX12 123 yX12_in, .static yX12_in, .code yX12_in cX12_in 6 (some .boolean)] ++ wsX120)
def wsX12_manyOf : List Cond := .code yX12_manyOf cX12_manyOf 5 (some .int) :: ([.fieldLink RX12 127 "BreadLawModel" "records" "I", .fieldLink RX12 7 "BreadLawModel" "sort" "[I", .fieldLink RX12 19 "BreadLawModel" "bakerOf" "[I"] ++ wsX120)
def wsX12_about_r1 : List Cond := [Cond.fieldLink RX12 66 "BreadLawModel" "shorts" "[I", Cond.fieldLink RX12 69 "BreadLawModel" "fines" "[I", Cond.fieldLink RX12 72 "BreadLawModel" "barredTo" "[I", Cond.fieldLink RX12 75 "BreadLawModel" "latest" "[I", Cond.methodLink RX12 159 yX12_isBaker, Cond.instanceMethod yX12_isBaker, Cond.selects RX12 yX12_isBaker yX12_isBaker, Cond.initialized RX12, Cond.code yX12_isBaker cX12_isBaker 2 (some .boolean), Cond.fieldLink RX12 120 "BreadLawModel" "bakers" "I", Cond.methodLink RX12 123 yX12_in, Cond.static yX12_in, Cond.code yX12_in cX12_in 6 (some .boolean), Cond.methodLink RX12 210 yX12_flourOf, Cond.instanceMethod yX12_flourOf, Cond.selects RX12 yX12_flourOf yX12_flourOf, Cond.code yX12_flourOf cX12_flourOf 4 (some .int), Cond.fieldLink RX12 127 "BreadLawModel" "records" "I", Cond.fieldLink RX12 7 "BreadLawModel" "sort" "[I", Cond.fieldLink RX12 19 "BreadLawModel" "bakerOf" "[I", Cond.fieldLink RX12 32 "BreadLawModel" "flour" "[I", Cond.methodLink RX12 235 yX12_manyOf, Cond.instanceMethod yX12_manyOf, Cond.selects RX12 yX12_manyOf yX12_manyOf]
def wsX12_about_r2 : List Cond := [Cond.code yX12_manyOf cX12_manyOf 5 (some .int)]
def wsX12_about : List Cond := .code yX12_about cX12_about 3 (some .int) :: ((wsX12_about_r1 ++ wsX12_about_r2) ++ wsX120)
def wsX12_store : List Cond := .code yX12_store cX12_store 2 (some .int) :: ([.constantLong RX12 241 (10000000), .fieldLink RX12 143 "BreadLawModel" "store" "I", .constant RX12 149 (100000000), .methodLink RX12 123 yX12_in, .static yX12_in, .initialized RX12, .code yX12_in cX12_in 6 (some .boolean)] ++ wsX120)
def wsX12_mouths : List Cond := .code yX12_mouths cX12_mouths 3 (some .int) :: ([.constantLong RX12 243 (10000), .constantLong RX12 165 (1000), .fieldLink RX12 238 "BreadLawModel" "mouths" "I", .fieldLink RX12 108 "BreadLawModel" "each" "I", .methodLink RX12 123 yX12_in, .static yX12_in, .initialized RX12, .code yX12_in cX12_in 6 (some .boolean)] ++ wsX120)
def wsX12_ration : List Cond := .code yX12_ration cX12_ration 3 (some .int) :: ([.constantLong RX12 182 (100), .fieldLink RX12 111 "BreadLawModel" "ration" "I", .methodLink RX12 123 yX12_in, .static yX12_in, .initialized RX12, .code yX12_in cX12_in 6 (some .boolean)] ++ wsX120)
def wsX12_harvest : List Cond := .code yX12_harvest cX12_harvest 3 (some .int) :: ([.constantLong RX12 189 (199), .constantLong RX12 241 (10000000), .fieldLink RX12 146 "BreadLawModel" "harvests" "I", .fieldLink RX12 130 "BreadLawModel" "week" "I", .fieldLink RX12 114 "BreadLawModel" "harvestWeek" "[I", .fieldLink RX12 117 "BreadLawModel" "harvestOunces" "[I", .methodLink RX12 123 yX12_in, .static yX12_in, .initialized RX12, .code yX12_in cX12_in 6 (some .boolean)] ++ wsX120)
def wsX12_hungerBy : List Cond := .code yX12_hungerBy cX12_hungerBy 7 (some .int) :: ([.fieldLink RX12 143 "BreadLawModel" "store" "I", .fieldLink RX12 130 "BreadLawModel" "week" "I", .fieldLink RX12 146 "BreadLawModel" "harvests" "I", .fieldLink RX12 114 "BreadLawModel" "harvestWeek" "[I", .fieldLink RX12 117 "BreadLawModel" "harvestOunces" "[I", .constant RX12 149 (100000000), .methodLink RX12 136 yX12_needOf, .instanceMethod yX12_needOf, .selects RX12 yX12_needOf yX12_needOf, .initialized RX12, .code yX12_needOf cX12_needOf 2 (some .int), .fieldLink RX12 238 "BreadLawModel" "mouths" "I", .fieldLink RX12 108 "BreadLawModel" "each" "I", .constantLong RX12 182 (100)] ++ wsX120)
def wsX12_foretell : List Cond := .code yX12_foretell cX12_foretell 2 (some .int) :: ([.constantLong RX12 182 (100), .methodLink RX12 123 yX12_in, .static yX12_in, .initialized RX12, .code yX12_in cX12_in 6 (some .boolean), .methodLink RX12 245 yX12_hungerBy, .instanceMethod yX12_hungerBy, .selects RX12 yX12_hungerBy yX12_hungerBy, .code yX12_hungerBy cX12_hungerBy 7 (some .int), .fieldLink RX12 143 "BreadLawModel" "store" "I", .fieldLink RX12 130 "BreadLawModel" "week" "I", .fieldLink RX12 146 "BreadLawModel" "harvests" "I", .fieldLink RX12 114 "BreadLawModel" "harvestWeek" "[I", .fieldLink RX12 117 "BreadLawModel" "harvestOunces" "[I", .constant RX12 149 (100000000), .methodLink RX12 136 yX12_needOf, .instanceMethod yX12_needOf, .selects RX12 yX12_needOf yX12_needOf, .code yX12_needOf cX12_needOf 2 (some .int), .fieldLink RX12 238 "BreadLawModel" "mouths" "I", .fieldLink RX12 108 "BreadLawModel" "each" "I"] ++ wsX120)
def wsX12_order : List Cond := .code yX12_order cX12_order 3 (some .int) :: ([.fieldLink RX12 130 "BreadLawModel" "week" "I", .constantLong RX12 189 (199), .methodLink RX12 123 yX12_in, .static yX12_in, .initialized RX12, .code yX12_in cX12_in 6 (some .boolean), .methodLink RX12 245 yX12_hungerBy, .instanceMethod yX12_hungerBy, .selects RX12 yX12_hungerBy yX12_hungerBy, .code yX12_hungerBy cX12_hungerBy 7 (some .int), .fieldLink RX12 143 "BreadLawModel" "store" "I", .fieldLink RX12 146 "BreadLawModel" "harvests" "I", .fieldLink RX12 114 "BreadLawModel" "harvestWeek" "[I", .fieldLink RX12 117 "BreadLawModel" "harvestOunces" "[I", .constant RX12 149 (100000000), .methodLink RX12 136 yX12_needOf, .instanceMethod yX12_needOf, .selects RX12 yX12_needOf yX12_needOf, .code yX12_needOf cX12_needOf 2 (some .int), .fieldLink RX12 238 "BreadLawModel" "mouths" "I", .fieldLink RX12 108 "BreadLawModel" "each" "I", .constantLong RX12 182 (100)] ++ wsX120)
def wsX12_told : List Cond := .code yX12_told cX12_told 2 (some .int) :: ([.fieldLink RX12 130 "BreadLawModel" "week" "I", .fieldLink RX12 133 "BreadLawModel" "hour" "I", .fieldLink RX12 120 "BreadLawModel" "bakers" "I", .fieldLink RX12 197 "BreadLawModel" "texts" "I", .fieldLink RX12 127 "BreadLawModel" "records" "I", .fieldLink RX12 177 "BreadLawModel" "milled" "I", .fieldLink RX12 143 "BreadLawModel" "store" "I", .fieldLink RX12 140 "BreadLawModel" "hungers" "I", .fieldLink RX12 111 "BreadLawModel" "ration" "I", .fieldLink RX12 146 "BreadLawModel" "harvests" "I"] ++ wsX120)
def wsJ9_max_7cf53 : List Cond := .code yJ9_max_7cf53 cJ9_max_7cf53 2 (some .int) :: ([])
def wsJ9_min_7cf53 : List Cond := .code yJ9_min_7cf53 cJ9_min_7cf53 2 (some .int) :: ([])
def wsL_law_r1 : List Cond := [Cond.classLink RL 7 RX11, Cond.instantiable RX11 12, Cond.initialized RX11, Cond.classLink RL 10 RX12, Cond.instantiable RX12 50, Cond.initialized RX12, Cond.methodLink RL 9 yX11_init, Cond.instanceMethod yX11_init, Cond.code yX11_init cX11_init 1 none, Cond.methodLink RX11 1 objectInit, Cond.instanceMethod objectInit, Cond.code objectInit ⟨#[0xb1]⟩ 1 none, Cond.classLink RX11 7 RX2, Cond.instantiable RX2 7, Cond.initialized RX2, Cond.fieldLink RX11 10 "BreadLaw" "book" "LBreadLaw$Book;", Cond.classLink RX11 16 RX7, Cond.instantiable RX7 2, Cond.initialized RX7, Cond.fieldLink RX11 19 "BreadLaw" "market" "LBreadLaw$Market;", Cond.classLink RX11 23 RX5, Cond.instantiable RX5 2, Cond.initialized RX5, Cond.fieldLink RX11 26 "BreadLaw" "law" "LBreadLaw$Law;"]
def wsL_law_r2 : List Cond := [Cond.classLink RX11 30 RX10, Cond.instantiable RX10 4, Cond.initialized RX10, Cond.fieldLink RX11 33 "BreadLaw" "turns" "LBreadLaw$Turns;", Cond.classLink RX11 37 RX4, Cond.instantiable RX4 8, Cond.initialized RX4, Cond.fieldLink RX11 40 "BreadLaw" "granary" "LBreadLaw$Granary;", Cond.classLink RX11 44 RX0, Cond.fieldLink RX11 46 "BreadLaw" "bakers" "[LBreadLaw$Baker;", Cond.fieldLink RX11 50 "BreadLaw" "dish" "I", Cond.fieldLink RX11 54 "BreadLaw" "dry" "I", Cond.fieldLink RX11 57 "BreadLaw" "fine" "I", Cond.methodLink RX11 9 yX2_init, Cond.instanceMethod yX2_init, Cond.code yX2_init cX2_init 1 none, Cond.methodLink RX2 3 objectInit, Cond.classLink RX2 9 RX3, Cond.fieldLink RX2 11 "BreadLaw$Book" "entries" "[LBreadLaw$Entry;", Cond.classLink RX2 17 RX6, Cond.fieldLink RX2 19 "BreadLaw$Book" "ground" "[LBreadLaw$Lot;", Cond.arrayClass .int, Cond.fieldLink RX2 23 "BreadLaw$Book" "giftLots" "[I", Cond.fieldLink RX2 27 "BreadLaw$Book" "giftOunces" "[I"]
def wsL_law_r3 : List Cond := [Cond.methodLink RX11 18 yX7_init, Cond.instanceMethod yX7_init, Cond.code yX7_init cX7_init 1 none, Cond.methodLink RX7 3 objectInit, Cond.arrayClass .long, Cond.fieldLink RX7 9 "BreadLaw$Market" "ounces" "[J", Cond.fieldLink RX7 15 "BreadLaw$Market" "worth" "[J", Cond.methodLink RX11 25 yX5_init, Cond.instanceMethod yX5_init, Cond.code yX5_init cX5_init 1 none, Cond.methodLink RX5 3 objectInit, Cond.classLink RX5 9 RX9, Cond.fieldLink RX5 11 "BreadLaw$Law" "texts" "[LBreadLaw$Text;", Cond.methodLink RX11 32 yX10_init, Cond.instanceMethod yX10_init, Cond.code yX10_init cX10_init 1 none, Cond.methodLink RX10 3 objectInit, Cond.fieldLink RX10 9 "BreadLaw$Turns" "row" "[I", Cond.fieldLink RX10 15 "BreadLaw$Turns" "seed" "I", Cond.methodLink RX11 39 yX4_init, Cond.instanceMethod yX4_init, Cond.code yX4_init cX4_init 1 none, Cond.methodLink RX4 3 objectInit, Cond.fieldLink RX4 9 "BreadLaw$Granary" "comingOunces" "[I"]
def wsL_law_r4 : List Cond := [Cond.fieldLink RX4 15 "BreadLaw$Granary" "comingHarvests" "[I", Cond.fieldLink RX4 18 "BreadLaw$Granary" "each" "I", Cond.fieldLink RX4 22 "BreadLaw$Granary" "ration" "I", Cond.methodLink RL 12 yX12_init, Cond.instanceMethod yX12_init, Cond.code yX12_init cX12_init 1 none, Cond.methodLink RX12 1 objectInit, Cond.fieldLink RX12 7 "BreadLawModel" "sort" "[I", Cond.fieldLink RX12 13 "BreadLawModel" "atWeek" "[I", Cond.fieldLink RX12 16 "BreadLawModel" "atHour" "[I", Cond.fieldLink RX12 19 "BreadLawModel" "bakerOf" "[I", Cond.fieldLink RX12 22 "BreadLawModel" "ounces" "[I", Cond.fieldLink RX12 25 "BreadLawModel" "priceOf" "[I", Cond.arrayClass .boolean, Cond.fieldLink RX12 28 "BreadLawModel" "isGround" "[Z", Cond.fieldLink RX12 32 "BreadLawModel" "flour" "[I", Cond.fieldLink RX12 35 "BreadLawModel" "ground" "[I", Cond.fieldLink RX12 38 "BreadLawModel" "dish" "I", Cond.fieldLink RX12 42 "BreadLawModel" "kindOf" "[I", Cond.fieldLink RX12 45 "BreadLawModel" "loaves" "[I", Cond.fieldLink RX12 48 "BreadLawModel" "weight" "[I", Cond.fieldLink RX12 51 "BreadLawModel" "gaveFrom" "[I", Cond.fieldLink RX12 54 "BreadLawModel" "gaveMany" "[I", Cond.fieldLink RX12 57 "BreadLawModel" "gaveLot" "[I"]
def wsL_law_r5 : List Cond := [Cond.fieldLink RX12 60 "BreadLawModel" "gaveOunces" "[I", Cond.fieldLink RX12 63 "BreadLawModel" "found" "[I", Cond.fieldLink RX12 66 "BreadLawModel" "shorts" "[I", Cond.fieldLink RX12 69 "BreadLawModel" "fines" "[I", Cond.fieldLink RX12 72 "BreadLawModel" "barredTo" "[I", Cond.fieldLink RX12 75 "BreadLawModel" "latest" "[I", Cond.fieldLink RX12 78 "BreadLawModel" "textWeek" "[I", Cond.fieldLink RX12 81 "BreadLawModel" "shares" "[I", Cond.fieldLink RX12 84 "BreadLawModel" "allowance" "[I", Cond.fieldLink RX12 87 "BreadLawModel" "stepPrice" "[I", Cond.fieldLink RX12 90 "BreadLawModel" "stepOunces" "[I", Cond.fieldLink RX12 93 "BreadLawModel" "steps" "[I", Cond.fieldLink RX12 96 "BreadLawModel" "turns" "[I", Cond.fieldLink RX12 99 "BreadLawModel" "seed" "I", Cond.fieldLink RX12 102 "BreadLawModel" "dry" "I", Cond.fieldLink RX12 105 "BreadLawModel" "fine" "I", Cond.fieldLink RX12 108 "BreadLawModel" "each" "I", Cond.fieldLink RX12 111 "BreadLawModel" "ration" "I", Cond.fieldLink RX12 114 "BreadLawModel" "harvestWeek" "[I", Cond.fieldLink RX12 117 "BreadLawModel" "harvestOunces" "[I", Cond.methodLink RL 13 yX11_go, Cond.instanceMethod yX11_go, Cond.selects RX11 yX11_go yX11_go, Cond.code yX11_go cX11_go 5 (some .int)]
def wsL_law_r6 : List Cond := [Cond.fieldLink RX11 64 "BreadLaw" "now" "I", Cond.constant RX11 67 (33600), Cond.methodLink RX11 60 yX11_isOutside, Cond.static yX11_isOutside, Cond.code yX11_isOutside cX11_isOutside 3 (some .boolean), Cond.methodLink RX11 68 yX11_weekNow, Cond.instanceMethod yX11_weekNow, Cond.selects RX11 yX11_weekNow yX11_weekNow, Cond.code yX11_weekNow cX11_weekNow 1 (some .int), Cond.methodLink RX11 72 yX4_endWeek, Cond.instanceMethod yX4_endWeek, Cond.selects RX4 yX4_endWeek yX4_endWeek, Cond.code yX4_endWeek cX4_endWeek 2 none, Cond.fieldLink RX4 42 "BreadLaw$Granary" "ounces" "I", Cond.fieldLink RX4 45 "BreadLaw$Granary" "hungerWeeks" "I", Cond.methodLink RX4 48 Lib.Math.max.name, Cond.static Lib.Math.max.name, Cond.initialized "java/lang/Math", Cond.code Lib.Math.max.name Lib.Math.max.code 2 (some .int), Cond.methodLink RX4 38 yX4_needWith, Cond.instanceMethod yX4_needWith, Cond.selects RX4 yX4_needWith yX4_needWith, Cond.code yX4_needWith cX4_needWith 2 (some .int), Cond.fieldLink RX4 28 "BreadLaw$Granary" "mouths" "I"]
def wsL_law_r7 : List Cond := [Cond.methodLink RX11 75 yX4_beginWeek, Cond.instanceMethod yX4_beginWeek, Cond.selects RX4 yX4_beginWeek yX4_beginWeek, Cond.code yX4_beginWeek cX4_beginWeek 2 none, Cond.fieldLink RX4 25 "BreadLaw$Granary" "toCome" "I", Cond.methodLink RX4 51 yX4_withHarvest, Cond.instanceMethod yX4_withHarvest, Cond.selects RX4 yX4_withHarvest yX4_withHarvest, Cond.code yX4_withHarvest cX4_withHarvest 3 (some .int), Cond.constant RX4 31 (100000000), Cond.methodLink RX4 32 Lib.Math.min.name, Cond.static Lib.Math.min.name, Cond.code Lib.Math.min.name Lib.Math.min.code 2 (some .int), Cond.methodLink RL 17 yX12_go, Cond.instanceMethod yX12_go, Cond.selects RX12 yX12_go yX12_go, Cond.code yX12_go cX12_go 3 (some .int), Cond.constantLong RX12 150 (5000), Cond.fieldLink RX12 130 "BreadLawModel" "week" "I", Cond.fieldLink RX12 133 "BreadLawModel" "hour" "I", Cond.constant RX12 152 (33599), Cond.methodLink RX12 123 yX12_in, Cond.static yX12_in, Cond.code yX12_in cX12_in 6 (some .boolean)]
def wsL_law_r8 : List Cond := [Cond.methodLink RX12 153 yX12_endWeek, Cond.instanceMethod yX12_endWeek, Cond.selects RX12 yX12_endWeek yX12_endWeek, Cond.code yX12_endWeek cX12_endWeek 4 none, Cond.fieldLink RX12 140 "BreadLawModel" "hungers" "I", Cond.fieldLink RX12 143 "BreadLawModel" "store" "I", Cond.fieldLink RX12 146 "BreadLawModel" "harvests" "I", Cond.constant RX12 149 (100000000), Cond.methodLink RX12 136 yX12_needOf, Cond.instanceMethod yX12_needOf, Cond.selects RX12 yX12_needOf yX12_needOf, Cond.code yX12_needOf cX12_needOf 2 (some .int), Cond.fieldLink RX12 238 "BreadLawModel" "mouths" "I", Cond.constantLong RX12 182 (100), Cond.methodLink RL 18 yX11_baker, Cond.instanceMethod yX11_baker, Cond.selects RX11 yX11_baker yX11_baker, Cond.code yX11_baker cX11_baker 1 (some .int), Cond.fieldLink RX11 79 "BreadLaw" "bakerCount" "I", Cond.instantiable RX0 8, Cond.initialized RX0, Cond.instanceMethod yX0_init, Cond.code yX0_init cX0_init 1 none, Cond.methodLink RX0 3 objectInit]
def wsL_law_r9 : List Cond := [Cond.methodLink RX11 83 yX10_dropRow, Cond.instanceMethod yX10_dropRow, Cond.selects RX10 yX10_dropRow yX10_dropRow, Cond.code yX10_dropRow cX10_dropRow 1 none, Cond.fieldLink RX10 19 "BreadLaw$Turns" "length" "I", Cond.fieldLink RX10 22 "BreadLaw$Turns" "next" "I", Cond.methodLink RL 22 yX12_baker, Cond.instanceMethod yX12_baker, Cond.selects RX12 yX12_baker yX12_baker, Cond.code yX12_baker cX12_baker 1 (some .int), Cond.fieldLink RX12 120 "BreadLawModel" "bakers" "I", Cond.fieldLink RX12 156 "BreadLawModel" "turnsLeft" "I", Cond.methodLink RL 23 yX11_buy, Cond.instanceMethod yX11_buy, Cond.selects RX11 yX11_buy yX11_buy, Cond.code yX11_buy cX11_buy 6 (some .int), Cond.constant RX11 90 (100000), Cond.classLink RX11 95 RX6, Cond.instantiable RX6 8, Cond.initialized RX6, Cond.fieldLink RX11 97 "BreadLaw$Book" "count" "I", Cond.fieldLink RX11 111 "BreadLaw$Baker" "lots" "I", Cond.fieldLink RX11 114 "BreadLaw$Lot" "number" "I", Cond.sameField "BreadLaw$Lot" "BreadLaw$Entry" "number" "I"]
def wsL_law_r10 : List Cond := [Cond.methodLink RX11 86 yX11_bakerAt, Cond.instanceMethod yX11_bakerAt, Cond.selects RX11 yX11_bakerAt yX11_bakerAt, Cond.code yX11_bakerAt cX11_bakerAt 2 (some (.object "BreadLaw$Baker")), Cond.methodLink RX11 91 yX2_isFull, Cond.instanceMethod yX2_isFull, Cond.selects RX2 yX2_isFull yX2_isFull, Cond.code yX2_isFull cX2_isFull 1 (some .boolean), Cond.fieldLink RX2 30 "BreadLaw$Book" "count" "I", Cond.methodLink RX11 100 yX6_init, Cond.instanceMethod yX6_init, Cond.code yX6_init cX6_init 6 none, Cond.fieldLink RX6 9 "BreadLaw$Lot" "ounces" "I", Cond.fieldLink RX6 15 "BreadLaw$Lot" "price" "I", Cond.methodLink RX6 3 yX3_init, Cond.instanceMethod yX3_init, Cond.initialized RX3, Cond.code yX3_init cX3_init 5 none, Cond.methodLink RX3 3 objectInit, Cond.fieldLink RX3 9 "BreadLaw$Entry" "sort" "I", Cond.fieldLink RX3 15 "BreadLaw$Entry" "number" "I", Cond.fieldLink RX3 18 "BreadLaw$Entry" "at" "I", Cond.fieldLink RX3 21 "BreadLaw$Entry" "baker" "I", Cond.methodLink RX11 103 yX2_enter]
def wsL_law_r11 : List Cond := [Cond.instanceMethod yX2_enter, Cond.selects RX2 yX2_enter yX2_enter, Cond.code yX2_enter cX2_enter 2 none, Cond.methodLink RX2 34 yX2_isFull, Cond.methodLink RX11 107 yX7_note, Cond.instanceMethod yX7_note, Cond.selects RX7 yX7_note yX7_note, Cond.code yX7_note cX7_note 3 none, Cond.fieldLink RX7 24 "BreadLaw$Lot" "ounces" "I", Cond.fieldLink RX7 27 "BreadLaw$Lot" "price" "I", Cond.methodLink RX7 18 ⟨"BreadLaw$Lot", "week", "()I"⟩, Cond.sameMethod "BreadLaw$Lot" "BreadLaw$Entry" "week" "()I", Cond.selects RX6 ⟨"BreadLaw$Lot", "week", "()I"⟩ yX3_week, Cond.instanceMethod yX3_week, Cond.code yX3_week cX3_week 1 (some .int), Cond.methodLink RL 27 yX12_buy, Cond.instanceMethod yX12_buy, Cond.selects RX12 yX12_buy yX12_buy, Cond.code yX12_buy cX12_buy 4 (some .int), Cond.constantLong RX12 163 (100000), Cond.constantLong RX12 165 (1000), Cond.fieldLink RX12 127 "BreadLawModel" "records" "I", Cond.methodLink RX12 159 yX12_isBaker, Cond.instanceMethod yX12_isBaker]
def wsL_law_r12 : List Cond := [Cond.selects RX12 yX12_isBaker yX12_isBaker, Cond.code yX12_isBaker cX12_isBaker 2 (some .boolean), Cond.methodLink RX12 167 yX12_enter, Cond.instanceMethod yX12_enter, Cond.selects RX12 yX12_enter yX12_enter, Cond.code yX12_enter cX12_enter 3 (some .int), Cond.methodLink RL 28 yX11_grind, Cond.instanceMethod yX11_grind, Cond.selects RX11 yX11_grind yX11_grind, Cond.code yX11_grind cX11_grind 4 (some .int), Cond.classLink RX11 95 "BreadLaw$Lot", Cond.fieldLink RX11 121 "BreadLaw$Lot" "isGround" "Z", Cond.methodLink RX11 117 yX2_entryAt, Cond.instanceMethod yX2_entryAt, Cond.selects RX2 yX2_entryAt yX2_entryAt, Cond.code yX2_entryAt cX2_entryAt 2 (some (.object "BreadLaw$Entry")), Cond.methodLink RX11 125 yX11_toMill, Cond.instanceMethod yX11_toMill, Cond.selects RX11 yX11_toMill yX11_toMill, Cond.code yX11_toMill cX11_toMill 4 (some .int), Cond.fieldLink RX11 268 "BreadLaw$Lot" "ounces" "I", Cond.fieldLink RX11 269 "BreadLaw$Lot" "flour" "I", Cond.fieldLink RX11 273 "BreadLaw$Lot" "baker" "I", Cond.sameField "BreadLaw$Lot" "BreadLaw$Entry" "baker" "I"]
def wsL_law_r13 : List Cond := [Cond.fieldLink RX11 167 "BreadLaw$Baker" "flour" "I", Cond.fieldLink RX11 262 "BreadLaw" "millerKept" "I", Cond.methodLink RX11 270 yX2_queueFlour, Cond.instanceMethod yX2_queueFlour, Cond.selects RX2 yX2_queueFlour yX2_queueFlour, Cond.code yX2_queueFlour cX2_queueFlour 2 none, Cond.fieldLink RX2 38 "BreadLaw$Book" "groundCount" "I", Cond.methodLink RL 31 yX12_grind, Cond.instanceMethod yX12_grind, Cond.selects RX12 yX12_grind yX12_grind, Cond.code yX12_grind cX12_grind 3 (some .int), Cond.fieldLink RX12 174 "BreadLawModel" "groundMany" "I", Cond.fieldLink RX12 177 "BreadLawModel" "milled" "I", Cond.methodLink RX12 171 yX12_isRecord, Cond.instanceMethod yX12_isRecord, Cond.selects RX12 yX12_isRecord yX12_isRecord, Cond.code yX12_isRecord cX12_isRecord 2 (some .boolean), Cond.methodLink RL 32 yX11_dish, Cond.instanceMethod yX11_dish, Cond.selects RX11 yX11_dish yX11_dish, Cond.code yX11_dish cX11_dish 3 (some .int), Cond.methodLink RL 35 yX12_dish, Cond.instanceMethod yX12_dish, Cond.selects RX12 yX12_dish yX12_dish]
def wsL_law_r14 : List Cond := [Cond.code yX12_dish cX12_dish 3 (some .int), Cond.constantLong RX12 180 (2), Cond.methodLink RL 36 yX11_price, Cond.instanceMethod yX11_price, Cond.selects RX11 yX11_price yX11_price, Cond.code yX11_price cX11_price 2 (some .int), Cond.methodLink RX11 129 yX7_priceOf, Cond.instanceMethod yX7_priceOf, Cond.selects RX7 yX7_priceOf yX7_priceOf, Cond.code yX7_priceOf cX7_priceOf 3 (some .int), Cond.methodLink RX7 30 Lib.Math.min.name, Cond.methodLink RL 39 yX12_price, Cond.instanceMethod yX12_price, Cond.selects RX12 yX12_price yX12_price, Cond.code yX12_price cX12_price 2 (some .int), Cond.constantLong RX12 184 (-1), Cond.methodLink RX12 186 yX12_priceIn, Cond.instanceMethod yX12_priceIn, Cond.selects RX12 yX12_priceIn yX12_priceIn, Cond.code yX12_priceIn cX12_priceIn 8 (some .int), Cond.methodLink RL 40 yX11_text, Cond.instanceMethod yX11_text, Cond.selects RX11 yX11_text yX11_text, Cond.code yX11_text cX11_text 7 (some .int)]
def wsL_law_r15 : List Cond := [Cond.classLink RX11 134 RX9, Cond.instantiable RX9 7, Cond.initialized RX9, Cond.fieldLink RX11 136 "BreadLaw$Law" "count" "I", Cond.fieldLink RX11 144 "BreadLaw$Text" "number" "I", Cond.methodLink RX11 133 yX5_isFull, Cond.instanceMethod yX5_isFull, Cond.selects RX5 yX5_isFull yX5_isFull, Cond.code yX5_isFull cX5_isFull 1 (some .boolean), Cond.fieldLink RX5 17 "BreadLaw$Law" "count" "I", Cond.methodLink RX11 137 yX9_init, Cond.instanceMethod yX9_init, Cond.code yX9_init cX9_init 7 none, Cond.methodLink RX9 3 objectInit, Cond.fieldLink RX9 9 "BreadLaw$Text" "number" "I", Cond.fieldLink RX9 15 "BreadLaw$Text" "week" "I", Cond.fieldLink RX9 18 "BreadLaw$Text" "allowance" "I", Cond.fieldLink RX9 21 "BreadLaw$Text" "shares" "[I", Cond.fieldLink RX9 25 "BreadLaw$Text" "stepPrices" "[I", Cond.fieldLink RX9 28 "BreadLaw$Text" "stepOunces" "[I", Cond.methodLink RX11 140 yX5_enact, Cond.instanceMethod yX5_enact, Cond.selects RX5 yX5_enact yX5_enact, Cond.code yX5_enact cX5_enact 2 none]
def wsL_law_r16 : List Cond := [Cond.methodLink RX5 21 yX5_isFull, Cond.methodLink RL 44 yX12_text, Cond.instanceMethod yX12_text, Cond.selects RX12 yX12_text yX12_text, Cond.code yX12_text cX12_text 6 (some .int), Cond.constantLong RX12 189 (199), Cond.constantLong RX12 191 (10), Cond.constantLong RX12 193 (300), Cond.constantLong RX12 195 (5), Cond.fieldLink RX12 197 "BreadLawModel" "texts" "I", Cond.methodLink RL 45 yX11_step, Cond.instanceMethod yX11_step, Cond.selects RX11 yX11_step yX11_step, Cond.code yX11_step cX11_step 5 (some .int), Cond.fieldLink RX11 154 "BreadLaw$Text" "steps" "I", Cond.methodLink RX11 145 yX5_textAt, Cond.instanceMethod yX5_textAt, Cond.selects RX5 yX5_textAt yX5_textAt, Cond.code yX5_textAt cX5_textAt 2 (some (.object "BreadLaw$Text")), Cond.methodLink RX11 149 yX9_isFull, Cond.instanceMethod yX9_isFull, Cond.selects RX9 yX9_isFull yX9_isFull, Cond.code yX9_isFull cX9_isFull 1 (some .boolean), Cond.fieldLink RX9 31 "BreadLaw$Text" "steps" "I"]
def wsL_law_r17 : List Cond := [Cond.methodLink RX11 150 yX9_addStep, Cond.instanceMethod yX9_addStep, Cond.selects RX9 yX9_addStep yX9_addStep, Cond.code yX9_addStep cX9_addStep 3 none, Cond.methodLink RX9 34 yX9_isFull, Cond.methodLink RL 48 yX12_step, Cond.instanceMethod yX12_step, Cond.selects RX12 yX12_step yX12_step, Cond.code yX12_step cX12_step 4 (some .int), Cond.methodLink RL 49 yX11_inForce, Cond.instanceMethod yX11_inForce, Cond.selects RX11 yX11_inForce yX11_inForce, Cond.code yX11_inForce cX11_inForce 3 (some .int), Cond.methodLink RX11 157 yX5_ruling, Cond.instanceMethod yX5_ruling, Cond.selects RX5 yX5_ruling yX5_ruling, Cond.code yX5_ruling cX5_ruling 5 (some (.object "BreadLaw$Text")), Cond.fieldLink RX5 25 "BreadLaw$Text" "week" "I", Cond.methodLink RL 52 yX12_inForce, Cond.instanceMethod yX12_inForce, Cond.selects RX12 yX12_inForce yX12_inForce, Cond.code yX12_inForce cX12_inForce 2 (some .int), Cond.methodLink RX12 200 yX12_textIn, Cond.instanceMethod yX12_textIn]
def wsL_law_r18 : List Cond := [Cond.selects RX12 yX12_textIn yX12_textIn, Cond.code yX12_textIn cX12_textIn 4 (some .int), Cond.methodLink RL 53 yX11_due, Cond.instanceMethod yX11_due, Cond.selects RX11 yX11_due yX11_due, Cond.code yX11_due cX11_due 3 (some .int), Cond.methodLink RX11 160 yX11_dueBy, Cond.instanceMethod yX11_dueBy, Cond.selects RX11 yX11_dueBy yX11_dueBy, Cond.code yX11_dueBy cX11_dueBy 4 (some .int), Cond.methodLink RX11 274 yX9_loaf, Cond.instanceMethod yX9_loaf, Cond.selects RX9 yX9_loaf yX9_loaf, Cond.code yX9_loaf cX9_loaf 3 (some .int), Cond.methodLink RX9 38 yX9_ouncesAt, Cond.instanceMethod yX9_ouncesAt, Cond.selects RX9 yX9_ouncesAt yX9_ouncesAt, Cond.code yX9_ouncesAt cX9_ouncesAt 5 (some .int), Cond.methodLink RL 57 yX12_due, Cond.instanceMethod yX12_due, Cond.selects RX12 yX12_due yX12_due, Cond.code yX12_due cX12_due 3 (some .int), Cond.methodLink RX12 203 yX12_dueIn, Cond.instanceMethod yX12_dueIn]
def wsL_law_r19 : List Cond := [Cond.selects RX12 yX12_dueIn yX12_dueIn, Cond.code yX12_dueIn cX12_dueIn 7 (some .int), Cond.methodLink RL 58 yX11_bake, Cond.instanceMethod yX11_bake, Cond.selects RX11 yX11_bake yX11_bake, Cond.code yX11_bake cX11_bake 7 (some .int), Cond.fieldLink RX11 164 "BreadLaw$Baker" "mayBakeFrom" "I", Cond.classLink RX11 170 RX1, Cond.instantiable RX1 9, Cond.initialized RX1, Cond.fieldLink RX11 177 "BreadLaw$Baker" "batches" "I", Cond.fieldLink RX11 180 "BreadLaw$Baker" "latest" "LBreadLaw$Batch;", Cond.fieldLink RX11 184 "BreadLaw$Batch" "number" "I", Cond.sameField "BreadLaw$Batch" "BreadLaw$Entry" "number" "I", Cond.methodLink RX11 172 yX1_init, Cond.instanceMethod yX1_init, Cond.code yX1_init cX1_init 7 none, Cond.fieldLink RX1 9 "BreadLaw$Batch" "kind" "I", Cond.fieldLink RX1 15 "BreadLaw$Batch" "loaves" "I", Cond.fieldLink RX1 18 "BreadLaw$Batch" "weight" "I", Cond.methodLink RX1 3 yX3_init, Cond.methodLink RX11 173 yX2_takeFlour, Cond.instanceMethod yX2_takeFlour, Cond.selects RX2 yX2_takeFlour yX2_takeFlour]
def wsL_law_r20 : List Cond := [Cond.code yX2_takeFlour cX2_takeFlour 6 none, Cond.fieldLink RX2 41 "BreadLaw$Batch" "loaves" "I", Cond.fieldLink RX2 46 "BreadLaw$Batch" "weight" "I", Cond.fieldLink RX2 49 "BreadLaw$Book" "giftCount" "I", Cond.fieldLink RX2 52 "BreadLaw$Batch" "firstGift" "I", Cond.fieldLink RX2 55 "BreadLaw$Lot" "baker" "I", Cond.fieldLink RX2 58 "BreadLaw$Batch" "baker" "I", Cond.sameField "BreadLaw$Batch" "BreadLaw$Entry" "baker" "I", Cond.fieldLink RX2 59 "BreadLaw$Lot" "flour" "I", Cond.methodLink RX2 62 Lib.Math.min.name, Cond.methodLink RX2 68 yX2_noteGift, Cond.instanceMethod yX2_noteGift, Cond.selects RX2 yX2_noteGift yX2_noteGift, Cond.code yX2_noteGift cX2_noteGift 4 none, Cond.fieldLink RX2 72 "BreadLaw$Lot" "number" "I", Cond.fieldLink RX2 75 "BreadLaw$Batch" "gifts" "I", Cond.methodLink RL 62 yX12_bake, Cond.instanceMethod yX12_bake, Cond.selects RX12 yX12_bake yX12_bake, Cond.code yX12_bake cX12_bake 10 (some .int), Cond.constantLong RX12 206 (500), Cond.constantLong RX12 208 (2000), Cond.fieldLink RX12 213 "BreadLawModel" "gave" "I", Cond.methodLink RX12 210 yX12_flourOf]
def wsL_law_r21 : List Cond := [Cond.instanceMethod yX12_flourOf, Cond.selects RX12 yX12_flourOf yX12_flourOf, Cond.code yX12_flourOf cX12_flourOf 4 (some .int), Cond.methodLink RL 63 yX11_search, Cond.instanceMethod yX11_search, Cond.selects RX11 yX11_search yX11_search, Cond.code yX11_search cX11_search 4 (some .int), Cond.classLink RX11 191 RX8, Cond.instantiable RX8 10, Cond.initialized RX8, Cond.fieldLink RX11 196 "BreadLaw$Baker" "searches" "I", Cond.fieldLink RX11 203 "BreadLaw$Search" "isShort" "Z", Cond.fieldLink RX11 209 "BreadLaw$Search" "number" "I", Cond.sameField "BreadLaw$Search" "BreadLaw$Entry" "number" "I", Cond.methodLink RX11 185 yX10_upNext, Cond.instanceMethod yX10_upNext, Cond.selects RX10 yX10_upNext yX10_upNext, Cond.code yX10_upNext cX10_upNext 2 (some .int), Cond.methodLink RX10 25 Lib.Math.min.name, Cond.methodLink RX10 31 yX10_draw, Cond.instanceMethod yX10_draw, Cond.selects RX10 yX10_draw yX10_draw, Cond.code yX10_draw cX10_draw 5 none, Cond.constant RX10 35 (1103515245)]
def wsL_law_r22 : List Cond := [Cond.constant RX10 36 (2147483647), Cond.constant RX10 37 (65536), Cond.methodLink RX11 188 yX10_moveOn, Cond.instanceMethod yX10_moveOn, Cond.selects RX10 yX10_moveOn yX10_moveOn, Cond.code yX10_moveOn cX10_moveOn 1 none, Cond.methodLink RX11 193 yX8_init, Cond.instanceMethod yX8_init, Cond.code yX8_init cX8_init 4 none, Cond.fieldLink RX8 9 "BreadLaw$Search" "batch" "I", Cond.methodLink RX8 3 yX3_init, Cond.methodLink RX11 199 yX11_weighLatest, Cond.instanceMethod yX11_weighLatest, Cond.selects RX11 yX11_weighLatest yX11_weighLatest, Cond.code yX11_weighLatest cX11_weighLatest 6 none, Cond.fieldLink RX11 278 "BreadLaw$Text" "allowance" "I", Cond.fieldLink RX11 281 "BreadLaw$Search" "batch" "I", Cond.fieldLink RX11 284 "BreadLaw$Batch" "at" "I", Cond.sameField "BreadLaw$Batch" "BreadLaw$Entry" "at" "I", Cond.fieldLink RX11 285 "BreadLaw$Search" "age" "I", Cond.fieldLink RX11 288 "BreadLaw$Batch" "weight" "I", Cond.fieldLink RX11 294 "BreadLaw$Search" "weighed" "I", Cond.fieldLink RX11 297 "BreadLaw$Batch" "kind" "I", Cond.fieldLink RX11 300 "BreadLaw$Search" "asked" "I"]
def wsL_law_r23 : List Cond := [Cond.methodLink RX11 277 ⟨"BreadLaw$Batch", "week", "()I"⟩, Cond.sameMethod "BreadLaw$Batch" "BreadLaw$Entry" "week" "()I", Cond.selects RX1 ⟨"BreadLaw$Batch", "week", "()I"⟩ yX3_week, Cond.methodLink RX11 291 yX11_lessened, Cond.static yX11_lessened, Cond.code yX11_lessened cX11_lessened 3 (some .int), Cond.methodLink RX11 303 Lib.Math.max.name, Cond.methodLink RX11 206 yX11_punish, Cond.instanceMethod yX11_punish, Cond.selects RX11 yX11_punish yX11_punish, Cond.code yX11_punish cX11_punish 3 none, Cond.fieldLink RX11 308 "BreadLaw$Baker" "shorts" "I", Cond.methodLink RX11 311 Lib.Math.min.name, Cond.fieldLink RX11 314 "BreadLaw$Search" "fine" "I", Cond.fieldLink RX11 315 "BreadLaw$Baker" "fines" "I", Cond.methodLink RL 66 yX12_search, Cond.instanceMethod yX12_search, Cond.selects RX12 yX12_search yX12_search, Cond.code yX12_search cX12_search 9 (some .int), Cond.fieldLink RX12 219 "BreadLawModel" "turnsMany" "I", Cond.methodLink RX12 222 yX12_drawTurns, Cond.instanceMethod yX12_drawTurns, Cond.selects RX12 yX12_drawTurns yX12_drawTurns, Cond.code yX12_drawTurns cX12_drawTurns 4 none]
def wsL_law_r24 : List Cond := [Cond.constant RX12 216 (1103515245), Cond.constant RX12 217 (2147483647), Cond.constant RX12 218 (65536), Cond.methodLink RX12 225 yX12_lessBy, Cond.static yX12_lessBy, Cond.code yX12_lessBy cX12_lessBy 4 (some .int), Cond.methodLink RL 67 yX11_turn, Cond.instanceMethod yX11_turn, Cond.selects RX11 yX11_turn yX11_turn, Cond.code yX11_turn cX11_turn 1 (some .int), Cond.methodLink RL 70 yX12_turn, Cond.instanceMethod yX12_turn, Cond.selects RX12 yX12_turn yX12_turn, Cond.code yX12_turn cX12_turn 1 (some .int), Cond.methodLink RL 71 yX11_rules, Cond.instanceMethod yX11_rules, Cond.selects RX11 yX11_rules yX11_rules, Cond.code yX11_rules cX11_rules 3 (some .int), Cond.methodLink RL 74 yX12_rules, Cond.instanceMethod yX12_rules, Cond.selects RX12 yX12_rules yX12_rules, Cond.code yX12_rules cX12_rules 3 (some .int), Cond.methodLink RL 75 yX11_record, Cond.instanceMethod yX11_record]
def wsL_law_r25 : List Cond := [Cond.selects RX11 yX11_record yX11_record, Cond.code yX11_record cX11_record 4 (some .int), Cond.fieldLink RX11 210 "BreadLaw$Entry" "sort" "I", Cond.fieldLink RX11 218 "BreadLaw$Entry" "at" "I", Cond.fieldLink RX11 221 "BreadLaw$Entry" "baker" "I", Cond.methodLink RX11 215 ⟨"BreadLaw$Entry", "week", "()I"⟩, Cond.sameMethod "BreadLaw$Entry" "BreadLaw$Entry" "week" "()I", Cond.selects RX1 ⟨"BreadLaw$Entry", "week", "()I"⟩ yX3_week, Cond.selects RX6 ⟨"BreadLaw$Entry", "week", "()I"⟩ yX3_week, Cond.selects RX8 ⟨"BreadLaw$Entry", "week", "()I"⟩ yX3_week, Cond.methodLink RL 78 yX12_record, Cond.instanceMethod yX12_record, Cond.selects RX12 yX12_record yX12_record, Cond.code yX12_record cX12_record 3 (some .int), Cond.methodLink RL 79 yX11_lot, Cond.instanceMethod yX11_lot, Cond.selects RX11 yX11_lot yX11_lot, Cond.code yX11_lot cX11_lot 5 (some .int), Cond.methodLink RX11 224 yX6_detail, Cond.instanceMethod yX6_detail, Cond.selects RX6 yX6_detail yX6_detail, Cond.code yX6_detail cX6_detail 2 (some .int), Cond.fieldLink RX6 18 "BreadLaw$Lot" "isGround" "Z", Cond.fieldLink RX6 22 "BreadLaw$Lot" "flour" "I"]
def wsL_law_r26 : List Cond := [Cond.methodLink RL 82 yX12_lot, Cond.instanceMethod yX12_lot, Cond.selects RX12 yX12_lot yX12_lot, Cond.code yX12_lot cX12_lot 3 (some .int), Cond.constantLong RX12 229 (3), Cond.methodLink RL 83 yX11_batch, Cond.instanceMethod yX11_batch, Cond.selects RX11 yX11_batch yX11_batch, Cond.code yX11_batch cX11_batch 5 (some .int), Cond.classLink RX11 170 "BreadLaw$Batch", Cond.methodLink RX11 227 yX1_detail, Cond.instanceMethod yX1_detail, Cond.selects RX1 yX1_detail yX1_detail, Cond.code yX1_detail cX1_detail 2 (some .int), Cond.fieldLink RX1 21 "BreadLaw$Batch" "gifts" "I", Cond.methodLink RX11 228 yX2_giftDetail, Cond.instanceMethod yX2_giftDetail, Cond.selects RX2 yX2_giftDetail yX2_giftDetail, Cond.code yX2_giftDetail cX2_giftDetail 4 (some .int), Cond.methodLink RL 86 yX12_batch, Cond.instanceMethod yX12_batch, Cond.selects RX12 yX12_batch yX12_batch, Cond.code yX12_batch cX12_batch 4 (some .int), Cond.constantLong RX12 231 (4)]
def wsL_law_r27 : List Cond := [Cond.constantLong RX12 233 (9), Cond.methodLink RL 87 yX11_found, Cond.instanceMethod yX11_found, Cond.selects RX11 yX11_found yX11_found, Cond.code yX11_found cX11_found 5 (some .int), Cond.classLink RX11 191 "BreadLaw$Search", Cond.methodLink RX11 232 yX8_detail, Cond.instanceMethod yX8_detail, Cond.selects RX8 yX8_detail yX8_detail, Cond.code yX8_detail cX8_detail 2 (some .int), Cond.fieldLink RX8 15 "BreadLaw$Search" "age" "I", Cond.fieldLink RX8 18 "BreadLaw$Search" "weighed" "I", Cond.fieldLink RX8 21 "BreadLaw$Search" "asked" "I", Cond.fieldLink RX8 24 "BreadLaw$Search" "isShort" "Z", Cond.fieldLink RX8 28 "BreadLaw$Search" "fine" "I", Cond.methodLink RL 90 yX12_found, Cond.instanceMethod yX12_found, Cond.selects RX12 yX12_found yX12_found, Cond.code yX12_found cX12_found 3 (some .int), Cond.methodLink RL 91 yX11_about, Cond.instanceMethod yX11_about, Cond.selects RX11 yX11_about yX11_about, Cond.code yX11_about cX11_about 4 (some .int), Cond.methodLink RX11 233 yX0_detail]
def wsL_law_r28 : List Cond := [Cond.instanceMethod yX0_detail, Cond.selects RX0 yX0_detail yX0_detail, Cond.code yX0_detail cX0_detail 2 (some .int), Cond.fieldLink RX0 9 "BreadLaw$Baker" "flour" "I", Cond.fieldLink RX0 15 "BreadLaw$Baker" "lots" "I", Cond.fieldLink RX0 18 "BreadLaw$Baker" "batches" "I", Cond.fieldLink RX0 21 "BreadLaw$Baker" "searches" "I", Cond.fieldLink RX0 24 "BreadLaw$Baker" "shorts" "I", Cond.fieldLink RX0 27 "BreadLaw$Baker" "fines" "I", Cond.fieldLink RX0 30 "BreadLaw$Baker" "mayBakeFrom" "I", Cond.fieldLink RX0 33 "BreadLaw$Baker" "latest" "LBreadLaw$Batch;", Cond.fieldLink RX0 37 "BreadLaw$Batch" "number" "I", Cond.methodLink RL 94 yX12_about, Cond.instanceMethod yX12_about, Cond.selects RX12 yX12_about yX12_about, Cond.code yX12_about cX12_about 3 (some .int), Cond.methodLink RX12 235 yX12_manyOf, Cond.instanceMethod yX12_manyOf, Cond.selects RX12 yX12_manyOf yX12_manyOf, Cond.code yX12_manyOf cX12_manyOf 5 (some .int), Cond.methodLink RL 95 yX11_store, Cond.instanceMethod yX11_store, Cond.selects RX11 yX11_store yX11_store, Cond.code yX11_store cX11_store 2 (some .int)]
def wsL_law_r29 : List Cond := [Cond.constant RX11 234 (10000000), Cond.fieldLink RX11 235 "BreadLaw$Granary" "ounces" "I", Cond.constant RX11 238 (100000000), Cond.methodLink RL 98 yX12_store, Cond.instanceMethod yX12_store, Cond.selects RX12 yX12_store yX12_store, Cond.code yX12_store cX12_store 2 (some .int), Cond.constantLong RX12 241 (10000000), Cond.methodLink RL 99 yX11_mouths, Cond.instanceMethod yX11_mouths, Cond.selects RX11 yX11_mouths yX11_mouths, Cond.code yX11_mouths cX11_mouths 3 (some .int), Cond.fieldLink RX11 239 "BreadLaw$Granary" "mouths" "I", Cond.fieldLink RX11 242 "BreadLaw$Granary" "each" "I", Cond.methodLink RL 102 yX12_mouths, Cond.instanceMethod yX12_mouths, Cond.selects RX12 yX12_mouths yX12_mouths, Cond.code yX12_mouths cX12_mouths 3 (some .int), Cond.constantLong RX12 243 (10000), Cond.methodLink RL 103 yX11_ration, Cond.instanceMethod yX11_ration, Cond.selects RX11 yX11_ration yX11_ration, Cond.code yX11_ration cX11_ration 3 (some .int), Cond.fieldLink RX11 245 "BreadLaw$Granary" "ration" "I"]
def wsL_law_r30 : List Cond := [Cond.methodLink RL 106 yX12_ration, Cond.instanceMethod yX12_ration, Cond.selects RX12 yX12_ration yX12_ration, Cond.code yX12_ration cX12_ration 3 (some .int), Cond.methodLink RL 107 yX11_harvest, Cond.instanceMethod yX11_harvest, Cond.selects RX11 yX11_harvest yX11_harvest, Cond.code yX11_harvest cX11_harvest 3 (some .int), Cond.fieldLink RX11 248 "BreadLaw$Granary" "toCome" "I", Cond.methodLink RX11 251 yX4_expect, Cond.instanceMethod yX4_expect, Cond.selects RX4 yX4_expect yX4_expect, Cond.code yX4_expect cX4_expect 3 none, Cond.methodLink RL 110 yX12_harvest, Cond.instanceMethod yX12_harvest, Cond.selects RX12 yX12_harvest yX12_harvest, Cond.code yX12_harvest cX12_harvest 3 (some .int), Cond.methodLink RL 111 yX11_foretell, Cond.instanceMethod yX11_foretell, Cond.selects RX11 yX11_foretell yX11_foretell, Cond.code yX11_foretell cX11_foretell 2 (some .int), Cond.methodLink RX11 254 yX4_firstHunger, Cond.instanceMethod yX4_firstHunger, Cond.selects RX4 yX4_firstHunger yX4_firstHunger]
def wsL_law_r31 : List Cond := [Cond.code yX4_firstHunger cX4_firstHunger 7 (some .int), Cond.methodLink RL 114 yX12_foretell, Cond.instanceMethod yX12_foretell, Cond.selects RX12 yX12_foretell yX12_foretell, Cond.code yX12_foretell cX12_foretell 2 (some .int), Cond.methodLink RX12 245 yX12_hungerBy, Cond.instanceMethod yX12_hungerBy, Cond.selects RX12 yX12_hungerBy yX12_hungerBy, Cond.code yX12_hungerBy cX12_hungerBy 7 (some .int), Cond.methodLink RL 115 yX11_order, Cond.instanceMethod yX11_order, Cond.selects RX11 yX11_order yX11_order, Cond.code yX11_order cX11_order 2 (some .int), Cond.methodLink RX11 258 yX4_greatestRation, Cond.instanceMethod yX4_greatestRation, Cond.selects RX4 yX4_greatestRation yX4_greatestRation, Cond.code yX4_greatestRation cX4_greatestRation 6 (some .int), Cond.methodLink RX4 54 yX4_firstHunger, Cond.methodLink RL 118 yX12_order, Cond.instanceMethod yX12_order, Cond.selects RX12 yX12_order yX12_order, Cond.code yX12_order cX12_order 3 (some .int), Cond.methodLink RL 119 yX11_told, Cond.instanceMethod yX11_told]
def wsL_law_r32 : List Cond := [Cond.selects RX11 yX11_told yX11_told, Cond.code yX11_told cX11_told 2 (some .int), Cond.fieldLink RX11 265 "BreadLaw$Granary" "hungerWeeks" "I", Cond.methodLink RL 122 yX12_told, Cond.instanceMethod yX12_told, Cond.selects RX12 yX12_told yX12_told, Cond.code yX12_told cX12_told 2 (some .int)]
def wsL_law : List Cond := (wsL_law_r1 ++ (wsL_law_r2 ++ (wsL_law_r3 ++ (wsL_law_r4 ++ (wsL_law_r5 ++ (wsL_law_r6 ++ (wsL_law_r7 ++ (wsL_law_r8 ++ (wsL_law_r9 ++ (wsL_law_r10 ++ (wsL_law_r11 ++ (wsL_law_r12 ++ (wsL_law_r13 ++ (wsL_law_r14 ++ (wsL_law_r15 ++ (wsL_law_r16 ++ (wsL_law_r17 ++ (wsL_law_r18 ++ (wsL_law_r19 ++ (wsL_law_r20 ++ (wsL_law_r21 ++ (wsL_law_r22 ++ (wsL_law_r23 ++ (wsL_law_r24 ++ (wsL_law_r25 ++ (wsL_law_r26 ++ (wsL_law_r27 ++ (wsL_law_r28 ++ (wsL_law_r29 ++ (wsL_law_r30 ++ (wsL_law_r31 ++ wsL_law_r32))))))))))))))))))))))))))))))) ++ wsX110 ++ wsX120 ++ wsX20 ++ wsX70 ++ wsX50 ++ wsX100 ++ wsX40 ++ wsX00 ++ wsX60 ++ wsX10 ++ wsX80 ++ wsX90 ++ ([] : List Cond)
abbrev vwCl : List vw_C := [(RX0, TX0, 8), (RX1, TX1, 9), (RX2, TX2, 7), (RX4, TX4, 8), (RX5, TX5, 2), (RX6, TX6, 8), (RX7, TX7, 2), (RX8, TX8, 10), (RX9, TX9, 7), (RX10, TX10, 4), (RX11, TX11, 12), (RX12, TX12, 50)]
end
section
set_option maxRecDepth 20000 in
theorem wsL_law_r1_in : ∀ w ∈ wsL_law_r1, w ∈ lw_tbl := fun w h => (goodIn_r wsL_law_r1 [33, 34, 19, 689, 690, 25, 35, 36, 37, 38, 39, 40, 41, 42, 20, 163, 75, 76, 21, 164, 89, 90, 22, 165] (by decide +kernel) (by decide +kernel) w h).1
set_option maxRecDepth 20000 in
theorem wsL_law_r2_in : ∀ w ∈ wsL_law_r2, w ∈ lw_tbl := fun w h => (goodIn_r wsL_law_r2 [105, 106, 23, 166, 124, 125, 24, 167, 161, 168, 171, 172, 173, 43, 44, 45, 46, 47, 51, 49, 52, 74, 53, 54] (by decide +kernel) (by decide +kernel) w h).1
set_option maxRecDepth 20000 in
theorem wsL_law_r3_in : ∀ w ∈ wsL_law_r3, w ∈ lw_tbl := fun w h => (goodIn_r wsL_law_r3 [77, 78, 79, 80, 88, 81, 82, 91, 92, 93, 94, 95, 97, 107, 108, 109, 110, 111, 114, 126, 127, 128, 129, 130] (by decide +kernel) (by decide +kernel) w h).1
set_option maxRecDepth 20000 in
theorem wsL_law_r4_in : ∀ w ∈ wsL_law_r4, w ∈ lw_tbl := fun w h => (goodIn_r wsL_law_r4 [131, 138, 140, 691, 692, 693, 694, 698, 699, 700, 701, 703, 704, 846, 705, 706, 707, 709, 711, 712, 713, 714, 715, 716] (by decide +kernel) (by decide +kernel) w h).1
set_option maxRecDepth 20000 in
theorem wsL_law_r5_in : ∀ w ∈ wsL_law_r5, w ∈ lw_tbl := fun w h => (goodIn_r wsL_law_r5 [717, 719, 720, 721, 722, 723, 724, 725, 726, 727, 728, 729, 731, 734, 735, 736, 739, 740, 742, 743, 200, 201, 202, 203] (by decide +kernel) (by decide +kernel) w h).1
set_option maxRecDepth 20000 in
theorem wsL_law_r6_in : ∀ w ∈ wsL_law_r6, w ∈ lw_tbl := fun w h => (goodIn_r wsL_law_r6 [170, 207, 204, 205, 206, 208, 210, 0, 211, 212, 213, 214, 215, 134, 142, 220, 221, 26, 222, 216, 217, 218, 219, 136] (by decide +kernel) (by decide +kernel) w h).1
set_option maxRecDepth 20000 in
theorem wsL_law_r7_in : ∀ w ∈ wsL_law_r7, w ∈ lw_tbl := fun w h => (goodIn_r wsL_law_r7 [223, 224, 225, 226, 132, 227, 228, 229, 230, 231, 232, 233, 234, 847, 848, 849, 850, 851, 695, 696, 855, 852, 853, 854] (by decide +kernel) (by decide +kernel) w h).1
set_option maxRecDepth 20000 in
theorem wsL_law_r8_in : ∀ w ∈ wsL_law_r8, w ∈ lw_tbl := fun w h => (goodIn_r wsL_law_r8 [856, 858, 6, 859, 741, 737, 744, 865, 860, 862, 7, 863, 738, 864, 235, 236, 237, 238, 169, 239, 27, 241, 242, 243] (by decide +kernel) (by decide +kernel) w h).1
set_option maxRecDepth 20000 in
theorem wsL_law_r9_in : ∀ w ∈ wsL_law_r9, w ∈ lw_tbl := fun w h => (goodIn_r wsL_law_r9 [277, 278, 279, 280, 112, 113, 866, 867, 868, 869, 697, 732, 281, 282, 283, 284, 289, 294, 295, 29, 56, 247, 318, 319] (by decide +kernel) (by decide +kernel) w h).1
set_option maxRecDepth 20000 in
theorem wsL_law_r10_in : ∀ w ∈ wsL_law_r10, w ∈ lw_tbl := fun w h => (goodIn_r wsL_law_r10 [285, 287, 1, 288, 290, 291, 292, 293, 55, 296, 297, 298, 303, 306, 299, 300, 28, 301, 302, 313, 315, 324, 328, 352] (by decide +kernel) (by decide +kernel) w h).1
set_option maxRecDepth 20000 in
theorem wsL_law_r11_in : ∀ w ∈ wsL_law_r11, w ∈ lw_tbl := fun w h => (goodIn_r wsL_law_r11 [353, 354, 355, 356, 357, 358, 359, 360, 304, 307, 361, 362, 364, 365, 366, 870, 871, 872, 873, 878, 879, 702, 874, 876] (by decide +kernel) (by decide +kernel) w h).1
set_option maxRecDepth 20000 in
theorem wsL_law_r12_in : ∀ w ∈ wsL_law_r12, w ∈ lw_tbl := fun w h => (goodIn_r wsL_law_r12 [8, 877, 880, 882, 9, 883, 367, 368, 369, 370, 294, 309, 371, 372, 373, 374, 375, 377, 2, 378, 305, 312, 334, 330] (by decide +kernel) (by decide +kernel) w h).1
set_option maxRecDepth 20000 in
theorem wsL_law_r13_in : ∀ w ∈ wsL_law_r13, w ∈ lw_tbl := fun w h => (goodIn_r wsL_law_r13 [245, 174, 379, 380, 381, 382, 57, 884, 885, 886, 887, 708, 710, 888, 890, 10, 891, 383, 384, 385, 386, 892, 893, 894] (by decide +kernel) (by decide +kernel) w h).1
set_option maxRecDepth 20000 in
theorem wsL_law_r14_in : ∀ w ∈ wsL_law_r14, w ∈ lw_tbl := fun w h => (goodIn_r wsL_law_r14 [895, 896, 387, 388, 389, 390, 391, 392, 393, 394, 395, 897, 898, 899, 900, 901, 902, 904, 11, 905, 396, 397, 398, 399] (by decide +kernel) (by decide +kernel) w h).1
set_option maxRecDepth 20000 in
theorem wsL_law_r15_in : ∀ w ∈ wsL_law_r15, w ∈ lw_tbl := fun w h => (goodIn_r wsL_law_r15 [404, 405, 30, 99, 411, 400, 401, 402, 403, 98, 406, 407, 408, 409, 410, 412, 414, 416, 417, 418, 436, 437, 438, 439] (by decide +kernel) (by decide +kernel) w h).1
set_option maxRecDepth 20000 in
theorem wsL_law_r16_in : ∀ w ∈ wsL_law_r16, w ∈ lw_tbl := fun w h => (goodIn_r wsL_law_r16 [440, 906, 907, 908, 909, 910, 911, 912, 913, 730, 441, 442, 443, 444, 420, 445, 446, 447, 448, 449, 450, 451, 452, 419] (by decide +kernel) (by decide +kernel) w h).1
set_option maxRecDepth 20000 in
theorem wsL_law_r17_in : ∀ w ∈ wsL_law_r17, w ∈ lw_tbl := fun w h => (goodIn_r wsL_law_r17 [453, 454, 455, 456, 457, 914, 915, 916, 917, 458, 459, 460, 461, 462, 463, 464, 465, 413, 918, 919, 920, 921, 922, 924] (by decide +kernel) (by decide +kernel) w h).1
set_option maxRecDepth 20000 in
theorem wsL_law_r18_in : ∀ w ∈ wsL_law_r18, w ∈ lw_tbl := fun w h => (goodIn_r wsL_law_r18 [12, 925, 466, 467, 468, 469, 470, 472, 3, 473, 474, 475, 476, 477, 478, 479, 480, 481, 926, 927, 928, 929, 930, 932] (by decide +kernel) (by decide +kernel) w h).1
set_option maxRecDepth 20000 in
theorem wsL_law_r19_in : ∀ w ∈ wsL_law_r19, w ∈ lw_tbl := fun w h => (goodIn_r wsL_law_r19 [13, 933, 482, 483, 484, 485, 257, 486, 487, 31, 249, 259, 321, 317, 488, 489, 490, 492, 494, 496, 491, 517, 518, 519] (by decide +kernel) (by decide +kernel) w h).1
set_option maxRecDepth 20000 in
theorem wsL_law_r20_in : ∀ w ∈ wsL_law_r20, w ∈ lw_tbl := fun w h => (goodIn_r wsL_law_r20 [520, 495, 497, 58, 499, 329, 331, 332, 311, 521, 522, 523, 524, 525, 320, 501, 934, 935, 936, 937, 938, 939, 718, 940] (by decide +kernel) (by decide +kernel) w h).1
set_option maxRecDepth 20000 in
theorem wsL_law_r21_in : ∀ w ∈ wsL_law_r21, w ∈ lw_tbl := fun w h => (goodIn_r wsL_law_r21 [942, 14, 943, 526, 527, 528, 529, 546, 547, 32, 251, 561, 322, 323, 530, 531, 532, 533, 534, 535, 536, 537, 538, 539] (by decide +kernel) (by decide +kernel) w h).1
set_option maxRecDepth 20000 in
theorem wsL_law_r22_in : ∀ w ∈ wsL_law_r22, w ∈ lw_tbl := fun w h => (goodIn_r wsL_law_r22 [540, 541, 542, 543, 544, 545, 548, 549, 550, 552, 551, 581, 583, 4, 584, 415, 553, 326, 327, 555, 498, 557, 493, 559] (by decide +kernel) (by decide +kernel) w h).1
set_option maxRecDepth 20000 in
theorem wsL_law_r23_in : ∀ w ∈ wsL_law_r23, w ∈ lw_tbl := fun w h => (goodIn_r wsL_law_r23 [585, 586, 587, 588, 589, 590, 591, 592, 594, 5, 595, 253, 596, 563, 255, 944, 945, 946, 947, 733, 948, 950, 15, 951] (by decide +kernel) (by decide +kernel) w h).1
set_option maxRecDepth 20000 in
theorem wsL_law_r24_in : ∀ w ∈ wsL_law_r24, w ∈ lw_tbl := fun w h => (goodIn_r wsL_law_r24 [952, 953, 954, 955, 956, 957, 597, 598, 599, 600, 958, 959, 960, 961, 601, 602, 603, 604, 962, 963, 964, 965, 605, 606] (by decide +kernel) (by decide +kernel) w h).1
set_option maxRecDepth 20000 in
theorem wsL_law_r25_in : ∀ w ∈ wsL_law_r25, w ∈ lw_tbl := fun w h => (goodIn_r wsL_law_r25 [607, 608, 314, 325, 333, 609, 1027, 1028, 1029, 1030, 966, 967, 968, 969, 610, 611, 612, 613, 614, 615, 616, 617, 308, 310] (by decide +kernel) (by decide +kernel) w h).1
set_option maxRecDepth 20000 in
theorem wsL_law_r26_in : ∀ w ∈ wsL_law_r26, w ∈ lw_tbl := fun w h => (goodIn_r wsL_law_r26 [970, 971, 972, 973, 974, 618, 619, 620, 621, 486, 622, 623, 624, 625, 500, 626, 627, 628, 629, 975, 976, 977, 978, 979] (by decide +kernel) (by decide +kernel) w h).1
set_option maxRecDepth 20000 in
theorem wsL_law_r27_in : ∀ w ∈ wsL_law_r27, w ∈ lw_tbl := fun w h => (goodIn_r wsL_law_r27 [980, 630, 631, 632, 633, 546, 634, 635, 636, 637, 554, 556, 558, 560, 562, 981, 982, 983, 984, 638, 639, 640, 641, 642] (by decide +kernel) (by decide +kernel) w h).1
set_option maxRecDepth 20000 in
theorem wsL_law_r28_in : ∀ w ∈ wsL_law_r28, w ∈ lw_tbl := fun w h => (goodIn_r wsL_law_r28 [643, 644, 645, 244, 246, 248, 250, 252, 254, 256, 258, 316, 985, 986, 987, 988, 989, 991, 16, 992, 646, 647, 648, 649] (by decide +kernel) (by decide +kernel) w h).1
set_option maxRecDepth 20000 in
theorem wsL_law_r29_in : ∀ w ∈ wsL_law_r29, w ∈ lw_tbl := fun w h => (goodIn_r wsL_law_r29 [650, 135, 651, 993, 994, 995, 996, 997, 652, 653, 654, 655, 137, 139, 998, 999, 1000, 1001, 1002, 656, 657, 658, 659, 141] (by decide +kernel) (by decide +kernel) w h).1
set_option maxRecDepth 20000 in
theorem wsL_law_r30_in : ∀ w ∈ wsL_law_r30, w ∈ lw_tbl := fun w h => (goodIn_r wsL_law_r30 [1003, 1004, 1005, 1006, 660, 661, 662, 663, 133, 664, 665, 666, 667, 1007, 1008, 1009, 1010, 668, 669, 670, 671, 672, 673, 674] (by decide +kernel) (by decide +kernel) w h).1
set_option maxRecDepth 20000 in
theorem wsL_law_r31_in : ∀ w ∈ wsL_law_r31, w ∈ lw_tbl := fun w h => (goodIn_r wsL_law_r31 [675, 1011, 1012, 1013, 1014, 1015, 1017, 17, 1018, 676, 677, 678, 679, 680, 681, 682, 683, 684, 1019, 1020, 1021, 1022, 685, 686] (by decide +kernel) (by decide +kernel) w h).1
set_option maxRecDepth 20000 in
theorem wsL_law_r32_in : ∀ w ∈ wsL_law_r32, w ∈ lw_tbl := fun w h => (goodIn_r wsL_law_r32 [687, 688, 143, 1023, 1024, 1025, 1026] (by decide +kernel) (by decide +kernel) w h).1
set_option maxRecDepth 20000 in
theorem wsX00_in : ∀ w ∈ wsX00, w ∈ lw_tbl := fun w h => (goodIn_r wsX00 [260, 262, 264, 266, 268, 270, 272, 274] (by decide +kernel) (by decide +kernel) w h).1
set_option maxRecDepth 20000 in
theorem wsX10_in : ∀ w ∈ wsX10, w ∈ lw_tbl := fun w h => (goodIn_r wsX10 [512, 513, 514, 515, 502, 504, 506, 508, 510] (by decide +kernel) (by decide +kernel) w h).1
set_option maxRecDepth 20000 in
theorem wsX20_in : ∀ w ∈ wsX20, w ∈ lw_tbl := fun w h => (goodIn_r wsX20 [59, 61, 63, 65, 67, 69, 71] (by decide +kernel) (by decide +kernel) w h).1
set_option maxRecDepth 20000 in
theorem wsX40_in : ∀ w ∈ wsX40, w ∈ lw_tbl := fun w h => (goodIn_r wsX40 [144, 146, 148, 150, 152, 154, 156, 158] (by decide +kernel) (by decide +kernel) w h).1
set_option maxRecDepth 20000 in
theorem wsX50_in : ∀ w ∈ wsX50, w ∈ lw_tbl := fun w h => (goodIn_r wsX50 [100, 102] (by decide +kernel) (by decide +kernel) w h).1
set_option maxRecDepth 20000 in
theorem wsX60_in : ∀ w ∈ wsX60, w ∈ lw_tbl := fun w h => (goodIn_r wsX60 [343, 345, 347, 349, 335, 337, 339, 341] (by decide +kernel) (by decide +kernel) w h).1
set_option maxRecDepth 20000 in
theorem wsX70_in : ∀ w ∈ wsX70, w ∈ lw_tbl := fun w h => (goodIn_r wsX70 [83, 85] (by decide +kernel) (by decide +kernel) w h).1
set_option maxRecDepth 20000 in
theorem wsX80_in : ∀ w ∈ wsX80, w ∈ lw_tbl := fun w h => (goodIn_r wsX80 [576, 577, 578, 579, 564, 566, 568, 570, 572, 574] (by decide +kernel) (by decide +kernel) w h).1
set_option maxRecDepth 20000 in
theorem wsX90_in : ∀ w ∈ wsX90, w ∈ lw_tbl := fun w h => (goodIn_r wsX90 [421, 423, 425, 427, 429, 431, 433] (by decide +kernel) (by decide +kernel) w h).1
set_option maxRecDepth 20000 in
theorem wsX100_in : ∀ w ∈ wsX100, w ∈ lw_tbl := fun w h => (goodIn_r wsX100 [115, 117, 119, 121] (by decide +kernel) (by decide +kernel) w h).1
set_option maxRecDepth 20000 in
theorem wsX110_in : ∀ w ∈ wsX110, w ∈ lw_tbl := fun w h => (goodIn_r wsX110 [175, 177, 179, 181, 183, 185, 187, 189, 191, 193, 195, 197] (by decide +kernel) (by decide +kernel) w h).1
set_option maxRecDepth 20000 in
theorem wsX120_in : ∀ w ∈ wsX120, w ∈ lw_tbl := fun w h => (goodIn_r wsX120 [745, 747, 749, 751, 753, 755, 757, 759, 761, 763, 765, 767, 769, 771, 773, 775, 777, 779, 781, 783, 785, 787, 789, 791, 793, 795, 797, 799, 801, 803, 805, 807, 809, 811, 813, 815, 817, 819, 821, 823, 825, 827, 829, 831, 833, 835, 837, 839, 841, 843] (by decide +kernel) (by decide +kernel) w h).1
theorem wsL_law_in : ∀ w ∈ wsL_law, w ∈ lw_tbl := by
  unfold wsL_law
  exact List.forall_mem_append.mpr ⟨List.forall_mem_append.mpr ⟨List.forall_mem_append.mpr ⟨List.forall_mem_append.mpr ⟨List.forall_mem_append.mpr ⟨List.forall_mem_append.mpr ⟨List.forall_mem_append.mpr ⟨List.forall_mem_append.mpr ⟨List.forall_mem_append.mpr ⟨List.forall_mem_append.mpr ⟨List.forall_mem_append.mpr ⟨List.forall_mem_append.mpr ⟨List.forall_mem_append.mpr ⟨List.forall_mem_append.mpr ⟨wsL_law_r1_in, List.forall_mem_append.mpr ⟨wsL_law_r2_in, List.forall_mem_append.mpr ⟨wsL_law_r3_in, List.forall_mem_append.mpr ⟨wsL_law_r4_in, List.forall_mem_append.mpr ⟨wsL_law_r5_in, List.forall_mem_append.mpr ⟨wsL_law_r6_in, List.forall_mem_append.mpr ⟨wsL_law_r7_in, List.forall_mem_append.mpr ⟨wsL_law_r8_in, List.forall_mem_append.mpr ⟨wsL_law_r9_in, List.forall_mem_append.mpr ⟨wsL_law_r10_in, List.forall_mem_append.mpr ⟨wsL_law_r11_in, List.forall_mem_append.mpr ⟨wsL_law_r12_in, List.forall_mem_append.mpr ⟨wsL_law_r13_in, List.forall_mem_append.mpr ⟨wsL_law_r14_in, List.forall_mem_append.mpr ⟨wsL_law_r15_in, List.forall_mem_append.mpr ⟨wsL_law_r16_in, List.forall_mem_append.mpr ⟨wsL_law_r17_in, List.forall_mem_append.mpr ⟨wsL_law_r18_in, List.forall_mem_append.mpr ⟨wsL_law_r19_in, List.forall_mem_append.mpr ⟨wsL_law_r20_in, List.forall_mem_append.mpr ⟨wsL_law_r21_in, List.forall_mem_append.mpr ⟨wsL_law_r22_in, List.forall_mem_append.mpr ⟨wsL_law_r23_in, List.forall_mem_append.mpr ⟨wsL_law_r24_in, List.forall_mem_append.mpr ⟨wsL_law_r25_in, List.forall_mem_append.mpr ⟨wsL_law_r26_in, List.forall_mem_append.mpr ⟨wsL_law_r27_in, List.forall_mem_append.mpr ⟨wsL_law_r28_in, List.forall_mem_append.mpr ⟨wsL_law_r29_in, List.forall_mem_append.mpr ⟨wsL_law_r30_in, List.forall_mem_append.mpr ⟨wsL_law_r31_in, wsL_law_r32_in⟩⟩⟩⟩⟩⟩⟩⟩⟩⟩⟩⟩⟩⟩⟩⟩⟩⟩⟩⟩⟩⟩⟩⟩⟩⟩⟩⟩⟩⟩⟩, wsX110_in⟩, wsX120_in⟩, wsX20_in⟩, wsX70_in⟩, wsX50_in⟩, wsX100_in⟩, wsX40_in⟩, wsX00_in⟩, wsX60_in⟩, wsX10_in⟩, wsX80_in⟩, wsX90_in⟩, (fun _ h => absurd h List.not_mem_nil)⟩
theorem inlX0 : ∀ w ∈ wsX00, w ∈ wsL_law := fun _ h => List.mem_append_left _ (List.mem_append_left _ (List.mem_append_left _ (List.mem_append_left _ (List.mem_append_left _ (List.mem_append_right _ h)))))
theorem inX0 : ∀ w ∈ wsX00, w ∈ lw_tbl := fun w h => wsL_law_in w (inlX0 w h)
theorem inlX1 : ∀ w ∈ wsX10, w ∈ wsL_law := fun _ h => List.mem_append_left _ (List.mem_append_left _ (List.mem_append_left _ (List.mem_append_right _ h)))
theorem inX1 : ∀ w ∈ wsX10, w ∈ lw_tbl := fun w h => wsL_law_in w (inlX1 w h)
theorem inlX2 : ∀ w ∈ wsX20, w ∈ wsL_law := fun _ h => List.mem_append_left _ (List.mem_append_left _ (List.mem_append_left _ (List.mem_append_left _ (List.mem_append_left _ (List.mem_append_left _ (List.mem_append_left _ (List.mem_append_left _ (List.mem_append_left _ (List.mem_append_left _ (List.mem_append_right _ h))))))))))
theorem inX2 : ∀ w ∈ wsX20, w ∈ lw_tbl := fun w h => wsL_law_in w (inlX2 w h)
theorem inX3 : ∀ w ∈ wsX30, w ∈ lw_tbl := by decide +kernel
theorem inlX4 : ∀ w ∈ wsX40, w ∈ wsL_law := fun _ h => List.mem_append_left _ (List.mem_append_left _ (List.mem_append_left _ (List.mem_append_left _ (List.mem_append_left _ (List.mem_append_left _ (List.mem_append_right _ h))))))
theorem inX4 : ∀ w ∈ wsX40, w ∈ lw_tbl := fun w h => wsL_law_in w (inlX4 w h)
theorem inlX5 : ∀ w ∈ wsX50, w ∈ wsL_law := fun _ h => List.mem_append_left _ (List.mem_append_left _ (List.mem_append_left _ (List.mem_append_left _ (List.mem_append_left _ (List.mem_append_left _ (List.mem_append_left _ (List.mem_append_left _ (List.mem_append_right _ h))))))))
theorem inX5 : ∀ w ∈ wsX50, w ∈ lw_tbl := fun w h => wsL_law_in w (inlX5 w h)
theorem inlX6 : ∀ w ∈ wsX60, w ∈ wsL_law := fun _ h => List.mem_append_left _ (List.mem_append_left _ (List.mem_append_left _ (List.mem_append_left _ (List.mem_append_right _ h))))
theorem inX6 : ∀ w ∈ wsX60, w ∈ lw_tbl := fun w h => wsL_law_in w (inlX6 w h)
theorem inlX7 : ∀ w ∈ wsX70, w ∈ wsL_law := fun _ h => List.mem_append_left _ (List.mem_append_left _ (List.mem_append_left _ (List.mem_append_left _ (List.mem_append_left _ (List.mem_append_left _ (List.mem_append_left _ (List.mem_append_left _ (List.mem_append_left _ (List.mem_append_right _ h)))))))))
theorem inX7 : ∀ w ∈ wsX70, w ∈ lw_tbl := fun w h => wsL_law_in w (inlX7 w h)
theorem inlX8 : ∀ w ∈ wsX80, w ∈ wsL_law := fun _ h => List.mem_append_left _ (List.mem_append_left _ (List.mem_append_right _ h))
theorem inX8 : ∀ w ∈ wsX80, w ∈ lw_tbl := fun w h => wsL_law_in w (inlX8 w h)
theorem inlX9 : ∀ w ∈ wsX90, w ∈ wsL_law := fun _ h => List.mem_append_left _ (List.mem_append_right _ h)
theorem inX9 : ∀ w ∈ wsX90, w ∈ lw_tbl := fun w h => wsL_law_in w (inlX9 w h)
theorem inlX10 : ∀ w ∈ wsX100, w ∈ wsL_law := fun _ h => List.mem_append_left _ (List.mem_append_left _ (List.mem_append_left _ (List.mem_append_left _ (List.mem_append_left _ (List.mem_append_left _ (List.mem_append_left _ (List.mem_append_right _ h)))))))
theorem inX10 : ∀ w ∈ wsX100, w ∈ lw_tbl := fun w h => wsL_law_in w (inlX10 w h)
theorem inlX11 : ∀ w ∈ wsX110, w ∈ wsL_law := fun _ h => List.mem_append_left _ (List.mem_append_left _ (List.mem_append_left _ (List.mem_append_left _ (List.mem_append_left _ (List.mem_append_left _ (List.mem_append_left _ (List.mem_append_left _ (List.mem_append_left _ (List.mem_append_left _ (List.mem_append_left _ (List.mem_append_left _ (List.mem_append_right _ h))))))))))))
theorem inX11 : ∀ w ∈ wsX110, w ∈ lw_tbl := fun w h => wsL_law_in w (inlX11 w h)
theorem inlX12 : ∀ w ∈ wsX120, w ∈ wsL_law := fun _ h => List.mem_append_left _ (List.mem_append_left _ (List.mem_append_left _ (List.mem_append_left _ (List.mem_append_left _ (List.mem_append_left _ (List.mem_append_left _ (List.mem_append_left _ (List.mem_append_left _ (List.mem_append_left _ (List.mem_append_left _ (List.mem_append_right _ h)))))))))))
theorem inX12 : ∀ w ∈ wsX120, w ∈ lw_tbl := fun w h => wsL_law_in w (inlX12 w h)
theorem inJ9 : ∀ w ∈ wsJ90, w ∈ lw_tbl := by decide +kernel
end
section
theorem dX0_init_0 : decode cX0_init 0 = .ok (.aload_n 0, 1) := by decide +kernel
theorem dX0_init_1 : decode cX0_init 1 = .ok (.invokespecial 3, 3) := by decide +kernel
theorem dX0_init_4 : decode cX0_init 4 = .ok (.return_, 1) := by decide +kernel
theorem dX0_detail_0 : decode cX0_detail 0 = .ok (.iload_n 1, 1) := by decide +kernel
theorem dX0_detail_1 : decode cX0_detail 1 = .ok (.tableswitch 102 0 7 #[47, 52, 57, 62, 67, 72, 77, 82], 47) := by decide +kernel
theorem dX0_detail_48 : decode cX0_detail 48 = .ok (.aload_n 0, 1) := by decide +kernel
theorem dX0_detail_49 : decode cX0_detail 49 = .ok (.getfield 9, 3) := by decide +kernel
theorem dX0_detail_52 : decode cX0_detail 52 = .ok (.ireturn, 1) := by decide +kernel
theorem dX0_detail_53 : decode cX0_detail 53 = .ok (.aload_n 0, 1) := by decide +kernel
theorem dX0_detail_54 : decode cX0_detail 54 = .ok (.getfield 15, 3) := by decide +kernel
theorem dX0_detail_57 : decode cX0_detail 57 = .ok (.ireturn, 1) := by decide +kernel
theorem dX0_detail_58 : decode cX0_detail 58 = .ok (.aload_n 0, 1) := by decide +kernel
theorem dX0_detail_59 : decode cX0_detail 59 = .ok (.getfield 18, 3) := by decide +kernel
theorem dX0_detail_62 : decode cX0_detail 62 = .ok (.ireturn, 1) := by decide +kernel
theorem dX0_detail_63 : decode cX0_detail 63 = .ok (.aload_n 0, 1) := by decide +kernel
theorem dX0_detail_64 : decode cX0_detail 64 = .ok (.getfield 21, 3) := by decide +kernel
theorem dX0_detail_67 : decode cX0_detail 67 = .ok (.ireturn, 1) := by decide +kernel
theorem dX0_detail_68 : decode cX0_detail 68 = .ok (.aload_n 0, 1) := by decide +kernel
theorem dX0_detail_69 : decode cX0_detail 69 = .ok (.getfield 24, 3) := by decide +kernel
theorem dX0_detail_72 : decode cX0_detail 72 = .ok (.ireturn, 1) := by decide +kernel
theorem dX0_detail_73 : decode cX0_detail 73 = .ok (.aload_n 0, 1) := by decide +kernel
theorem dX0_detail_74 : decode cX0_detail 74 = .ok (.getfield 27, 3) := by decide +kernel
theorem dX0_detail_77 : decode cX0_detail 77 = .ok (.ireturn, 1) := by decide +kernel
theorem dX0_detail_78 : decode cX0_detail 78 = .ok (.aload_n 0, 1) := by decide +kernel
theorem dX0_detail_79 : decode cX0_detail 79 = .ok (.getfield 30, 3) := by decide +kernel
theorem dX0_detail_82 : decode cX0_detail 82 = .ok (.ireturn, 1) := by decide +kernel
theorem dX0_detail_83 : decode cX0_detail 83 = .ok (.aload_n 0, 1) := by decide +kernel
theorem dX0_detail_84 : decode cX0_detail 84 = .ok (.getfield 33, 3) := by decide +kernel
theorem dX0_detail_87 : decode cX0_detail 87 = .ok (.ifnonnull 8, 3) := by decide +kernel
theorem dX0_detail_90 : decode cX0_detail 90 = .ok (.bipush (-6), 2) := by decide +kernel
theorem dX0_detail_92 : decode cX0_detail 92 = .ok (.goto 10, 3) := by decide +kernel
theorem dX0_detail_95 : decode cX0_detail 95 = .ok (.aload_n 0, 1) := by decide +kernel
theorem dX0_detail_96 : decode cX0_detail 96 = .ok (.getfield 33, 3) := by decide +kernel
theorem dX0_detail_99 : decode cX0_detail 99 = .ok (.getfield 37, 3) := by decide +kernel
theorem dX0_detail_102 : decode cX0_detail 102 = .ok (.ireturn, 1) := by decide +kernel
theorem dX0_detail_103 : decode cX0_detail 103 = .ok (.bipush (-2), 2) := by decide +kernel
theorem dX0_detail_105 : decode cX0_detail 105 = .ok (.ireturn, 1) := by decide +kernel
set_option maxRecDepth 20000 in
theorem ggX1_init_X3_init : GoodIn wsX1_init wsX3_init := goodIn_r _ [7, 8, 9, 10, 11, 12, 13, 14, 15, 16, 17, 18, 19, 20, 21, 22, 23, 24, 25, 26, 27, 28, 29, 30, 31, 32, 33, 34, 35, 36, 37, 38, 39, 40, 41] (by decide +kernel) (by decide +kernel)
set_option maxRecDepth 20000 in
theorem gX1_init_X3_init : GoodIn wsX1_init (wsX3_init) := ggX1_init_X3_init
theorem dX1_init_0 : decode cX1_init 0 = .ok (.aload_n 0, 1) := by decide +kernel
theorem dX1_init_1 : decode cX1_init 1 = .ok (.iconst 2, 1) := by decide +kernel
theorem dX1_init_2 : decode cX1_init 2 = .ok (.iload_n 1, 1) := by decide +kernel
theorem dX1_init_3 : decode cX1_init 3 = .ok (.iload_n 2, 1) := by decide +kernel
theorem dX1_init_4 : decode cX1_init 4 = .ok (.iload_n 3, 1) := by decide +kernel
theorem dX1_init_5 : decode cX1_init 5 = .ok (.invokespecial 3, 3) := by decide +kernel
theorem dX1_init_8 : decode cX1_init 8 = .ok (.aload_n 0, 1) := by decide +kernel
theorem dX1_init_9 : decode cX1_init 9 = .ok (.iload 4, 2) := by decide +kernel
theorem dX1_init_11 : decode cX1_init 11 = .ok (.putfield 9, 3) := by decide +kernel
theorem dX1_init_14 : decode cX1_init 14 = .ok (.aload_n 0, 1) := by decide +kernel
theorem dX1_init_15 : decode cX1_init 15 = .ok (.iload 5, 2) := by decide +kernel
theorem dX1_init_17 : decode cX1_init 17 = .ok (.putfield 15, 3) := by decide +kernel
theorem dX1_init_20 : decode cX1_init 20 = .ok (.aload_n 0, 1) := by decide +kernel
theorem dX1_init_21 : decode cX1_init 21 = .ok (.iload 6, 2) := by decide +kernel
theorem dX1_init_23 : decode cX1_init 23 = .ok (.putfield 18, 3) := by decide +kernel
theorem dX1_init_26 : decode cX1_init 26 = .ok (.return_, 1) := by decide +kernel
theorem dX1_detail_0 : decode cX1_detail 0 = .ok (.iload_n 1, 1) := by decide +kernel
theorem dX1_detail_1 : decode cX1_detail 1 = .ok (.tableswitch 51 0 3 #[31, 36, 41, 46], 31) := by decide +kernel
theorem dX1_detail_32 : decode cX1_detail 32 = .ok (.aload_n 0, 1) := by decide +kernel
theorem dX1_detail_33 : decode cX1_detail 33 = .ok (.getfield 9, 3) := by decide +kernel
theorem dX1_detail_36 : decode cX1_detail 36 = .ok (.ireturn, 1) := by decide +kernel
theorem dX1_detail_37 : decode cX1_detail 37 = .ok (.aload_n 0, 1) := by decide +kernel
theorem dX1_detail_38 : decode cX1_detail 38 = .ok (.getfield 15, 3) := by decide +kernel
theorem dX1_detail_41 : decode cX1_detail 41 = .ok (.ireturn, 1) := by decide +kernel
theorem dX1_detail_42 : decode cX1_detail 42 = .ok (.aload_n 0, 1) := by decide +kernel
theorem dX1_detail_43 : decode cX1_detail 43 = .ok (.getfield 18, 3) := by decide +kernel
theorem dX1_detail_46 : decode cX1_detail 46 = .ok (.ireturn, 1) := by decide +kernel
theorem dX1_detail_47 : decode cX1_detail 47 = .ok (.aload_n 0, 1) := by decide +kernel
theorem dX1_detail_48 : decode cX1_detail 48 = .ok (.getfield 21, 3) := by decide +kernel
theorem dX1_detail_51 : decode cX1_detail 51 = .ok (.ireturn, 1) := by decide +kernel
theorem dX1_detail_52 : decode cX1_detail 52 = .ok (.bipush (-2), 2) := by decide +kernel
theorem dX1_detail_54 : decode cX1_detail 54 = .ok (.ireturn, 1) := by decide +kernel
theorem dX2_init_0 : decode cX2_init 0 = .ok (.aload_n 0, 1) := by decide +kernel
theorem dX2_init_1 : decode cX2_init 1 = .ok (.invokespecial 3, 3) := by decide +kernel
theorem dX2_init_4 : decode cX2_init 4 = .ok (.aload_n 0, 1) := by decide +kernel
theorem dX2_init_5 : decode cX2_init 5 = .ok (.sipush 200, 3) := by decide +kernel
theorem dX2_init_8 : decode cX2_init 8 = .ok (.anewarray 9, 3) := by decide +kernel
theorem dX2_init_11 : decode cX2_init 11 = .ok (.putfield 11, 3) := by decide +kernel
theorem dX2_init_14 : decode cX2_init 14 = .ok (.aload_n 0, 1) := by decide +kernel
theorem dX2_init_15 : decode cX2_init 15 = .ok (.sipush 200, 3) := by decide +kernel
theorem dX2_init_18 : decode cX2_init 18 = .ok (.anewarray 17, 3) := by decide +kernel
theorem dX2_init_21 : decode cX2_init 21 = .ok (.putfield 19, 3) := by decide +kernel
theorem dX2_init_24 : decode cX2_init 24 = .ok (.aload_n 0, 1) := by decide +kernel
theorem dX2_init_25 : decode cX2_init 25 = .ok (.sipush 200, 3) := by decide +kernel
theorem dX2_init_28 : decode cX2_init 28 = .ok (.newarray .int, 2) := by decide +kernel
theorem dX2_init_30 : decode cX2_init 30 = .ok (.putfield 23, 3) := by decide +kernel
theorem dX2_init_33 : decode cX2_init 33 = .ok (.aload_n 0, 1) := by decide +kernel
theorem dX2_init_34 : decode cX2_init 34 = .ok (.sipush 200, 3) := by decide +kernel
theorem dX2_init_37 : decode cX2_init 37 = .ok (.newarray .int, 2) := by decide +kernel
theorem dX2_init_39 : decode cX2_init 39 = .ok (.putfield 27, 3) := by decide +kernel
theorem dX2_init_42 : decode cX2_init 42 = .ok (.return_, 1) := by decide +kernel
theorem dX2_isFull_0 : decode cX2_isFull 0 = .ok (.aload_n 0, 1) := by decide +kernel
theorem dX2_isFull_1 : decode cX2_isFull 1 = .ok (.getfield 30, 3) := by decide +kernel
theorem dX2_isFull_4 : decode cX2_isFull 4 = .ok (.sipush 200, 3) := by decide +kernel
theorem dX2_isFull_7 : decode cX2_isFull 7 = .ok (.if_icmp .lt 7, 3) := by decide +kernel
theorem dX2_isFull_10 : decode cX2_isFull 10 = .ok (.iconst 1, 1) := by decide +kernel
theorem dX2_isFull_11 : decode cX2_isFull 11 = .ok (.goto 4, 3) := by decide +kernel
theorem dX2_isFull_14 : decode cX2_isFull 14 = .ok (.iconst 0, 1) := by decide +kernel
theorem dX2_isFull_15 : decode cX2_isFull 15 = .ok (.ireturn, 1) := by decide +kernel
set_option maxRecDepth 20000 in
theorem ggX2_enter_X2_isFull : GoodIn wsX2_enter wsX2_isFull := goodIn_r _ [7, 2, 8, 9, 10, 11, 12, 13, 14] (by decide +kernel) (by decide +kernel)
set_option maxRecDepth 20000 in
theorem gX2_enter_X2_isFull : GoodIn wsX2_enter (wsV RX2 34 RX2 yX2_isFull wsX2_isFull) := goodIn_app (goodIn_of _ (by decide +kernel)) ggX2_enter_X2_isFull
theorem dX2_enter_0 : decode cX2_enter 0 = .ok (.aload_n 0, 1) := by decide +kernel
theorem dX2_enter_1 : decode cX2_enter 1 = .ok (.invokevirtual 34, 3) := by decide +kernel
theorem dX2_enter_4 : decode cX2_enter 4 = .ok (.ifCond .ne 23, 3) := by decide +kernel
theorem dX2_enter_7 : decode cX2_enter 7 = .ok (.aload_n 0, 1) := by decide +kernel
theorem dX2_enter_8 : decode cX2_enter 8 = .ok (.getfield 11, 3) := by decide +kernel
theorem dX2_enter_11 : decode cX2_enter 11 = .ok (.aload_n 0, 1) := by decide +kernel
theorem dX2_enter_12 : decode cX2_enter 12 = .ok (.getfield 30, 3) := by decide +kernel
theorem dX2_enter_15 : decode cX2_enter 15 = .ok (.aload_n 1, 1) := by decide +kernel
theorem dX2_enter_16 : decode cX2_enter 16 = .ok (.aastore, 1) := by decide +kernel
theorem dX2_enter_17 : decode cX2_enter 17 = .ok (.aload_n 0, 1) := by decide +kernel
theorem dX2_enter_18 : decode cX2_enter 18 = .ok (.dup, 1) := by decide +kernel
theorem dX2_enter_19 : decode cX2_enter 19 = .ok (.getfield 30, 3) := by decide +kernel
theorem dX2_enter_22 : decode cX2_enter 22 = .ok (.iconst 1, 1) := by decide +kernel
theorem dX2_enter_23 : decode cX2_enter 23 = .ok (.iadd, 1) := by decide +kernel
theorem dX2_enter_24 : decode cX2_enter 24 = .ok (.putfield 30, 3) := by decide +kernel
theorem dX2_enter_27 : decode cX2_enter 27 = .ok (.return_, 1) := by decide +kernel
theorem dX2_entryAt_0 : decode cX2_entryAt 0 = .ok (.iload_n 1, 1) := by decide +kernel
theorem dX2_entryAt_1 : decode cX2_entryAt 1 = .ok (.ifCond .lt 11, 3) := by decide +kernel
theorem dX2_entryAt_4 : decode cX2_entryAt 4 = .ok (.iload_n 1, 1) := by decide +kernel
theorem dX2_entryAt_5 : decode cX2_entryAt 5 = .ok (.aload_n 0, 1) := by decide +kernel
theorem dX2_entryAt_6 : decode cX2_entryAt 6 = .ok (.getfield 30, 3) := by decide +kernel
theorem dX2_entryAt_9 : decode cX2_entryAt 9 = .ok (.if_icmp .lt 7, 3) := by decide +kernel
theorem dX2_entryAt_12 : decode cX2_entryAt 12 = .ok (.aconst_null, 1) := by decide +kernel
theorem dX2_entryAt_13 : decode cX2_entryAt 13 = .ok (.goto 9, 3) := by decide +kernel
theorem dX2_entryAt_16 : decode cX2_entryAt 16 = .ok (.aload_n 0, 1) := by decide +kernel
theorem dX2_entryAt_17 : decode cX2_entryAt 17 = .ok (.getfield 11, 3) := by decide +kernel
theorem dX2_entryAt_20 : decode cX2_entryAt 20 = .ok (.iload_n 1, 1) := by decide +kernel
theorem dX2_entryAt_21 : decode cX2_entryAt 21 = .ok (.aaload, 1) := by decide +kernel
theorem dX2_entryAt_22 : decode cX2_entryAt 22 = .ok (.areturn, 1) := by decide +kernel
theorem dX2_queueFlour_0 : decode cX2_queueFlour 0 = .ok (.aload_n 0, 1) := by decide +kernel
theorem dX2_queueFlour_1 : decode cX2_queueFlour 1 = .ok (.getfield 38, 3) := by decide +kernel
theorem dX2_queueFlour_4 : decode cX2_queueFlour 4 = .ok (.sipush 200, 3) := by decide +kernel
theorem dX2_queueFlour_7 : decode cX2_queueFlour 7 = .ok (.if_icmp .ge 23, 3) := by decide +kernel
theorem dX2_queueFlour_10 : decode cX2_queueFlour 10 = .ok (.aload_n 0, 1) := by decide +kernel
theorem dX2_queueFlour_11 : decode cX2_queueFlour 11 = .ok (.getfield 19, 3) := by decide +kernel
theorem dX2_queueFlour_14 : decode cX2_queueFlour 14 = .ok (.aload_n 0, 1) := by decide +kernel
theorem dX2_queueFlour_15 : decode cX2_queueFlour 15 = .ok (.getfield 38, 3) := by decide +kernel
theorem dX2_queueFlour_18 : decode cX2_queueFlour 18 = .ok (.aload_n 1, 1) := by decide +kernel
theorem dX2_queueFlour_19 : decode cX2_queueFlour 19 = .ok (.aastore, 1) := by decide +kernel
theorem dX2_queueFlour_20 : decode cX2_queueFlour 20 = .ok (.aload_n 0, 1) := by decide +kernel
theorem dX2_queueFlour_21 : decode cX2_queueFlour 21 = .ok (.dup, 1) := by decide +kernel
theorem dX2_queueFlour_22 : decode cX2_queueFlour 22 = .ok (.getfield 38, 3) := by decide +kernel
theorem dX2_queueFlour_25 : decode cX2_queueFlour 25 = .ok (.iconst 1, 1) := by decide +kernel
theorem dX2_queueFlour_26 : decode cX2_queueFlour 26 = .ok (.iadd, 1) := by decide +kernel
theorem dX2_queueFlour_27 : decode cX2_queueFlour 27 = .ok (.putfield 38, 3) := by decide +kernel
theorem dX2_queueFlour_30 : decode cX2_queueFlour 30 = .ok (.return_, 1) := by decide +kernel
set_option maxRecDepth 20000 in
theorem ggX2_takeFlour_X2_noteGift : GoodIn wsX2_takeFlour wsX2_noteGift := goodIn_r _ [20, 3, 21, 22, 23, 24, 25, 35, 36, 37, 38, 39, 40, 41, 26, 27, 28, 29, 30, 31, 32, 33, 34, 42, 43, 44, 45, 46, 47, 48, 49, 50, 51, 52, 53, 54, 55, 56, 57, 58, 59] (by decide +kernel) (by decide +kernel)
set_option maxRecDepth 20000 in
theorem gX2_takeFlour_X2_noteGift : GoodIn wsX2_takeFlour (wsV RX2 68 RX2 yX2_noteGift wsX2_noteGift) := goodIn_app (goodIn_of _ (by decide +kernel)) ggX2_takeFlour_X2_noteGift
theorem dX2_takeFlour_0 : decode cX2_takeFlour 0 = .ok (.aload_n 1, 1) := by decide +kernel
theorem dX2_takeFlour_1 : decode cX2_takeFlour 1 = .ok (.getfield 41, 3) := by decide +kernel
theorem dX2_takeFlour_4 : decode cX2_takeFlour 4 = .ok (.aload_n 1, 1) := by decide +kernel
theorem dX2_takeFlour_5 : decode cX2_takeFlour 5 = .ok (.getfield 46, 3) := by decide +kernel
theorem dX2_takeFlour_8 : decode cX2_takeFlour 8 = .ok (.imul, 1) := by decide +kernel
theorem dX2_takeFlour_9 : decode cX2_takeFlour 9 = .ok (.istore_n 2, 1) := by decide +kernel
theorem dX2_takeFlour_10 : decode cX2_takeFlour 10 = .ok (.aload_n 1, 1) := by decide +kernel
theorem dX2_takeFlour_11 : decode cX2_takeFlour 11 = .ok (.aload_n 0, 1) := by decide +kernel
theorem dX2_takeFlour_12 : decode cX2_takeFlour 12 = .ok (.getfield 49, 3) := by decide +kernel
theorem dX2_takeFlour_15 : decode cX2_takeFlour 15 = .ok (.putfield 52, 3) := by decide +kernel
theorem dX2_takeFlour_18 : decode cX2_takeFlour 18 = .ok (.iconst 0, 1) := by decide +kernel
theorem dX2_takeFlour_19 : decode cX2_takeFlour 19 = .ok (.istore_n 3, 1) := by decide +kernel
theorem dX2_takeFlour_20 : decode cX2_takeFlour 20 = .ok (.iload_n 3, 1) := by decide +kernel
theorem dX2_takeFlour_21 : decode cX2_takeFlour 21 = .ok (.aload_n 0, 1) := by decide +kernel
theorem dX2_takeFlour_22 : decode cX2_takeFlour 22 = .ok (.getfield 38, 3) := by decide +kernel
theorem dX2_takeFlour_25 : decode cX2_takeFlour 25 = .ok (.if_icmp .ge 83, 3) := by decide +kernel
theorem dX2_takeFlour_28 : decode cX2_takeFlour 28 = .ok (.iload_n 2, 1) := by decide +kernel
theorem dX2_takeFlour_29 : decode cX2_takeFlour 29 = .ok (.ifCond .le 79, 3) := by decide +kernel
theorem dX2_takeFlour_32 : decode cX2_takeFlour 32 = .ok (.aload_n 0, 1) := by decide +kernel
theorem dX2_takeFlour_33 : decode cX2_takeFlour 33 = .ok (.getfield 19, 3) := by decide +kernel
theorem dX2_takeFlour_36 : decode cX2_takeFlour 36 = .ok (.iload_n 3, 1) := by decide +kernel
theorem dX2_takeFlour_37 : decode cX2_takeFlour 37 = .ok (.aaload, 1) := by decide +kernel
theorem dX2_takeFlour_38 : decode cX2_takeFlour 38 = .ok (.astore 4, 2) := by decide +kernel
theorem dX2_takeFlour_40 : decode cX2_takeFlour 40 = .ok (.aload 4, 2) := by decide +kernel
theorem dX2_takeFlour_42 : decode cX2_takeFlour 42 = .ok (.ifnull 60, 3) := by decide +kernel
theorem dX2_takeFlour_45 : decode cX2_takeFlour 45 = .ok (.aload 4, 2) := by decide +kernel
theorem dX2_takeFlour_47 : decode cX2_takeFlour 47 = .ok (.getfield 55, 3) := by decide +kernel
theorem dX2_takeFlour_50 : decode cX2_takeFlour 50 = .ok (.aload_n 1, 1) := by decide +kernel
theorem dX2_takeFlour_51 : decode cX2_takeFlour 51 = .ok (.getfield 58, 3) := by decide +kernel
theorem dX2_takeFlour_54 : decode cX2_takeFlour 54 = .ok (.if_icmp .ne 48, 3) := by decide +kernel
theorem dX2_takeFlour_57 : decode cX2_takeFlour 57 = .ok (.aload 4, 2) := by decide +kernel
theorem dX2_takeFlour_59 : decode cX2_takeFlour 59 = .ok (.getfield 59, 3) := by decide +kernel
theorem dX2_takeFlour_62 : decode cX2_takeFlour 62 = .ok (.ifCond .le 40, 3) := by decide +kernel
theorem dX2_takeFlour_65 : decode cX2_takeFlour 65 = .ok (.iload_n 2, 1) := by decide +kernel
theorem dX2_takeFlour_66 : decode cX2_takeFlour 66 = .ok (.aload 4, 2) := by decide +kernel
theorem dX2_takeFlour_68 : decode cX2_takeFlour 68 = .ok (.getfield 59, 3) := by decide +kernel
theorem dX2_takeFlour_71 : decode cX2_takeFlour 71 = .ok (.invokestatic 62, 3) := by decide +kernel
theorem dX2_takeFlour_74 : decode cX2_takeFlour 74 = .ok (.istore 5, 2) := by decide +kernel
theorem dX2_takeFlour_76 : decode cX2_takeFlour 76 = .ok (.aload 4, 2) := by decide +kernel
theorem dX2_takeFlour_78 : decode cX2_takeFlour 78 = .ok (.dup, 1) := by decide +kernel
theorem dX2_takeFlour_79 : decode cX2_takeFlour 79 = .ok (.getfield 59, 3) := by decide +kernel
theorem dX2_takeFlour_82 : decode cX2_takeFlour 82 = .ok (.iload 5, 2) := by decide +kernel
theorem dX2_takeFlour_84 : decode cX2_takeFlour 84 = .ok (.isub, 1) := by decide +kernel
theorem dX2_takeFlour_85 : decode cX2_takeFlour 85 = .ok (.putfield 59, 3) := by decide +kernel
theorem dX2_takeFlour_88 : decode cX2_takeFlour 88 = .ok (.iload_n 2, 1) := by decide +kernel
theorem dX2_takeFlour_89 : decode cX2_takeFlour 89 = .ok (.iload 5, 2) := by decide +kernel
theorem dX2_takeFlour_91 : decode cX2_takeFlour 91 = .ok (.isub, 1) := by decide +kernel
theorem dX2_takeFlour_92 : decode cX2_takeFlour 92 = .ok (.istore_n 2, 1) := by decide +kernel
theorem dX2_takeFlour_93 : decode cX2_takeFlour 93 = .ok (.aload_n 0, 1) := by decide +kernel
theorem dX2_takeFlour_94 : decode cX2_takeFlour 94 = .ok (.aload_n 1, 1) := by decide +kernel
theorem dX2_takeFlour_95 : decode cX2_takeFlour 95 = .ok (.aload 4, 2) := by decide +kernel
theorem dX2_takeFlour_97 : decode cX2_takeFlour 97 = .ok (.iload 5, 2) := by decide +kernel
theorem dX2_takeFlour_99 : decode cX2_takeFlour 99 = .ok (.invokevirtual 68, 3) := by decide +kernel
theorem dX2_takeFlour_102 : decode cX2_takeFlour 102 = .ok (.iinc 3 1, 3) := by decide +kernel
theorem dX2_takeFlour_105 : decode cX2_takeFlour 105 = .ok (.goto (-85), 3) := by decide +kernel
theorem dX2_takeFlour_108 : decode cX2_takeFlour 108 = .ok (.return_, 1) := by decide +kernel
theorem dX2_noteGift_0 : decode cX2_noteGift 0 = .ok (.aload_n 0, 1) := by decide +kernel
theorem dX2_noteGift_1 : decode cX2_noteGift 1 = .ok (.getfield 49, 3) := by decide +kernel
theorem dX2_noteGift_4 : decode cX2_noteGift 4 = .ok (.sipush 200, 3) := by decide +kernel
theorem dX2_noteGift_7 : decode cX2_noteGift 7 = .ok (.if_icmp .ge 46, 3) := by decide +kernel
theorem dX2_noteGift_10 : decode cX2_noteGift 10 = .ok (.aload_n 0, 1) := by decide +kernel
theorem dX2_noteGift_11 : decode cX2_noteGift 11 = .ok (.getfield 23, 3) := by decide +kernel
theorem dX2_noteGift_14 : decode cX2_noteGift 14 = .ok (.aload_n 0, 1) := by decide +kernel
theorem dX2_noteGift_15 : decode cX2_noteGift 15 = .ok (.getfield 49, 3) := by decide +kernel
theorem dX2_noteGift_18 : decode cX2_noteGift 18 = .ok (.aload_n 2, 1) := by decide +kernel
theorem dX2_noteGift_19 : decode cX2_noteGift 19 = .ok (.getfield 72, 3) := by decide +kernel
theorem dX2_noteGift_22 : decode cX2_noteGift 22 = .ok (.iastore, 1) := by decide +kernel
theorem dX2_noteGift_23 : decode cX2_noteGift 23 = .ok (.aload_n 0, 1) := by decide +kernel
theorem dX2_noteGift_24 : decode cX2_noteGift 24 = .ok (.getfield 27, 3) := by decide +kernel
theorem dX2_noteGift_27 : decode cX2_noteGift 27 = .ok (.aload_n 0, 1) := by decide +kernel
theorem dX2_noteGift_28 : decode cX2_noteGift 28 = .ok (.getfield 49, 3) := by decide +kernel
theorem dX2_noteGift_31 : decode cX2_noteGift 31 = .ok (.iload_n 3, 1) := by decide +kernel
theorem dX2_noteGift_32 : decode cX2_noteGift 32 = .ok (.iastore, 1) := by decide +kernel
theorem dX2_noteGift_33 : decode cX2_noteGift 33 = .ok (.aload_n 0, 1) := by decide +kernel
theorem dX2_noteGift_34 : decode cX2_noteGift 34 = .ok (.dup, 1) := by decide +kernel
theorem dX2_noteGift_35 : decode cX2_noteGift 35 = .ok (.getfield 49, 3) := by decide +kernel
theorem dX2_noteGift_38 : decode cX2_noteGift 38 = .ok (.iconst 1, 1) := by decide +kernel
theorem dX2_noteGift_39 : decode cX2_noteGift 39 = .ok (.iadd, 1) := by decide +kernel
theorem dX2_noteGift_40 : decode cX2_noteGift 40 = .ok (.putfield 49, 3) := by decide +kernel
theorem dX2_noteGift_43 : decode cX2_noteGift 43 = .ok (.aload_n 1, 1) := by decide +kernel
theorem dX2_noteGift_44 : decode cX2_noteGift 44 = .ok (.dup, 1) := by decide +kernel
theorem dX2_noteGift_45 : decode cX2_noteGift 45 = .ok (.getfield 75, 3) := by decide +kernel
theorem dX2_noteGift_48 : decode cX2_noteGift 48 = .ok (.iconst 1, 1) := by decide +kernel
theorem dX2_noteGift_49 : decode cX2_noteGift 49 = .ok (.iadd, 1) := by decide +kernel
theorem dX2_noteGift_50 : decode cX2_noteGift 50 = .ok (.putfield 75, 3) := by decide +kernel
theorem dX2_noteGift_53 : decode cX2_noteGift 53 = .ok (.return_, 1) := by decide +kernel
theorem dX2_giftDetail_0 : decode cX2_giftDetail 0 = .ok (.iload_n 2, 1) := by decide +kernel
theorem dX2_giftDetail_1 : decode cX2_giftDetail 1 = .ok (.ifCond .lt 13, 3) := by decide +kernel
theorem dX2_giftDetail_4 : decode cX2_giftDetail 4 = .ok (.iload_n 2, 1) := by decide +kernel
theorem dX2_giftDetail_5 : decode cX2_giftDetail 5 = .ok (.iconst 2, 1) := by decide +kernel
theorem dX2_giftDetail_6 : decode cX2_giftDetail 6 = .ok (.idiv, 1) := by decide +kernel
theorem dX2_giftDetail_7 : decode cX2_giftDetail 7 = .ok (.aload_n 1, 1) := by decide +kernel
theorem dX2_giftDetail_8 : decode cX2_giftDetail 8 = .ok (.getfield 75, 3) := by decide +kernel
theorem dX2_giftDetail_11 : decode cX2_giftDetail 11 = .ok (.if_icmp .lt 6, 3) := by decide +kernel
theorem dX2_giftDetail_14 : decode cX2_giftDetail 14 = .ok (.bipush (-6), 2) := by decide +kernel
theorem dX2_giftDetail_16 : decode cX2_giftDetail 16 = .ok (.ireturn, 1) := by decide +kernel
theorem dX2_giftDetail_17 : decode cX2_giftDetail 17 = .ok (.aload_n 1, 1) := by decide +kernel
theorem dX2_giftDetail_18 : decode cX2_giftDetail 18 = .ok (.getfield 52, 3) := by decide +kernel
theorem dX2_giftDetail_21 : decode cX2_giftDetail 21 = .ok (.iload_n 2, 1) := by decide +kernel
theorem dX2_giftDetail_22 : decode cX2_giftDetail 22 = .ok (.iconst 2, 1) := by decide +kernel
theorem dX2_giftDetail_23 : decode cX2_giftDetail 23 = .ok (.idiv, 1) := by decide +kernel
theorem dX2_giftDetail_24 : decode cX2_giftDetail 24 = .ok (.iadd, 1) := by decide +kernel
theorem dX2_giftDetail_25 : decode cX2_giftDetail 25 = .ok (.istore_n 3, 1) := by decide +kernel
theorem dX2_giftDetail_26 : decode cX2_giftDetail 26 = .ok (.iload_n 3, 1) := by decide +kernel
theorem dX2_giftDetail_27 : decode cX2_giftDetail 27 = .ok (.ifCond .lt 11, 3) := by decide +kernel
theorem dX2_giftDetail_30 : decode cX2_giftDetail 30 = .ok (.iload_n 3, 1) := by decide +kernel
theorem dX2_giftDetail_31 : decode cX2_giftDetail 31 = .ok (.aload_n 0, 1) := by decide +kernel
theorem dX2_giftDetail_32 : decode cX2_giftDetail 32 = .ok (.getfield 49, 3) := by decide +kernel
theorem dX2_giftDetail_35 : decode cX2_giftDetail 35 = .ok (.if_icmp .lt 6, 3) := by decide +kernel
theorem dX2_giftDetail_38 : decode cX2_giftDetail 38 = .ok (.bipush (-6), 2) := by decide +kernel
theorem dX2_giftDetail_40 : decode cX2_giftDetail 40 = .ok (.ireturn, 1) := by decide +kernel
theorem dX2_giftDetail_41 : decode cX2_giftDetail 41 = .ok (.iload_n 2, 1) := by decide +kernel
theorem dX2_giftDetail_42 : decode cX2_giftDetail 42 = .ok (.iconst 2, 1) := by decide +kernel
theorem dX2_giftDetail_43 : decode cX2_giftDetail 43 = .ok (.irem, 1) := by decide +kernel
theorem dX2_giftDetail_44 : decode cX2_giftDetail 44 = .ok (.ifCond .ne 12, 3) := by decide +kernel
theorem dX2_giftDetail_47 : decode cX2_giftDetail 47 = .ok (.aload_n 0, 1) := by decide +kernel
theorem dX2_giftDetail_48 : decode cX2_giftDetail 48 = .ok (.getfield 23, 3) := by decide +kernel
theorem dX2_giftDetail_51 : decode cX2_giftDetail 51 = .ok (.iload_n 3, 1) := by decide +kernel
theorem dX2_giftDetail_52 : decode cX2_giftDetail 52 = .ok (.iaload, 1) := by decide +kernel
theorem dX2_giftDetail_53 : decode cX2_giftDetail 53 = .ok (.goto 9, 3) := by decide +kernel
theorem dX2_giftDetail_56 : decode cX2_giftDetail 56 = .ok (.aload_n 0, 1) := by decide +kernel
theorem dX2_giftDetail_57 : decode cX2_giftDetail 57 = .ok (.getfield 27, 3) := by decide +kernel
theorem dX2_giftDetail_60 : decode cX2_giftDetail 60 = .ok (.iload_n 3, 1) := by decide +kernel
theorem dX2_giftDetail_61 : decode cX2_giftDetail 61 = .ok (.iaload, 1) := by decide +kernel
theorem dX2_giftDetail_62 : decode cX2_giftDetail 62 = .ok (.ireturn, 1) := by decide +kernel
theorem dX3_init_0 : decode cX3_init 0 = .ok (.aload_n 0, 1) := by decide +kernel
theorem dX3_init_1 : decode cX3_init 1 = .ok (.invokespecial 3, 3) := by decide +kernel
theorem dX3_init_4 : decode cX3_init 4 = .ok (.aload_n 0, 1) := by decide +kernel
theorem dX3_init_5 : decode cX3_init 5 = .ok (.iload_n 1, 1) := by decide +kernel
theorem dX3_init_6 : decode cX3_init 6 = .ok (.putfield 9, 3) := by decide +kernel
theorem dX3_init_9 : decode cX3_init 9 = .ok (.aload_n 0, 1) := by decide +kernel
theorem dX3_init_10 : decode cX3_init 10 = .ok (.iload_n 2, 1) := by decide +kernel
theorem dX3_init_11 : decode cX3_init 11 = .ok (.putfield 15, 3) := by decide +kernel
theorem dX3_init_14 : decode cX3_init 14 = .ok (.aload_n 0, 1) := by decide +kernel
theorem dX3_init_15 : decode cX3_init 15 = .ok (.iload_n 3, 1) := by decide +kernel
theorem dX3_init_16 : decode cX3_init 16 = .ok (.putfield 18, 3) := by decide +kernel
theorem dX3_init_19 : decode cX3_init 19 = .ok (.aload_n 0, 1) := by decide +kernel
theorem dX3_init_20 : decode cX3_init 20 = .ok (.iload 4, 2) := by decide +kernel
theorem dX3_init_22 : decode cX3_init 22 = .ok (.putfield 21, 3) := by decide +kernel
theorem dX3_init_25 : decode cX3_init 25 = .ok (.return_, 1) := by decide +kernel
theorem dX3_week_0 : decode cX3_week 0 = .ok (.aload_n 0, 1) := by decide +kernel
theorem dX3_week_1 : decode cX3_week 1 = .ok (.getfield 18, 3) := by decide +kernel
theorem dX3_week_4 : decode cX3_week 4 = .ok (.sipush 168, 3) := by decide +kernel
theorem dX3_week_7 : decode cX3_week 7 = .ok (.idiv, 1) := by decide +kernel
theorem dX3_week_8 : decode cX3_week 8 = .ok (.ireturn, 1) := by decide +kernel
theorem dX4_init_0 : decode cX4_init 0 = .ok (.aload_n 0, 1) := by decide +kernel
theorem dX4_init_1 : decode cX4_init 1 = .ok (.invokespecial 3, 3) := by decide +kernel
theorem dX4_init_4 : decode cX4_init 4 = .ok (.aload_n 0, 1) := by decide +kernel
theorem dX4_init_5 : decode cX4_init 5 = .ok (.sipush 200, 3) := by decide +kernel
theorem dX4_init_8 : decode cX4_init 8 = .ok (.newarray .int, 2) := by decide +kernel
theorem dX4_init_10 : decode cX4_init 10 = .ok (.putfield 9, 3) := by decide +kernel
theorem dX4_init_13 : decode cX4_init 13 = .ok (.aload_n 0, 1) := by decide +kernel
theorem dX4_init_14 : decode cX4_init 14 = .ok (.sipush 200, 3) := by decide +kernel
theorem dX4_init_17 : decode cX4_init 17 = .ok (.newarray .int, 2) := by decide +kernel
theorem dX4_init_19 : decode cX4_init 19 = .ok (.putfield 15, 3) := by decide +kernel
theorem dX4_init_22 : decode cX4_init 22 = .ok (.aload_n 0, 1) := by decide +kernel
theorem dX4_init_23 : decode cX4_init 23 = .ok (.bipush 100, 2) := by decide +kernel
theorem dX4_init_25 : decode cX4_init 25 = .ok (.putfield 18, 3) := by decide +kernel
theorem dX4_init_28 : decode cX4_init 28 = .ok (.aload_n 0, 1) := by decide +kernel
theorem dX4_init_29 : decode cX4_init 29 = .ok (.bipush 100, 2) := by decide +kernel
theorem dX4_init_31 : decode cX4_init 31 = .ok (.putfield 22, 3) := by decide +kernel
theorem dX4_init_34 : decode cX4_init 34 = .ok (.return_, 1) := by decide +kernel
theorem dX4_expect_0 : decode cX4_expect 0 = .ok (.iload_n 1, 1) := by decide +kernel
theorem dX4_expect_1 : decode cX4_expect 1 = .ok (.ifCond .lt 40, 3) := by decide +kernel
theorem dX4_expect_4 : decode cX4_expect 4 = .ok (.iload_n 1, 1) := by decide +kernel
theorem dX4_expect_5 : decode cX4_expect 5 = .ok (.sipush 200, 3) := by decide +kernel
theorem dX4_expect_8 : decode cX4_expect 8 = .ok (.if_icmp .ge 33, 3) := by decide +kernel
theorem dX4_expect_11 : decode cX4_expect 11 = .ok (.aload_n 0, 1) := by decide +kernel
theorem dX4_expect_12 : decode cX4_expect 12 = .ok (.getfield 9, 3) := by decide +kernel
theorem dX4_expect_15 : decode cX4_expect 15 = .ok (.iload_n 1, 1) := by decide +kernel
theorem dX4_expect_16 : decode cX4_expect 16 = .ok (.dup2, 1) := by decide +kernel
theorem dX4_expect_17 : decode cX4_expect 17 = .ok (.iaload, 1) := by decide +kernel
theorem dX4_expect_18 : decode cX4_expect 18 = .ok (.iload_n 2, 1) := by decide +kernel
theorem dX4_expect_19 : decode cX4_expect 19 = .ok (.iadd, 1) := by decide +kernel
theorem dX4_expect_20 : decode cX4_expect 20 = .ok (.iastore, 1) := by decide +kernel
theorem dX4_expect_21 : decode cX4_expect 21 = .ok (.aload_n 0, 1) := by decide +kernel
theorem dX4_expect_22 : decode cX4_expect 22 = .ok (.getfield 15, 3) := by decide +kernel
theorem dX4_expect_25 : decode cX4_expect 25 = .ok (.iload_n 1, 1) := by decide +kernel
theorem dX4_expect_26 : decode cX4_expect 26 = .ok (.dup2, 1) := by decide +kernel
theorem dX4_expect_27 : decode cX4_expect 27 = .ok (.iaload, 1) := by decide +kernel
theorem dX4_expect_28 : decode cX4_expect 28 = .ok (.iconst 1, 1) := by decide +kernel
theorem dX4_expect_29 : decode cX4_expect 29 = .ok (.iadd, 1) := by decide +kernel
theorem dX4_expect_30 : decode cX4_expect 30 = .ok (.iastore, 1) := by decide +kernel
theorem dX4_expect_31 : decode cX4_expect 31 = .ok (.aload_n 0, 1) := by decide +kernel
theorem dX4_expect_32 : decode cX4_expect 32 = .ok (.dup, 1) := by decide +kernel
theorem dX4_expect_33 : decode cX4_expect 33 = .ok (.getfield 25, 3) := by decide +kernel
theorem dX4_expect_36 : decode cX4_expect 36 = .ok (.iconst 1, 1) := by decide +kernel
theorem dX4_expect_37 : decode cX4_expect 37 = .ok (.iadd, 1) := by decide +kernel
theorem dX4_expect_38 : decode cX4_expect 38 = .ok (.putfield 25, 3) := by decide +kernel
theorem dX4_expect_41 : decode cX4_expect 41 = .ok (.return_, 1) := by decide +kernel
theorem dX4_needWith_0 : decode cX4_needWith 0 = .ok (.aload_n 0, 1) := by decide +kernel
theorem dX4_needWith_1 : decode cX4_needWith 1 = .ok (.getfield 28, 3) := by decide +kernel
theorem dX4_needWith_4 : decode cX4_needWith 4 = .ok (.aload_n 0, 1) := by decide +kernel
theorem dX4_needWith_5 : decode cX4_needWith 5 = .ok (.getfield 18, 3) := by decide +kernel
theorem dX4_needWith_8 : decode cX4_needWith 8 = .ok (.imul, 1) := by decide +kernel
theorem dX4_needWith_9 : decode cX4_needWith 9 = .ok (.iload_n 1, 1) := by decide +kernel
theorem dX4_needWith_10 : decode cX4_needWith 10 = .ok (.imul, 1) := by decide +kernel
theorem dX4_needWith_11 : decode cX4_needWith 11 = .ok (.bipush 100, 2) := by decide +kernel
theorem dX4_needWith_13 : decode cX4_needWith 13 = .ok (.idiv, 1) := by decide +kernel
theorem dX4_needWith_14 : decode cX4_needWith 14 = .ok (.ireturn, 1) := by decide +kernel
theorem dX4_withHarvest_0 : decode cX4_withHarvest 0 = .ok (.iload_n 2, 1) := by decide +kernel
theorem dX4_withHarvest_1 : decode cX4_withHarvest 1 = .ok (.ifCond .lt 10, 3) := by decide +kernel
theorem dX4_withHarvest_4 : decode cX4_withHarvest 4 = .ok (.iload_n 2, 1) := by decide +kernel
theorem dX4_withHarvest_5 : decode cX4_withHarvest 5 = .ok (.sipush 200, 3) := by decide +kernel
theorem dX4_withHarvest_8 : decode cX4_withHarvest 8 = .ok (.if_icmp .lt 5, 3) := by decide +kernel
theorem dX4_withHarvest_11 : decode cX4_withHarvest 11 = .ok (.iload_n 1, 1) := by decide +kernel
theorem dX4_withHarvest_12 : decode cX4_withHarvest 12 = .ok (.ireturn, 1) := by decide +kernel
theorem dX4_withHarvest_13 : decode cX4_withHarvest 13 = .ok (.ldc 31, 2) := by decide +kernel
theorem dX4_withHarvest_15 : decode cX4_withHarvest 15 = .ok (.iload_n 1, 1) := by decide +kernel
theorem dX4_withHarvest_16 : decode cX4_withHarvest 16 = .ok (.aload_n 0, 1) := by decide +kernel
theorem dX4_withHarvest_17 : decode cX4_withHarvest 17 = .ok (.getfield 9, 3) := by decide +kernel
theorem dX4_withHarvest_20 : decode cX4_withHarvest 20 = .ok (.iload_n 2, 1) := by decide +kernel
theorem dX4_withHarvest_21 : decode cX4_withHarvest 21 = .ok (.iaload, 1) := by decide +kernel
theorem dX4_withHarvest_22 : decode cX4_withHarvest 22 = .ok (.iadd, 1) := by decide +kernel
theorem dX4_withHarvest_23 : decode cX4_withHarvest 23 = .ok (.invokestatic 32, 3) := by decide +kernel
theorem dX4_withHarvest_26 : decode cX4_withHarvest 26 = .ok (.ireturn, 1) := by decide +kernel
set_option maxRecDepth 20000 in
theorem ggX4_endWeek_X4_needWith : GoodIn wsX4_endWeek wsX4_needWith := goodIn_r _ [12, 13, 14, 15, 16, 17, 18, 19, 20, 21, 22] (by decide +kernel) (by decide +kernel)
set_option maxRecDepth 20000 in
theorem gX4_endWeek_X4_needWith : GoodIn wsX4_endWeek (wsV RX4 38 RX4 yX4_needWith wsX4_needWith) := goodIn_app (goodIn_of _ (by decide +kernel)) ggX4_endWeek_X4_needWith
theorem dX4_endWeek_0 : decode cX4_endWeek 0 = .ok (.aload_n 0, 1) := by decide +kernel
theorem dX4_endWeek_1 : decode cX4_endWeek 1 = .ok (.aload_n 0, 1) := by decide +kernel
theorem dX4_endWeek_2 : decode cX4_endWeek 2 = .ok (.getfield 22, 3) := by decide +kernel
theorem dX4_endWeek_5 : decode cX4_endWeek 5 = .ok (.invokevirtual 38, 3) := by decide +kernel
theorem dX4_endWeek_8 : decode cX4_endWeek 8 = .ok (.istore_n 1, 1) := by decide +kernel
theorem dX4_endWeek_9 : decode cX4_endWeek 9 = .ok (.aload_n 0, 1) := by decide +kernel
theorem dX4_endWeek_10 : decode cX4_endWeek 10 = .ok (.getfield 42, 3) := by decide +kernel
theorem dX4_endWeek_13 : decode cX4_endWeek 13 = .ok (.iload_n 1, 1) := by decide +kernel
theorem dX4_endWeek_14 : decode cX4_endWeek 14 = .ok (.if_icmp .ge 13, 3) := by decide +kernel
theorem dX4_endWeek_17 : decode cX4_endWeek 17 = .ok (.aload_n 0, 1) := by decide +kernel
theorem dX4_endWeek_18 : decode cX4_endWeek 18 = .ok (.dup, 1) := by decide +kernel
theorem dX4_endWeek_19 : decode cX4_endWeek 19 = .ok (.getfield 45, 3) := by decide +kernel
theorem dX4_endWeek_22 : decode cX4_endWeek 22 = .ok (.iconst 1, 1) := by decide +kernel
theorem dX4_endWeek_23 : decode cX4_endWeek 23 = .ok (.iadd, 1) := by decide +kernel
theorem dX4_endWeek_24 : decode cX4_endWeek 24 = .ok (.putfield 45, 3) := by decide +kernel
theorem dX4_endWeek_27 : decode cX4_endWeek 27 = .ok (.aload_n 0, 1) := by decide +kernel
theorem dX4_endWeek_28 : decode cX4_endWeek 28 = .ok (.iconst 0, 1) := by decide +kernel
theorem dX4_endWeek_29 : decode cX4_endWeek 29 = .ok (.aload_n 0, 1) := by decide +kernel
theorem dX4_endWeek_30 : decode cX4_endWeek 30 = .ok (.getfield 42, 3) := by decide +kernel
theorem dX4_endWeek_33 : decode cX4_endWeek 33 = .ok (.iload_n 1, 1) := by decide +kernel
theorem dX4_endWeek_34 : decode cX4_endWeek 34 = .ok (.isub, 1) := by decide +kernel
theorem dX4_endWeek_35 : decode cX4_endWeek 35 = .ok (.invokestatic 48, 3) := by decide +kernel
theorem dX4_endWeek_38 : decode cX4_endWeek 38 = .ok (.putfield 42, 3) := by decide +kernel
theorem dX4_endWeek_41 : decode cX4_endWeek 41 = .ok (.return_, 1) := by decide +kernel
set_option maxRecDepth 20000 in
theorem ggX4_beginWeek_X4_withHarvest : GoodIn wsX4_beginWeek wsX4_withHarvest := goodIn_r _ [8, 9, 10, 11, 12, 13, 14, 15, 16, 17, 18, 19, 20, 21, 22] (by decide +kernel) (by decide +kernel)
set_option maxRecDepth 20000 in
theorem gX4_beginWeek_X4_withHarvest : GoodIn wsX4_beginWeek (wsV RX4 51 RX4 yX4_withHarvest wsX4_withHarvest) := goodIn_app (goodIn_of _ (by decide +kernel)) ggX4_beginWeek_X4_withHarvest
theorem dX4_beginWeek_0 : decode cX4_beginWeek 0 = .ok (.aload_n 0, 1) := by decide +kernel
theorem dX4_beginWeek_1 : decode cX4_beginWeek 1 = .ok (.aload_n 0, 1) := by decide +kernel
theorem dX4_beginWeek_2 : decode cX4_beginWeek 2 = .ok (.aload_n 0, 1) := by decide +kernel
theorem dX4_beginWeek_3 : decode cX4_beginWeek 3 = .ok (.getfield 42, 3) := by decide +kernel
theorem dX4_beginWeek_6 : decode cX4_beginWeek 6 = .ok (.iload_n 1, 1) := by decide +kernel
theorem dX4_beginWeek_7 : decode cX4_beginWeek 7 = .ok (.invokevirtual 51, 3) := by decide +kernel
theorem dX4_beginWeek_10 : decode cX4_beginWeek 10 = .ok (.putfield 42, 3) := by decide +kernel
theorem dX4_beginWeek_13 : decode cX4_beginWeek 13 = .ok (.iload_n 1, 1) := by decide +kernel
theorem dX4_beginWeek_14 : decode cX4_beginWeek 14 = .ok (.ifCond .lt 25, 3) := by decide +kernel
theorem dX4_beginWeek_17 : decode cX4_beginWeek 17 = .ok (.iload_n 1, 1) := by decide +kernel
theorem dX4_beginWeek_18 : decode cX4_beginWeek 18 = .ok (.sipush 200, 3) := by decide +kernel
theorem dX4_beginWeek_21 : decode cX4_beginWeek 21 = .ok (.if_icmp .ge 18, 3) := by decide +kernel
theorem dX4_beginWeek_24 : decode cX4_beginWeek 24 = .ok (.aload_n 0, 1) := by decide +kernel
theorem dX4_beginWeek_25 : decode cX4_beginWeek 25 = .ok (.dup, 1) := by decide +kernel
theorem dX4_beginWeek_26 : decode cX4_beginWeek 26 = .ok (.getfield 25, 3) := by decide +kernel
theorem dX4_beginWeek_29 : decode cX4_beginWeek 29 = .ok (.aload_n 0, 1) := by decide +kernel
theorem dX4_beginWeek_30 : decode cX4_beginWeek 30 = .ok (.getfield 15, 3) := by decide +kernel
theorem dX4_beginWeek_33 : decode cX4_beginWeek 33 = .ok (.iload_n 1, 1) := by decide +kernel
theorem dX4_beginWeek_34 : decode cX4_beginWeek 34 = .ok (.iaload, 1) := by decide +kernel
theorem dX4_beginWeek_35 : decode cX4_beginWeek 35 = .ok (.isub, 1) := by decide +kernel
theorem dX4_beginWeek_36 : decode cX4_beginWeek 36 = .ok (.putfield 25, 3) := by decide +kernel
theorem dX4_beginWeek_39 : decode cX4_beginWeek 39 = .ok (.return_, 1) := by decide +kernel
set_option maxRecDepth 20000 in
theorem ggX4_firstHunger_X4_needWith : GoodIn wsX4_firstHunger wsX4_needWith := goodIn_r _ [6, 7, 8, 19, 20, 21, 22, 23, 24, 25, 26] (by decide +kernel) (by decide +kernel)
set_option maxRecDepth 20000 in
theorem gX4_firstHunger_X4_needWith : GoodIn wsX4_firstHunger (wsV RX4 38 RX4 yX4_needWith wsX4_needWith) := goodIn_app (goodIn_of _ (by decide +kernel)) ggX4_firstHunger_X4_needWith
set_option maxRecDepth 20000 in
theorem ggX4_firstHunger_X4_withHarvest : GoodIn wsX4_firstHunger wsX4_withHarvest := goodIn_r _ [12, 13, 14, 15, 16, 17, 18, 19, 20, 21, 22, 23, 24, 25, 26] (by decide +kernel) (by decide +kernel)
set_option maxRecDepth 20000 in
theorem gX4_firstHunger_X4_withHarvest : GoodIn wsX4_firstHunger (wsV RX4 51 RX4 yX4_withHarvest wsX4_withHarvest) := goodIn_app (goodIn_of _ (by decide +kernel)) ggX4_firstHunger_X4_withHarvest
theorem dX4_firstHunger_0 : decode cX4_firstHunger 0 = .ok (.aload_n 0, 1) := by decide +kernel
theorem dX4_firstHunger_1 : decode cX4_firstHunger 1 = .ok (.iload_n 3, 1) := by decide +kernel
theorem dX4_firstHunger_2 : decode cX4_firstHunger 2 = .ok (.invokevirtual 38, 3) := by decide +kernel
theorem dX4_firstHunger_5 : decode cX4_firstHunger 5 = .ok (.istore 4, 2) := by decide +kernel
theorem dX4_firstHunger_7 : decode cX4_firstHunger 7 = .ok (.aload_n 0, 1) := by decide +kernel
theorem dX4_firstHunger_8 : decode cX4_firstHunger 8 = .ok (.getfield 42, 3) := by decide +kernel
theorem dX4_firstHunger_11 : decode cX4_firstHunger 11 = .ok (.istore 5, 2) := by decide +kernel
theorem dX4_firstHunger_13 : decode cX4_firstHunger 13 = .ok (.iload_n 1, 1) := by decide +kernel
theorem dX4_firstHunger_14 : decode cX4_firstHunger 14 = .ok (.istore 6, 2) := by decide +kernel
theorem dX4_firstHunger_16 : decode cX4_firstHunger 16 = .ok (.iload 6, 2) := by decide +kernel
theorem dX4_firstHunger_18 : decode cX4_firstHunger 18 = .ok (.iload_n 2, 1) := by decide +kernel
theorem dX4_firstHunger_19 : decode cX4_firstHunger 19 = .ok (.if_icmp .gt 42, 3) := by decide +kernel
theorem dX4_firstHunger_22 : decode cX4_firstHunger 22 = .ok (.iload 6, 2) := by decide +kernel
theorem dX4_firstHunger_24 : decode cX4_firstHunger 24 = .ok (.iload_n 1, 1) := by decide +kernel
theorem dX4_firstHunger_25 : decode cX4_firstHunger 25 = .ok (.if_icmp .le 13, 3) := by decide +kernel
theorem dX4_firstHunger_28 : decode cX4_firstHunger 28 = .ok (.aload_n 0, 1) := by decide +kernel
theorem dX4_firstHunger_29 : decode cX4_firstHunger 29 = .ok (.iload 5, 2) := by decide +kernel
theorem dX4_firstHunger_31 : decode cX4_firstHunger 31 = .ok (.iload 6, 2) := by decide +kernel
theorem dX4_firstHunger_33 : decode cX4_firstHunger 33 = .ok (.invokevirtual 51, 3) := by decide +kernel
theorem dX4_firstHunger_36 : decode cX4_firstHunger 36 = .ok (.istore 5, 2) := by decide +kernel
theorem dX4_firstHunger_38 : decode cX4_firstHunger 38 = .ok (.iload 5, 2) := by decide +kernel
theorem dX4_firstHunger_40 : decode cX4_firstHunger 40 = .ok (.iload 4, 2) := by decide +kernel
theorem dX4_firstHunger_42 : decode cX4_firstHunger 42 = .ok (.if_icmp .ge 6, 3) := by decide +kernel
theorem dX4_firstHunger_45 : decode cX4_firstHunger 45 = .ok (.iload 6, 2) := by decide +kernel
theorem dX4_firstHunger_47 : decode cX4_firstHunger 47 = .ok (.ireturn, 1) := by decide +kernel
theorem dX4_firstHunger_48 : decode cX4_firstHunger 48 = .ok (.iload 5, 2) := by decide +kernel
theorem dX4_firstHunger_50 : decode cX4_firstHunger 50 = .ok (.iload 4, 2) := by decide +kernel
theorem dX4_firstHunger_52 : decode cX4_firstHunger 52 = .ok (.isub, 1) := by decide +kernel
theorem dX4_firstHunger_53 : decode cX4_firstHunger 53 = .ok (.istore 5, 2) := by decide +kernel
theorem dX4_firstHunger_55 : decode cX4_firstHunger 55 = .ok (.iinc 6 1, 3) := by decide +kernel
theorem dX4_firstHunger_58 : decode cX4_firstHunger 58 = .ok (.goto (-42), 3) := by decide +kernel
theorem dX4_firstHunger_61 : decode cX4_firstHunger 61 = .ok (.bipush (-6), 2) := by decide +kernel
theorem dX4_firstHunger_63 : decode cX4_firstHunger 63 = .ok (.ireturn, 1) := by decide +kernel
set_option maxRecDepth 20000 in
theorem ggX4_greatestRation_X4_firstHunger : GoodIn wsX4_greatestRation wsX4_firstHunger := goodIn_r _ [5, 6, 7, 8, 9, 4, 10, 11, 12, 13, 14, 15, 16, 17, 18, 19, 20, 21, 22, 23, 24, 25, 26, 27, 28, 29, 30] (by decide +kernel) (by decide +kernel)
set_option maxRecDepth 20000 in
theorem gX4_greatestRation_X4_firstHunger : GoodIn wsX4_greatestRation (wsV RX4 54 RX4 yX4_firstHunger wsX4_firstHunger) := goodIn_app (goodIn_of _ (by decide +kernel)) ggX4_greatestRation_X4_firstHunger
theorem dX4_greatestRation_0 : decode cX4_greatestRation 0 = .ok (.iconst 0, 1) := by decide +kernel
theorem dX4_greatestRation_1 : decode cX4_greatestRation 1 = .ok (.istore_n 3, 1) := by decide +kernel
theorem dX4_greatestRation_2 : decode cX4_greatestRation 2 = .ok (.bipush 64, 2) := by decide +kernel
theorem dX4_greatestRation_4 : decode cX4_greatestRation 4 = .ok (.istore 4, 2) := by decide +kernel
theorem dX4_greatestRation_6 : decode cX4_greatestRation 6 = .ok (.iload 4, 2) := by decide +kernel
theorem dX4_greatestRation_8 : decode cX4_greatestRation 8 = .ok (.ifCond .le 41, 3) := by decide +kernel
theorem dX4_greatestRation_11 : decode cX4_greatestRation 11 = .ok (.iload_n 3, 1) := by decide +kernel
theorem dX4_greatestRation_12 : decode cX4_greatestRation 12 = .ok (.iload 4, 2) := by decide +kernel
theorem dX4_greatestRation_14 : decode cX4_greatestRation 14 = .ok (.iadd, 1) := by decide +kernel
theorem dX4_greatestRation_15 : decode cX4_greatestRation 15 = .ok (.istore 5, 2) := by decide +kernel
theorem dX4_greatestRation_17 : decode cX4_greatestRation 17 = .ok (.iload 5, 2) := by decide +kernel
theorem dX4_greatestRation_19 : decode cX4_greatestRation 19 = .ok (.bipush 100, 2) := by decide +kernel
theorem dX4_greatestRation_21 : decode cX4_greatestRation 21 = .ok (.if_icmp .gt 19, 3) := by decide +kernel
theorem dX4_greatestRation_24 : decode cX4_greatestRation 24 = .ok (.aload_n 0, 1) := by decide +kernel
theorem dX4_greatestRation_25 : decode cX4_greatestRation 25 = .ok (.iload_n 1, 1) := by decide +kernel
theorem dX4_greatestRation_26 : decode cX4_greatestRation 26 = .ok (.iload_n 2, 1) := by decide +kernel
theorem dX4_greatestRation_27 : decode cX4_greatestRation 27 = .ok (.iload 5, 2) := by decide +kernel
theorem dX4_greatestRation_29 : decode cX4_greatestRation 29 = .ok (.invokevirtual 54, 3) := by decide +kernel
theorem dX4_greatestRation_32 : decode cX4_greatestRation 32 = .ok (.bipush (-6), 2) := by decide +kernel
theorem dX4_greatestRation_34 : decode cX4_greatestRation 34 = .ok (.if_icmp .ne 6, 3) := by decide +kernel
theorem dX4_greatestRation_37 : decode cX4_greatestRation 37 = .ok (.iload 5, 2) := by decide +kernel
theorem dX4_greatestRation_39 : decode cX4_greatestRation 39 = .ok (.istore_n 3, 1) := by decide +kernel
theorem dX4_greatestRation_40 : decode cX4_greatestRation 40 = .ok (.iload 4, 2) := by decide +kernel
theorem dX4_greatestRation_42 : decode cX4_greatestRation 42 = .ok (.iconst 2, 1) := by decide +kernel
theorem dX4_greatestRation_43 : decode cX4_greatestRation 43 = .ok (.idiv, 1) := by decide +kernel
theorem dX4_greatestRation_44 : decode cX4_greatestRation 44 = .ok (.istore 4, 2) := by decide +kernel
theorem dX4_greatestRation_46 : decode cX4_greatestRation 46 = .ok (.goto (-40), 3) := by decide +kernel
theorem dX4_greatestRation_49 : decode cX4_greatestRation 49 = .ok (.iload_n 3, 1) := by decide +kernel
theorem dX4_greatestRation_50 : decode cX4_greatestRation 50 = .ok (.ifCond .ne 8, 3) := by decide +kernel
theorem dX4_greatestRation_53 : decode cX4_greatestRation 53 = .ok (.bipush (-6), 2) := by decide +kernel
theorem dX4_greatestRation_55 : decode cX4_greatestRation 55 = .ok (.goto 4, 3) := by decide +kernel
theorem dX4_greatestRation_58 : decode cX4_greatestRation 58 = .ok (.iload_n 3, 1) := by decide +kernel
theorem dX4_greatestRation_59 : decode cX4_greatestRation 59 = .ok (.ireturn, 1) := by decide +kernel
theorem dX5_init_0 : decode cX5_init 0 = .ok (.aload_n 0, 1) := by decide +kernel
theorem dX5_init_1 : decode cX5_init 1 = .ok (.invokespecial 3, 3) := by decide +kernel
theorem dX5_init_4 : decode cX5_init 4 = .ok (.aload_n 0, 1) := by decide +kernel
theorem dX5_init_5 : decode cX5_init 5 = .ok (.bipush 6, 2) := by decide +kernel
theorem dX5_init_7 : decode cX5_init 7 = .ok (.anewarray 9, 3) := by decide +kernel
theorem dX5_init_10 : decode cX5_init 10 = .ok (.putfield 11, 3) := by decide +kernel
theorem dX5_init_13 : decode cX5_init 13 = .ok (.return_, 1) := by decide +kernel
theorem dX5_isFull_0 : decode cX5_isFull 0 = .ok (.aload_n 0, 1) := by decide +kernel
theorem dX5_isFull_1 : decode cX5_isFull 1 = .ok (.getfield 17, 3) := by decide +kernel
theorem dX5_isFull_4 : decode cX5_isFull 4 = .ok (.bipush 6, 2) := by decide +kernel
theorem dX5_isFull_6 : decode cX5_isFull 6 = .ok (.if_icmp .lt 7, 3) := by decide +kernel
theorem dX5_isFull_9 : decode cX5_isFull 9 = .ok (.iconst 1, 1) := by decide +kernel
theorem dX5_isFull_10 : decode cX5_isFull 10 = .ok (.goto 4, 3) := by decide +kernel
theorem dX5_isFull_13 : decode cX5_isFull 13 = .ok (.iconst 0, 1) := by decide +kernel
theorem dX5_isFull_14 : decode cX5_isFull 14 = .ok (.ireturn, 1) := by decide +kernel
set_option maxRecDepth 20000 in
theorem ggX5_enact_X5_isFull : GoodIn wsX5_enact wsX5_isFull := goodIn_r _ [7, 2, 8, 9] (by decide +kernel) (by decide +kernel)
set_option maxRecDepth 20000 in
theorem gX5_enact_X5_isFull : GoodIn wsX5_enact (wsV RX5 21 RX5 yX5_isFull wsX5_isFull) := goodIn_app (goodIn_of _ (by decide +kernel)) ggX5_enact_X5_isFull
theorem dX5_enact_0 : decode cX5_enact 0 = .ok (.aload_n 0, 1) := by decide +kernel
theorem dX5_enact_1 : decode cX5_enact 1 = .ok (.invokevirtual 21, 3) := by decide +kernel
theorem dX5_enact_4 : decode cX5_enact 4 = .ok (.ifCond .ne 23, 3) := by decide +kernel
theorem dX5_enact_7 : decode cX5_enact 7 = .ok (.aload_n 0, 1) := by decide +kernel
theorem dX5_enact_8 : decode cX5_enact 8 = .ok (.getfield 11, 3) := by decide +kernel
theorem dX5_enact_11 : decode cX5_enact 11 = .ok (.aload_n 0, 1) := by decide +kernel
theorem dX5_enact_12 : decode cX5_enact 12 = .ok (.getfield 17, 3) := by decide +kernel
theorem dX5_enact_15 : decode cX5_enact 15 = .ok (.aload_n 1, 1) := by decide +kernel
theorem dX5_enact_16 : decode cX5_enact 16 = .ok (.aastore, 1) := by decide +kernel
theorem dX5_enact_17 : decode cX5_enact 17 = .ok (.aload_n 0, 1) := by decide +kernel
theorem dX5_enact_18 : decode cX5_enact 18 = .ok (.dup, 1) := by decide +kernel
theorem dX5_enact_19 : decode cX5_enact 19 = .ok (.getfield 17, 3) := by decide +kernel
theorem dX5_enact_22 : decode cX5_enact 22 = .ok (.iconst 1, 1) := by decide +kernel
theorem dX5_enact_23 : decode cX5_enact 23 = .ok (.iadd, 1) := by decide +kernel
theorem dX5_enact_24 : decode cX5_enact 24 = .ok (.putfield 17, 3) := by decide +kernel
theorem dX5_enact_27 : decode cX5_enact 27 = .ok (.return_, 1) := by decide +kernel
theorem dX5_textAt_0 : decode cX5_textAt 0 = .ok (.iload_n 1, 1) := by decide +kernel
theorem dX5_textAt_1 : decode cX5_textAt 1 = .ok (.ifCond .lt 11, 3) := by decide +kernel
theorem dX5_textAt_4 : decode cX5_textAt 4 = .ok (.iload_n 1, 1) := by decide +kernel
theorem dX5_textAt_5 : decode cX5_textAt 5 = .ok (.aload_n 0, 1) := by decide +kernel
theorem dX5_textAt_6 : decode cX5_textAt 6 = .ok (.getfield 17, 3) := by decide +kernel
theorem dX5_textAt_9 : decode cX5_textAt 9 = .ok (.if_icmp .lt 7, 3) := by decide +kernel
theorem dX5_textAt_12 : decode cX5_textAt 12 = .ok (.aconst_null, 1) := by decide +kernel
theorem dX5_textAt_13 : decode cX5_textAt 13 = .ok (.goto 9, 3) := by decide +kernel
theorem dX5_textAt_16 : decode cX5_textAt 16 = .ok (.aload_n 0, 1) := by decide +kernel
theorem dX5_textAt_17 : decode cX5_textAt 17 = .ok (.getfield 11, 3) := by decide +kernel
theorem dX5_textAt_20 : decode cX5_textAt 20 = .ok (.iload_n 1, 1) := by decide +kernel
theorem dX5_textAt_21 : decode cX5_textAt 21 = .ok (.aaload, 1) := by decide +kernel
theorem dX5_textAt_22 : decode cX5_textAt 22 = .ok (.areturn, 1) := by decide +kernel
theorem dX5_ruling_0 : decode cX5_ruling 0 = .ok (.aconst_null, 1) := by decide +kernel
theorem dX5_ruling_1 : decode cX5_ruling 1 = .ok (.astore_n 2, 1) := by decide +kernel
theorem dX5_ruling_2 : decode cX5_ruling 2 = .ok (.iconst 0, 1) := by decide +kernel
theorem dX5_ruling_3 : decode cX5_ruling 3 = .ok (.istore_n 3, 1) := by decide +kernel
theorem dX5_ruling_4 : decode cX5_ruling 4 = .ok (.iload_n 3, 1) := by decide +kernel
theorem dX5_ruling_5 : decode cX5_ruling 5 = .ok (.aload_n 0, 1) := by decide +kernel
theorem dX5_ruling_6 : decode cX5_ruling 6 = .ok (.getfield 17, 3) := by decide +kernel
theorem dX5_ruling_9 : decode cX5_ruling 9 = .ok (.if_icmp .ge 50, 3) := by decide +kernel
theorem dX5_ruling_12 : decode cX5_ruling 12 = .ok (.aload_n 0, 1) := by decide +kernel
theorem dX5_ruling_13 : decode cX5_ruling 13 = .ok (.getfield 11, 3) := by decide +kernel
theorem dX5_ruling_16 : decode cX5_ruling 16 = .ok (.iload_n 3, 1) := by decide +kernel
theorem dX5_ruling_17 : decode cX5_ruling 17 = .ok (.aaload, 1) := by decide +kernel
theorem dX5_ruling_18 : decode cX5_ruling 18 = .ok (.astore 4, 2) := by decide +kernel
theorem dX5_ruling_20 : decode cX5_ruling 20 = .ok (.aload 4, 2) := by decide +kernel
theorem dX5_ruling_22 : decode cX5_ruling 22 = .ok (.ifnull 31, 3) := by decide +kernel
theorem dX5_ruling_25 : decode cX5_ruling 25 = .ok (.aload 4, 2) := by decide +kernel
theorem dX5_ruling_27 : decode cX5_ruling 27 = .ok (.getfield 25, 3) := by decide +kernel
theorem dX5_ruling_30 : decode cX5_ruling 30 = .ok (.iload_n 1, 1) := by decide +kernel
theorem dX5_ruling_31 : decode cX5_ruling 31 = .ok (.if_icmp .gt 22, 3) := by decide +kernel
theorem dX5_ruling_34 : decode cX5_ruling 34 = .ok (.aload_n 2, 1) := by decide +kernel
theorem dX5_ruling_35 : decode cX5_ruling 35 = .ok (.ifnull 15, 3) := by decide +kernel
theorem dX5_ruling_38 : decode cX5_ruling 38 = .ok (.aload 4, 2) := by decide +kernel
theorem dX5_ruling_40 : decode cX5_ruling 40 = .ok (.getfield 25, 3) := by decide +kernel
theorem dX5_ruling_43 : decode cX5_ruling 43 = .ok (.aload_n 2, 1) := by decide +kernel
theorem dX5_ruling_44 : decode cX5_ruling 44 = .ok (.getfield 25, 3) := by decide +kernel
theorem dX5_ruling_47 : decode cX5_ruling 47 = .ok (.if_icmp .lt 6, 3) := by decide +kernel
theorem dX5_ruling_50 : decode cX5_ruling 50 = .ok (.aload 4, 2) := by decide +kernel
theorem dX5_ruling_52 : decode cX5_ruling 52 = .ok (.astore_n 2, 1) := by decide +kernel
theorem dX5_ruling_53 : decode cX5_ruling 53 = .ok (.iinc 3 1, 3) := by decide +kernel
theorem dX5_ruling_56 : decode cX5_ruling 56 = .ok (.goto (-52), 3) := by decide +kernel
theorem dX5_ruling_59 : decode cX5_ruling 59 = .ok (.aload_n 2, 1) := by decide +kernel
theorem dX5_ruling_60 : decode cX5_ruling 60 = .ok (.areturn, 1) := by decide +kernel
set_option maxRecDepth 20000 in
theorem ggX6_init_X3_init : GoodIn wsX6_init wsX3_init := goodIn_r _ [6, 7, 8, 9, 10, 11, 12, 13, 22, 23, 24, 25, 26, 27, 28, 29, 30, 14, 15, 16, 17, 18, 19, 20, 21, 31, 32, 33, 34, 35, 36, 37, 38, 39, 40] (by decide +kernel) (by decide +kernel)
set_option maxRecDepth 20000 in
theorem gX6_init_X3_init : GoodIn wsX6_init (wsX3_init) := ggX6_init_X3_init
theorem dX6_init_0 : decode cX6_init 0 = .ok (.aload_n 0, 1) := by decide +kernel
theorem dX6_init_1 : decode cX6_init 1 = .ok (.iconst 1, 1) := by decide +kernel
theorem dX6_init_2 : decode cX6_init 2 = .ok (.iload_n 1, 1) := by decide +kernel
theorem dX6_init_3 : decode cX6_init 3 = .ok (.iload_n 2, 1) := by decide +kernel
theorem dX6_init_4 : decode cX6_init 4 = .ok (.iload_n 3, 1) := by decide +kernel
theorem dX6_init_5 : decode cX6_init 5 = .ok (.invokespecial 3, 3) := by decide +kernel
theorem dX6_init_8 : decode cX6_init 8 = .ok (.aload_n 0, 1) := by decide +kernel
theorem dX6_init_9 : decode cX6_init 9 = .ok (.iload 4, 2) := by decide +kernel
theorem dX6_init_11 : decode cX6_init 11 = .ok (.putfield 9, 3) := by decide +kernel
theorem dX6_init_14 : decode cX6_init 14 = .ok (.aload_n 0, 1) := by decide +kernel
theorem dX6_init_15 : decode cX6_init 15 = .ok (.iload 5, 2) := by decide +kernel
theorem dX6_init_17 : decode cX6_init 17 = .ok (.putfield 15, 3) := by decide +kernel
theorem dX6_init_20 : decode cX6_init 20 = .ok (.return_, 1) := by decide +kernel
theorem dX6_detail_0 : decode cX6_detail 0 = .ok (.iload_n 1, 1) := by decide +kernel
theorem dX6_detail_1 : decode cX6_detail 1 = .ok (.tableswitch 59 0 3 #[31, 36, 41, 54], 31) := by decide +kernel
theorem dX6_detail_32 : decode cX6_detail 32 = .ok (.aload_n 0, 1) := by decide +kernel
theorem dX6_detail_33 : decode cX6_detail 33 = .ok (.getfield 9, 3) := by decide +kernel
theorem dX6_detail_36 : decode cX6_detail 36 = .ok (.ireturn, 1) := by decide +kernel
theorem dX6_detail_37 : decode cX6_detail 37 = .ok (.aload_n 0, 1) := by decide +kernel
theorem dX6_detail_38 : decode cX6_detail 38 = .ok (.getfield 15, 3) := by decide +kernel
theorem dX6_detail_41 : decode cX6_detail 41 = .ok (.ireturn, 1) := by decide +kernel
theorem dX6_detail_42 : decode cX6_detail 42 = .ok (.aload_n 0, 1) := by decide +kernel
theorem dX6_detail_43 : decode cX6_detail 43 = .ok (.getfield 18, 3) := by decide +kernel
theorem dX6_detail_46 : decode cX6_detail 46 = .ok (.ifCond .eq 7, 3) := by decide +kernel
theorem dX6_detail_49 : decode cX6_detail 49 = .ok (.iconst 1, 1) := by decide +kernel
theorem dX6_detail_50 : decode cX6_detail 50 = .ok (.goto 4, 3) := by decide +kernel
theorem dX6_detail_53 : decode cX6_detail 53 = .ok (.iconst 0, 1) := by decide +kernel
theorem dX6_detail_54 : decode cX6_detail 54 = .ok (.ireturn, 1) := by decide +kernel
theorem dX6_detail_55 : decode cX6_detail 55 = .ok (.aload_n 0, 1) := by decide +kernel
theorem dX6_detail_56 : decode cX6_detail 56 = .ok (.getfield 22, 3) := by decide +kernel
theorem dX6_detail_59 : decode cX6_detail 59 = .ok (.ireturn, 1) := by decide +kernel
theorem dX6_detail_60 : decode cX6_detail 60 = .ok (.bipush (-2), 2) := by decide +kernel
theorem dX6_detail_62 : decode cX6_detail 62 = .ok (.ireturn, 1) := by decide +kernel
theorem dX7_init_0 : decode cX7_init 0 = .ok (.aload_n 0, 1) := by decide +kernel
theorem dX7_init_1 : decode cX7_init 1 = .ok (.invokespecial 3, 3) := by decide +kernel
theorem dX7_init_4 : decode cX7_init 4 = .ok (.aload_n 0, 1) := by decide +kernel
theorem dX7_init_5 : decode cX7_init 5 = .ok (.sipush 200, 3) := by decide +kernel
theorem dX7_init_8 : decode cX7_init 8 = .ok (.newarray .long, 2) := by decide +kernel
theorem dX7_init_10 : decode cX7_init 10 = .ok (.putfield 9, 3) := by decide +kernel
theorem dX7_init_13 : decode cX7_init 13 = .ok (.aload_n 0, 1) := by decide +kernel
theorem dX7_init_14 : decode cX7_init 14 = .ok (.sipush 200, 3) := by decide +kernel
theorem dX7_init_17 : decode cX7_init 17 = .ok (.newarray .long, 2) := by decide +kernel
theorem dX7_init_19 : decode cX7_init 19 = .ok (.putfield 15, 3) := by decide +kernel
theorem dX7_init_22 : decode cX7_init 22 = .ok (.return_, 1) := by decide +kernel
set_option maxRecDepth 20000 in
theorem ggX7_note_X3_week : GoodIn wsX7_note wsX3_week := goodIn_r _ [10, 11, 22, 23, 24, 25, 26, 27, 28, 29, 30, 14, 15, 16, 17, 18, 19, 20, 21, 31, 32, 33, 34, 35, 36, 37, 38, 39, 40] (by decide +kernel) (by decide +kernel)
set_option maxRecDepth 20000 in
theorem gX7_note_X3_week_u18X6 : GoodIn wsX7_note (va_wsU RX7 18 RX6 "BreadLaw$Entry" ⟨"BreadLaw$Lot", "week", "()I"⟩ yX3_week wsX3_week) := goodIn_app (goodIn_of _ (by decide +kernel)) ggX7_note_X3_week
theorem dX7_note_0 : decode cX7_note 0 = .ok (.aload_n 1, 1) := by decide +kernel
theorem dX7_note_1 : decode cX7_note 1 = .ok (.invokevirtual 18, 3) := by decide +kernel
theorem dX7_note_4 : decode cX7_note 4 = .ok (.istore_n 2, 1) := by decide +kernel
theorem dX7_note_5 : decode cX7_note 5 = .ok (.iload_n 2, 1) := by decide +kernel
theorem dX7_note_6 : decode cX7_note 6 = .ok (.ifCond .lt 44, 3) := by decide +kernel
theorem dX7_note_9 : decode cX7_note 9 = .ok (.iload_n 2, 1) := by decide +kernel
theorem dX7_note_10 : decode cX7_note 10 = .ok (.sipush 200, 3) := by decide +kernel
theorem dX7_note_13 : decode cX7_note 13 = .ok (.if_icmp .ge 37, 3) := by decide +kernel
theorem dX7_note_16 : decode cX7_note 16 = .ok (.aload_n 0, 1) := by decide +kernel
theorem dX7_note_17 : decode cX7_note 17 = .ok (.getfield 9, 3) := by decide +kernel
theorem dX7_note_20 : decode cX7_note 20 = .ok (.iload_n 2, 1) := by decide +kernel
theorem dX7_note_21 : decode cX7_note 21 = .ok (.dup2, 1) := by decide +kernel
theorem dX7_note_22 : decode cX7_note 22 = .ok (.laload, 1) := by decide +kernel
theorem dX7_note_23 : decode cX7_note 23 = .ok (.aload_n 1, 1) := by decide +kernel
theorem dX7_note_24 : decode cX7_note 24 = .ok (.getfield 24, 3) := by decide +kernel
theorem dX7_note_27 : decode cX7_note 27 = .ok (.i2l, 1) := by decide +kernel
theorem dX7_note_28 : decode cX7_note 28 = .ok (.ladd, 1) := by decide +kernel
theorem dX7_note_29 : decode cX7_note 29 = .ok (.lastore, 1) := by decide +kernel
theorem dX7_note_30 : decode cX7_note 30 = .ok (.aload_n 0, 1) := by decide +kernel
theorem dX7_note_31 : decode cX7_note 31 = .ok (.getfield 15, 3) := by decide +kernel
theorem dX7_note_34 : decode cX7_note 34 = .ok (.iload_n 2, 1) := by decide +kernel
theorem dX7_note_35 : decode cX7_note 35 = .ok (.dup2, 1) := by decide +kernel
theorem dX7_note_36 : decode cX7_note 36 = .ok (.laload, 1) := by decide +kernel
theorem dX7_note_37 : decode cX7_note 37 = .ok (.aload_n 1, 1) := by decide +kernel
theorem dX7_note_38 : decode cX7_note 38 = .ok (.getfield 27, 3) := by decide +kernel
theorem dX7_note_41 : decode cX7_note 41 = .ok (.i2l, 1) := by decide +kernel
theorem dX7_note_42 : decode cX7_note 42 = .ok (.aload_n 1, 1) := by decide +kernel
theorem dX7_note_43 : decode cX7_note 43 = .ok (.getfield 24, 3) := by decide +kernel
theorem dX7_note_46 : decode cX7_note 46 = .ok (.i2l, 1) := by decide +kernel
theorem dX7_note_47 : decode cX7_note 47 = .ok (.lmul, 1) := by decide +kernel
theorem dX7_note_48 : decode cX7_note 48 = .ok (.ladd, 1) := by decide +kernel
theorem dX7_note_49 : decode cX7_note 49 = .ok (.lastore, 1) := by decide +kernel
theorem dX7_note_50 : decode cX7_note 50 = .ok (.return_, 1) := by decide +kernel
theorem dX7_priceOf_0 : decode cX7_priceOf 0 = .ok (.iload_n 1, 1) := by decide +kernel
theorem dX7_priceOf_1 : decode cX7_priceOf 1 = .ok (.sipush 199, 3) := by decide +kernel
theorem dX7_priceOf_4 : decode cX7_priceOf 4 = .ok (.invokestatic 30, 3) := by decide +kernel
theorem dX7_priceOf_7 : decode cX7_priceOf 7 = .ok (.istore_n 2, 1) := by decide +kernel
theorem dX7_priceOf_8 : decode cX7_priceOf 8 = .ok (.iload_n 2, 1) := by decide +kernel
theorem dX7_priceOf_9 : decode cX7_priceOf 9 = .ok (.ifCond .lt 35, 3) := by decide +kernel
theorem dX7_priceOf_12 : decode cX7_priceOf 12 = .ok (.aload_n 0, 1) := by decide +kernel
theorem dX7_priceOf_13 : decode cX7_priceOf 13 = .ok (.getfield 9, 3) := by decide +kernel
theorem dX7_priceOf_16 : decode cX7_priceOf 16 = .ok (.iload_n 2, 1) := by decide +kernel
theorem dX7_priceOf_17 : decode cX7_priceOf 17 = .ok (.laload, 1) := by decide +kernel
theorem dX7_priceOf_18 : decode cX7_priceOf 18 = .ok (.lconst 0, 1) := by decide +kernel
theorem dX7_priceOf_19 : decode cX7_priceOf 19 = .ok (.lcmp, 1) := by decide +kernel
theorem dX7_priceOf_20 : decode cX7_priceOf 20 = .ok (.ifCond .le 18, 3) := by decide +kernel
theorem dX7_priceOf_23 : decode cX7_priceOf 23 = .ok (.aload_n 0, 1) := by decide +kernel
theorem dX7_priceOf_24 : decode cX7_priceOf 24 = .ok (.getfield 15, 3) := by decide +kernel
theorem dX7_priceOf_27 : decode cX7_priceOf 27 = .ok (.iload_n 2, 1) := by decide +kernel
theorem dX7_priceOf_28 : decode cX7_priceOf 28 = .ok (.laload, 1) := by decide +kernel
theorem dX7_priceOf_29 : decode cX7_priceOf 29 = .ok (.aload_n 0, 1) := by decide +kernel
theorem dX7_priceOf_30 : decode cX7_priceOf 30 = .ok (.getfield 9, 3) := by decide +kernel
theorem dX7_priceOf_33 : decode cX7_priceOf 33 = .ok (.iload_n 2, 1) := by decide +kernel
theorem dX7_priceOf_34 : decode cX7_priceOf 34 = .ok (.laload, 1) := by decide +kernel
theorem dX7_priceOf_35 : decode cX7_priceOf 35 = .ok (.ldiv, 1) := by decide +kernel
theorem dX7_priceOf_36 : decode cX7_priceOf 36 = .ok (.l2i, 1) := by decide +kernel
theorem dX7_priceOf_37 : decode cX7_priceOf 37 = .ok (.ireturn, 1) := by decide +kernel
theorem dX7_priceOf_38 : decode cX7_priceOf 38 = .ok (.iinc 2 (-1), 3) := by decide +kernel
theorem dX7_priceOf_41 : decode cX7_priceOf 41 = .ok (.goto (-33), 3) := by decide +kernel
theorem dX7_priceOf_44 : decode cX7_priceOf 44 = .ok (.bipush 100, 2) := by decide +kernel
theorem dX7_priceOf_46 : decode cX7_priceOf 46 = .ok (.ireturn, 1) := by decide +kernel
set_option maxRecDepth 20000 in
theorem ggX8_init_X3_init : GoodIn wsX8_init wsX3_init := goodIn_r _ [5, 6, 7, 8, 9, 10, 11, 12, 23, 24, 25, 26, 27, 28, 29, 30, 31, 32, 33, 34, 35, 36, 37, 38, 39, 13, 14, 15, 16, 17, 18, 19, 20, 21, 22] (by decide +kernel) (by decide +kernel)
set_option maxRecDepth 20000 in
theorem gX8_init_X3_init : GoodIn wsX8_init (wsX3_init) := ggX8_init_X3_init
theorem dX8_init_0 : decode cX8_init 0 = .ok (.aload_n 0, 1) := by decide +kernel
theorem dX8_init_1 : decode cX8_init 1 = .ok (.iconst 3, 1) := by decide +kernel
theorem dX8_init_2 : decode cX8_init 2 = .ok (.iload_n 1, 1) := by decide +kernel
theorem dX8_init_3 : decode cX8_init 3 = .ok (.iload_n 2, 1) := by decide +kernel
theorem dX8_init_4 : decode cX8_init 4 = .ok (.iload_n 3, 1) := by decide +kernel
theorem dX8_init_5 : decode cX8_init 5 = .ok (.invokespecial 3, 3) := by decide +kernel
theorem dX8_init_8 : decode cX8_init 8 = .ok (.aload_n 0, 1) := by decide +kernel
theorem dX8_init_9 : decode cX8_init 9 = .ok (.bipush (-6), 2) := by decide +kernel
theorem dX8_init_11 : decode cX8_init 11 = .ok (.putfield 9, 3) := by decide +kernel
theorem dX8_init_14 : decode cX8_init 14 = .ok (.return_, 1) := by decide +kernel
theorem dX8_detail_0 : decode cX8_detail 0 = .ok (.iload_n 1, 1) := by decide +kernel
theorem dX8_detail_1 : decode cX8_detail 1 = .ok (.tableswitch 77 0 5 #[39, 44, 49, 54, 59, 72], 39) := by decide +kernel
theorem dX8_detail_40 : decode cX8_detail 40 = .ok (.aload_n 0, 1) := by decide +kernel
theorem dX8_detail_41 : decode cX8_detail 41 = .ok (.getfield 9, 3) := by decide +kernel
theorem dX8_detail_44 : decode cX8_detail 44 = .ok (.ireturn, 1) := by decide +kernel
theorem dX8_detail_45 : decode cX8_detail 45 = .ok (.aload_n 0, 1) := by decide +kernel
theorem dX8_detail_46 : decode cX8_detail 46 = .ok (.getfield 15, 3) := by decide +kernel
theorem dX8_detail_49 : decode cX8_detail 49 = .ok (.ireturn, 1) := by decide +kernel
theorem dX8_detail_50 : decode cX8_detail 50 = .ok (.aload_n 0, 1) := by decide +kernel
theorem dX8_detail_51 : decode cX8_detail 51 = .ok (.getfield 18, 3) := by decide +kernel
theorem dX8_detail_54 : decode cX8_detail 54 = .ok (.ireturn, 1) := by decide +kernel
theorem dX8_detail_55 : decode cX8_detail 55 = .ok (.aload_n 0, 1) := by decide +kernel
theorem dX8_detail_56 : decode cX8_detail 56 = .ok (.getfield 21, 3) := by decide +kernel
theorem dX8_detail_59 : decode cX8_detail 59 = .ok (.ireturn, 1) := by decide +kernel
theorem dX8_detail_60 : decode cX8_detail 60 = .ok (.aload_n 0, 1) := by decide +kernel
theorem dX8_detail_61 : decode cX8_detail 61 = .ok (.getfield 24, 3) := by decide +kernel
theorem dX8_detail_64 : decode cX8_detail 64 = .ok (.ifCond .eq 7, 3) := by decide +kernel
theorem dX8_detail_67 : decode cX8_detail 67 = .ok (.iconst 1, 1) := by decide +kernel
theorem dX8_detail_68 : decode cX8_detail 68 = .ok (.goto 4, 3) := by decide +kernel
theorem dX8_detail_71 : decode cX8_detail 71 = .ok (.iconst 0, 1) := by decide +kernel
theorem dX8_detail_72 : decode cX8_detail 72 = .ok (.ireturn, 1) := by decide +kernel
theorem dX8_detail_73 : decode cX8_detail 73 = .ok (.aload_n 0, 1) := by decide +kernel
theorem dX8_detail_74 : decode cX8_detail 74 = .ok (.getfield 28, 3) := by decide +kernel
theorem dX8_detail_77 : decode cX8_detail 77 = .ok (.ireturn, 1) := by decide +kernel
theorem dX8_detail_78 : decode cX8_detail 78 = .ok (.bipush (-2), 2) := by decide +kernel
theorem dX8_detail_80 : decode cX8_detail 80 = .ok (.ireturn, 1) := by decide +kernel
theorem dX9_init_0 : decode cX9_init 0 = .ok (.aload_n 0, 1) := by decide +kernel
theorem dX9_init_1 : decode cX9_init 1 = .ok (.invokespecial 3, 3) := by decide +kernel
theorem dX9_init_4 : decode cX9_init 4 = .ok (.aload_n 0, 1) := by decide +kernel
theorem dX9_init_5 : decode cX9_init 5 = .ok (.iload_n 1, 1) := by decide +kernel
theorem dX9_init_6 : decode cX9_init 6 = .ok (.putfield 9, 3) := by decide +kernel
theorem dX9_init_9 : decode cX9_init 9 = .ok (.aload_n 0, 1) := by decide +kernel
theorem dX9_init_10 : decode cX9_init 10 = .ok (.iload_n 2, 1) := by decide +kernel
theorem dX9_init_11 : decode cX9_init 11 = .ok (.putfield 15, 3) := by decide +kernel
theorem dX9_init_14 : decode cX9_init 14 = .ok (.aload_n 0, 1) := by decide +kernel
theorem dX9_init_15 : decode cX9_init 15 = .ok (.iload 6, 2) := by decide +kernel
theorem dX9_init_17 : decode cX9_init 17 = .ok (.putfield 18, 3) := by decide +kernel
theorem dX9_init_20 : decode cX9_init 20 = .ok (.aload_n 0, 1) := by decide +kernel
theorem dX9_init_21 : decode cX9_init 21 = .ok (.iconst 3, 1) := by decide +kernel
theorem dX9_init_22 : decode cX9_init 22 = .ok (.newarray .int, 2) := by decide +kernel
theorem dX9_init_24 : decode cX9_init 24 = .ok (.putfield 21, 3) := by decide +kernel
theorem dX9_init_27 : decode cX9_init 27 = .ok (.aload_n 0, 1) := by decide +kernel
theorem dX9_init_28 : decode cX9_init 28 = .ok (.getfield 21, 3) := by decide +kernel
theorem dX9_init_31 : decode cX9_init 31 = .ok (.iconst 0, 1) := by decide +kernel
theorem dX9_init_32 : decode cX9_init 32 = .ok (.iload_n 3, 1) := by decide +kernel
theorem dX9_init_33 : decode cX9_init 33 = .ok (.iastore, 1) := by decide +kernel
theorem dX9_init_34 : decode cX9_init 34 = .ok (.aload_n 0, 1) := by decide +kernel
theorem dX9_init_35 : decode cX9_init 35 = .ok (.getfield 21, 3) := by decide +kernel
theorem dX9_init_38 : decode cX9_init 38 = .ok (.iconst 1, 1) := by decide +kernel
theorem dX9_init_39 : decode cX9_init 39 = .ok (.iload 4, 2) := by decide +kernel
theorem dX9_init_41 : decode cX9_init 41 = .ok (.iastore, 1) := by decide +kernel
theorem dX9_init_42 : decode cX9_init 42 = .ok (.aload_n 0, 1) := by decide +kernel
theorem dX9_init_43 : decode cX9_init 43 = .ok (.getfield 21, 3) := by decide +kernel
theorem dX9_init_46 : decode cX9_init 46 = .ok (.iconst 2, 1) := by decide +kernel
theorem dX9_init_47 : decode cX9_init 47 = .ok (.iload 5, 2) := by decide +kernel
theorem dX9_init_49 : decode cX9_init 49 = .ok (.iastore, 1) := by decide +kernel
theorem dX9_init_50 : decode cX9_init 50 = .ok (.aload_n 0, 1) := by decide +kernel
theorem dX9_init_51 : decode cX9_init 51 = .ok (.bipush 8, 2) := by decide +kernel
theorem dX9_init_53 : decode cX9_init 53 = .ok (.newarray .int, 2) := by decide +kernel
theorem dX9_init_55 : decode cX9_init 55 = .ok (.putfield 25, 3) := by decide +kernel
theorem dX9_init_58 : decode cX9_init 58 = .ok (.aload_n 0, 1) := by decide +kernel
theorem dX9_init_59 : decode cX9_init 59 = .ok (.bipush 8, 2) := by decide +kernel
theorem dX9_init_61 : decode cX9_init 61 = .ok (.newarray .int, 2) := by decide +kernel
theorem dX9_init_63 : decode cX9_init 63 = .ok (.putfield 28, 3) := by decide +kernel
theorem dX9_init_66 : decode cX9_init 66 = .ok (.return_, 1) := by decide +kernel
theorem dX9_isFull_0 : decode cX9_isFull 0 = .ok (.aload_n 0, 1) := by decide +kernel
theorem dX9_isFull_1 : decode cX9_isFull 1 = .ok (.getfield 31, 3) := by decide +kernel
theorem dX9_isFull_4 : decode cX9_isFull 4 = .ok (.bipush 8, 2) := by decide +kernel
theorem dX9_isFull_6 : decode cX9_isFull 6 = .ok (.if_icmp .lt 7, 3) := by decide +kernel
theorem dX9_isFull_9 : decode cX9_isFull 9 = .ok (.iconst 1, 1) := by decide +kernel
theorem dX9_isFull_10 : decode cX9_isFull 10 = .ok (.goto 4, 3) := by decide +kernel
theorem dX9_isFull_13 : decode cX9_isFull 13 = .ok (.iconst 0, 1) := by decide +kernel
theorem dX9_isFull_14 : decode cX9_isFull 14 = .ok (.ireturn, 1) := by decide +kernel
set_option maxRecDepth 20000 in
theorem ggX9_addStep_X9_isFull : GoodIn wsX9_addStep wsX9_isFull := goodIn_r _ [8, 2, 9, 10, 11, 12, 13, 14, 15] (by decide +kernel) (by decide +kernel)
set_option maxRecDepth 20000 in
theorem gX9_addStep_X9_isFull : GoodIn wsX9_addStep (wsV RX9 34 RX9 yX9_isFull wsX9_isFull) := goodIn_app (goodIn_of _ (by decide +kernel)) ggX9_addStep_X9_isFull
theorem dX9_addStep_0 : decode cX9_addStep 0 = .ok (.aload_n 0, 1) := by decide +kernel
theorem dX9_addStep_1 : decode cX9_addStep 1 = .ok (.invokevirtual 34, 3) := by decide +kernel
theorem dX9_addStep_4 : decode cX9_addStep 4 = .ok (.ifCond .ne 33, 3) := by decide +kernel
theorem dX9_addStep_7 : decode cX9_addStep 7 = .ok (.aload_n 0, 1) := by decide +kernel
theorem dX9_addStep_8 : decode cX9_addStep 8 = .ok (.getfield 25, 3) := by decide +kernel
theorem dX9_addStep_11 : decode cX9_addStep 11 = .ok (.aload_n 0, 1) := by decide +kernel
theorem dX9_addStep_12 : decode cX9_addStep 12 = .ok (.getfield 31, 3) := by decide +kernel
theorem dX9_addStep_15 : decode cX9_addStep 15 = .ok (.iload_n 1, 1) := by decide +kernel
theorem dX9_addStep_16 : decode cX9_addStep 16 = .ok (.iastore, 1) := by decide +kernel
theorem dX9_addStep_17 : decode cX9_addStep 17 = .ok (.aload_n 0, 1) := by decide +kernel
theorem dX9_addStep_18 : decode cX9_addStep 18 = .ok (.getfield 28, 3) := by decide +kernel
theorem dX9_addStep_21 : decode cX9_addStep 21 = .ok (.aload_n 0, 1) := by decide +kernel
theorem dX9_addStep_22 : decode cX9_addStep 22 = .ok (.getfield 31, 3) := by decide +kernel
theorem dX9_addStep_25 : decode cX9_addStep 25 = .ok (.iload_n 2, 1) := by decide +kernel
theorem dX9_addStep_26 : decode cX9_addStep 26 = .ok (.iastore, 1) := by decide +kernel
theorem dX9_addStep_27 : decode cX9_addStep 27 = .ok (.aload_n 0, 1) := by decide +kernel
theorem dX9_addStep_28 : decode cX9_addStep 28 = .ok (.dup, 1) := by decide +kernel
theorem dX9_addStep_29 : decode cX9_addStep 29 = .ok (.getfield 31, 3) := by decide +kernel
theorem dX9_addStep_32 : decode cX9_addStep 32 = .ok (.iconst 1, 1) := by decide +kernel
theorem dX9_addStep_33 : decode cX9_addStep 33 = .ok (.iadd, 1) := by decide +kernel
theorem dX9_addStep_34 : decode cX9_addStep 34 = .ok (.putfield 31, 3) := by decide +kernel
theorem dX9_addStep_37 : decode cX9_addStep 37 = .ok (.return_, 1) := by decide +kernel
set_option maxRecDepth 20000 in
theorem ggX9_loaf_X9_ouncesAt : GoodIn wsX9_loaf wsX9_ouncesAt := goodIn_r _ [6, 7, 8, 9, 10, 11, 12, 13, 14, 15, 16] (by decide +kernel) (by decide +kernel)
set_option maxRecDepth 20000 in
theorem gX9_loaf_X9_ouncesAt : GoodIn wsX9_loaf (wsV RX9 38 RX9 yX9_ouncesAt wsX9_ouncesAt) := goodIn_app (goodIn_of _ (by decide +kernel)) ggX9_loaf_X9_ouncesAt
theorem dX9_loaf_0 : decode cX9_loaf 0 = .ok (.iload_n 1, 1) := by decide +kernel
theorem dX9_loaf_1 : decode cX9_loaf 1 = .ok (.ifCond .lt 8, 3) := by decide +kernel
theorem dX9_loaf_4 : decode cX9_loaf 4 = .ok (.iload_n 1, 1) := by decide +kernel
theorem dX9_loaf_5 : decode cX9_loaf 5 = .ok (.iconst 3, 1) := by decide +kernel
theorem dX9_loaf_6 : decode cX9_loaf 6 = .ok (.if_icmp .lt 5, 3) := by decide +kernel
theorem dX9_loaf_9 : decode cX9_loaf 9 = .ok (.iconst 0, 1) := by decide +kernel
theorem dX9_loaf_10 : decode cX9_loaf 10 = .ok (.ireturn, 1) := by decide +kernel
theorem dX9_loaf_11 : decode cX9_loaf 11 = .ok (.aload_n 0, 1) := by decide +kernel
theorem dX9_loaf_12 : decode cX9_loaf 12 = .ok (.iload_n 2, 1) := by decide +kernel
theorem dX9_loaf_13 : decode cX9_loaf 13 = .ok (.invokevirtual 38, 3) := by decide +kernel
theorem dX9_loaf_16 : decode cX9_loaf 16 = .ok (.aload_n 0, 1) := by decide +kernel
theorem dX9_loaf_17 : decode cX9_loaf 17 = .ok (.getfield 21, 3) := by decide +kernel
theorem dX9_loaf_20 : decode cX9_loaf 20 = .ok (.iload_n 1, 1) := by decide +kernel
theorem dX9_loaf_21 : decode cX9_loaf 21 = .ok (.iaload, 1) := by decide +kernel
theorem dX9_loaf_22 : decode cX9_loaf 22 = .ok (.imul, 1) := by decide +kernel
theorem dX9_loaf_23 : decode cX9_loaf 23 = .ok (.bipush 100, 2) := by decide +kernel
theorem dX9_loaf_25 : decode cX9_loaf 25 = .ok (.idiv, 1) := by decide +kernel
theorem dX9_loaf_26 : decode cX9_loaf 26 = .ok (.ireturn, 1) := by decide +kernel
theorem dX9_ouncesAt_0 : decode cX9_ouncesAt 0 = .ok (.iconst 0, 1) := by decide +kernel
theorem dX9_ouncesAt_1 : decode cX9_ouncesAt 1 = .ok (.istore_n 2, 1) := by decide +kernel
theorem dX9_ouncesAt_2 : decode cX9_ouncesAt 2 = .ok (.iconst (-1), 1) := by decide +kernel
theorem dX9_ouncesAt_3 : decode cX9_ouncesAt 3 = .ok (.istore_n 3, 1) := by decide +kernel
theorem dX9_ouncesAt_4 : decode cX9_ouncesAt 4 = .ok (.iconst 0, 1) := by decide +kernel
theorem dX9_ouncesAt_5 : decode cX9_ouncesAt 5 = .ok (.istore 4, 2) := by decide +kernel
theorem dX9_ouncesAt_7 : decode cX9_ouncesAt 7 = .ok (.iload 4, 2) := by decide +kernel
theorem dX9_ouncesAt_9 : decode cX9_ouncesAt 9 = .ok (.aload_n 0, 1) := by decide +kernel
theorem dX9_ouncesAt_10 : decode cX9_ouncesAt 10 = .ok (.getfield 31, 3) := by decide +kernel
theorem dX9_ouncesAt_13 : decode cX9_ouncesAt 13 = .ok (.if_icmp .ge 47, 3) := by decide +kernel
theorem dX9_ouncesAt_16 : decode cX9_ouncesAt 16 = .ok (.aload_n 0, 1) := by decide +kernel
theorem dX9_ouncesAt_17 : decode cX9_ouncesAt 17 = .ok (.getfield 25, 3) := by decide +kernel
theorem dX9_ouncesAt_20 : decode cX9_ouncesAt 20 = .ok (.iload 4, 2) := by decide +kernel
theorem dX9_ouncesAt_22 : decode cX9_ouncesAt 22 = .ok (.iaload, 1) := by decide +kernel
theorem dX9_ouncesAt_23 : decode cX9_ouncesAt 23 = .ok (.iload_n 1, 1) := by decide +kernel
theorem dX9_ouncesAt_24 : decode cX9_ouncesAt 24 = .ok (.if_icmp .gt 30, 3) := by decide +kernel
theorem dX9_ouncesAt_27 : decode cX9_ouncesAt 27 = .ok (.aload_n 0, 1) := by decide +kernel
theorem dX9_ouncesAt_28 : decode cX9_ouncesAt 28 = .ok (.getfield 25, 3) := by decide +kernel
theorem dX9_ouncesAt_31 : decode cX9_ouncesAt 31 = .ok (.iload 4, 2) := by decide +kernel
theorem dX9_ouncesAt_33 : decode cX9_ouncesAt 33 = .ok (.iaload, 1) := by decide +kernel
theorem dX9_ouncesAt_34 : decode cX9_ouncesAt 34 = .ok (.iload_n 3, 1) := by decide +kernel
theorem dX9_ouncesAt_35 : decode cX9_ouncesAt 35 = .ok (.if_icmp .lt 19, 3) := by decide +kernel
theorem dX9_ouncesAt_38 : decode cX9_ouncesAt 38 = .ok (.aload_n 0, 1) := by decide +kernel
theorem dX9_ouncesAt_39 : decode cX9_ouncesAt 39 = .ok (.getfield 25, 3) := by decide +kernel
theorem dX9_ouncesAt_42 : decode cX9_ouncesAt 42 = .ok (.iload 4, 2) := by decide +kernel
theorem dX9_ouncesAt_44 : decode cX9_ouncesAt 44 = .ok (.iaload, 1) := by decide +kernel
theorem dX9_ouncesAt_45 : decode cX9_ouncesAt 45 = .ok (.istore_n 3, 1) := by decide +kernel
theorem dX9_ouncesAt_46 : decode cX9_ouncesAt 46 = .ok (.aload_n 0, 1) := by decide +kernel
theorem dX9_ouncesAt_47 : decode cX9_ouncesAt 47 = .ok (.getfield 28, 3) := by decide +kernel
theorem dX9_ouncesAt_50 : decode cX9_ouncesAt 50 = .ok (.iload 4, 2) := by decide +kernel
theorem dX9_ouncesAt_52 : decode cX9_ouncesAt 52 = .ok (.iaload, 1) := by decide +kernel
theorem dX9_ouncesAt_53 : decode cX9_ouncesAt 53 = .ok (.istore_n 2, 1) := by decide +kernel
theorem dX9_ouncesAt_54 : decode cX9_ouncesAt 54 = .ok (.iinc 4 1, 3) := by decide +kernel
theorem dX9_ouncesAt_57 : decode cX9_ouncesAt 57 = .ok (.goto (-50), 3) := by decide +kernel
theorem dX9_ouncesAt_60 : decode cX9_ouncesAt 60 = .ok (.iload_n 2, 1) := by decide +kernel
theorem dX9_ouncesAt_61 : decode cX9_ouncesAt 61 = .ok (.ireturn, 1) := by decide +kernel
theorem dX10_init_0 : decode cX10_init 0 = .ok (.aload_n 0, 1) := by decide +kernel
theorem dX10_init_1 : decode cX10_init 1 = .ok (.invokespecial 3, 3) := by decide +kernel
theorem dX10_init_4 : decode cX10_init 4 = .ok (.aload_n 0, 1) := by decide +kernel
theorem dX10_init_5 : decode cX10_init 5 = .ok (.bipush 8, 2) := by decide +kernel
theorem dX10_init_7 : decode cX10_init 7 = .ok (.newarray .int, 2) := by decide +kernel
theorem dX10_init_9 : decode cX10_init 9 = .ok (.putfield 9, 3) := by decide +kernel
theorem dX10_init_12 : decode cX10_init 12 = .ok (.aload_n 0, 1) := by decide +kernel
theorem dX10_init_13 : decode cX10_init 13 = .ok (.iconst 1, 1) := by decide +kernel
theorem dX10_init_14 : decode cX10_init 14 = .ok (.putfield 15, 3) := by decide +kernel
theorem dX10_init_17 : decode cX10_init 17 = .ok (.return_, 1) := by decide +kernel
theorem dX10_dropRow_0 : decode cX10_dropRow 0 = .ok (.aload_n 0, 1) := by decide +kernel
theorem dX10_dropRow_1 : decode cX10_dropRow 1 = .ok (.iconst 0, 1) := by decide +kernel
theorem dX10_dropRow_2 : decode cX10_dropRow 2 = .ok (.putfield 19, 3) := by decide +kernel
theorem dX10_dropRow_5 : decode cX10_dropRow 5 = .ok (.aload_n 0, 1) := by decide +kernel
theorem dX10_dropRow_6 : decode cX10_dropRow 6 = .ok (.iconst 0, 1) := by decide +kernel
theorem dX10_dropRow_7 : decode cX10_dropRow 7 = .ok (.putfield 22, 3) := by decide +kernel
theorem dX10_dropRow_10 : decode cX10_dropRow 10 = .ok (.return_, 1) := by decide +kernel
theorem dX10_moveOn_0 : decode cX10_moveOn 0 = .ok (.aload_n 0, 1) := by decide +kernel
theorem dX10_moveOn_1 : decode cX10_moveOn 1 = .ok (.dup, 1) := by decide +kernel
theorem dX10_moveOn_2 : decode cX10_moveOn 2 = .ok (.getfield 22, 3) := by decide +kernel
theorem dX10_moveOn_5 : decode cX10_moveOn 5 = .ok (.iconst 1, 1) := by decide +kernel
theorem dX10_moveOn_6 : decode cX10_moveOn 6 = .ok (.iadd, 1) := by decide +kernel
theorem dX10_moveOn_7 : decode cX10_moveOn 7 = .ok (.putfield 22, 3) := by decide +kernel
theorem dX10_moveOn_10 : decode cX10_moveOn 10 = .ok (.return_, 1) := by decide +kernel
set_option maxRecDepth 20000 in
theorem ggX10_upNext_X10_draw : GoodIn wsX10_upNext wsX10_draw := goodIn_r _ [12, 7, 13, 14, 15, 16, 2, 1, 17, 18, 19, 20] (by decide +kernel) (by decide +kernel)
set_option maxRecDepth 20000 in
theorem gX10_upNext_X10_draw : GoodIn wsX10_upNext (wsV RX10 31 RX10 yX10_draw wsX10_draw) := goodIn_app (goodIn_of _ (by decide +kernel)) ggX10_upNext_X10_draw
theorem dX10_upNext_0 : decode cX10_upNext 0 = .ok (.aload_n 0, 1) := by decide +kernel
theorem dX10_upNext_1 : decode cX10_upNext 1 = .ok (.getfield 22, 3) := by decide +kernel
theorem dX10_upNext_4 : decode cX10_upNext 4 = .ok (.aload_n 0, 1) := by decide +kernel
theorem dX10_upNext_5 : decode cX10_upNext 5 = .ok (.getfield 19, 3) := by decide +kernel
theorem dX10_upNext_8 : decode cX10_upNext 8 = .ok (.if_icmp .lt 13, 3) := by decide +kernel
theorem dX10_upNext_11 : decode cX10_upNext 11 = .ok (.aload_n 0, 1) := by decide +kernel
theorem dX10_upNext_12 : decode cX10_upNext 12 = .ok (.iload_n 1, 1) := by decide +kernel
theorem dX10_upNext_13 : decode cX10_upNext 13 = .ok (.bipush 8, 2) := by decide +kernel
theorem dX10_upNext_15 : decode cX10_upNext 15 = .ok (.invokestatic 25, 3) := by decide +kernel
theorem dX10_upNext_18 : decode cX10_upNext 18 = .ok (.invokevirtual 31, 3) := by decide +kernel
theorem dX10_upNext_21 : decode cX10_upNext 21 = .ok (.aload_n 0, 1) := by decide +kernel
theorem dX10_upNext_22 : decode cX10_upNext 22 = .ok (.getfield 22, 3) := by decide +kernel
theorem dX10_upNext_25 : decode cX10_upNext 25 = .ok (.ifCond .lt 26, 3) := by decide +kernel
theorem dX10_upNext_28 : decode cX10_upNext 28 = .ok (.aload_n 0, 1) := by decide +kernel
theorem dX10_upNext_29 : decode cX10_upNext 29 = .ok (.getfield 22, 3) := by decide +kernel
theorem dX10_upNext_32 : decode cX10_upNext 32 = .ok (.aload_n 0, 1) := by decide +kernel
theorem dX10_upNext_33 : decode cX10_upNext 33 = .ok (.getfield 19, 3) := by decide +kernel
theorem dX10_upNext_36 : decode cX10_upNext 36 = .ok (.if_icmp .ge 15, 3) := by decide +kernel
theorem dX10_upNext_39 : decode cX10_upNext 39 = .ok (.aload_n 0, 1) := by decide +kernel
theorem dX10_upNext_40 : decode cX10_upNext 40 = .ok (.getfield 9, 3) := by decide +kernel
theorem dX10_upNext_43 : decode cX10_upNext 43 = .ok (.aload_n 0, 1) := by decide +kernel
theorem dX10_upNext_44 : decode cX10_upNext 44 = .ok (.getfield 22, 3) := by decide +kernel
theorem dX10_upNext_47 : decode cX10_upNext 47 = .ok (.iaload, 1) := by decide +kernel
theorem dX10_upNext_48 : decode cX10_upNext 48 = .ok (.goto 5, 3) := by decide +kernel
theorem dX10_upNext_51 : decode cX10_upNext 51 = .ok (.bipush (-6), 2) := by decide +kernel
theorem dX10_upNext_53 : decode cX10_upNext 53 = .ok (.ireturn, 1) := by decide +kernel
theorem dX10_draw_0 : decode cX10_draw 0 = .ok (.iconst 0, 1) := by decide +kernel
theorem dX10_draw_1 : decode cX10_draw 1 = .ok (.istore_n 2, 1) := by decide +kernel
theorem dX10_draw_2 : decode cX10_draw 2 = .ok (.iload_n 2, 1) := by decide +kernel
theorem dX10_draw_3 : decode cX10_draw 3 = .ok (.iload_n 1, 1) := by decide +kernel
theorem dX10_draw_4 : decode cX10_draw 4 = .ok (.if_icmp .ge 16, 3) := by decide +kernel
theorem dX10_draw_7 : decode cX10_draw 7 = .ok (.aload_n 0, 1) := by decide +kernel
theorem dX10_draw_8 : decode cX10_draw 8 = .ok (.getfield 9, 3) := by decide +kernel
theorem dX10_draw_11 : decode cX10_draw 11 = .ok (.iload_n 2, 1) := by decide +kernel
theorem dX10_draw_12 : decode cX10_draw 12 = .ok (.iload_n 2, 1) := by decide +kernel
theorem dX10_draw_13 : decode cX10_draw 13 = .ok (.iastore, 1) := by decide +kernel
theorem dX10_draw_14 : decode cX10_draw 14 = .ok (.iinc 2 1, 3) := by decide +kernel
theorem dX10_draw_17 : decode cX10_draw 17 = .ok (.goto (-15), 3) := by decide +kernel
theorem dX10_draw_20 : decode cX10_draw 20 = .ok (.iload_n 1, 1) := by decide +kernel
theorem dX10_draw_21 : decode cX10_draw 21 = .ok (.iconst 1, 1) := by decide +kernel
theorem dX10_draw_22 : decode cX10_draw 22 = .ok (.isub, 1) := by decide +kernel
theorem dX10_draw_23 : decode cX10_draw 23 = .ok (.istore_n 2, 1) := by decide +kernel
theorem dX10_draw_24 : decode cX10_draw 24 = .ok (.iload_n 2, 1) := by decide +kernel
theorem dX10_draw_25 : decode cX10_draw 25 = .ok (.iconst 1, 1) := by decide +kernel
theorem dX10_draw_26 : decode cX10_draw 26 = .ok (.if_icmp .lt 67, 3) := by decide +kernel
theorem dX10_draw_29 : decode cX10_draw 29 = .ok (.aload_n 0, 1) := by decide +kernel
theorem dX10_draw_30 : decode cX10_draw 30 = .ok (.aload_n 0, 1) := by decide +kernel
theorem dX10_draw_31 : decode cX10_draw 31 = .ok (.getfield 15, 3) := by decide +kernel
theorem dX10_draw_34 : decode cX10_draw 34 = .ok (.ldc 35, 2) := by decide +kernel
theorem dX10_draw_36 : decode cX10_draw 36 = .ok (.imul, 1) := by decide +kernel
theorem dX10_draw_37 : decode cX10_draw 37 = .ok (.sipush 12345, 3) := by decide +kernel
theorem dX10_draw_40 : decode cX10_draw 40 = .ok (.iadd, 1) := by decide +kernel
theorem dX10_draw_41 : decode cX10_draw 41 = .ok (.ldc 36, 2) := by decide +kernel
theorem dX10_draw_43 : decode cX10_draw 43 = .ok (.iand, 1) := by decide +kernel
theorem dX10_draw_44 : decode cX10_draw 44 = .ok (.putfield 15, 3) := by decide +kernel
theorem dX10_draw_47 : decode cX10_draw 47 = .ok (.aload_n 0, 1) := by decide +kernel
theorem dX10_draw_48 : decode cX10_draw 48 = .ok (.getfield 15, 3) := by decide +kernel
theorem dX10_draw_51 : decode cX10_draw 51 = .ok (.ldc 37, 2) := by decide +kernel
theorem dX10_draw_53 : decode cX10_draw 53 = .ok (.idiv, 1) := by decide +kernel
theorem dX10_draw_54 : decode cX10_draw 54 = .ok (.iload_n 2, 1) := by decide +kernel
theorem dX10_draw_55 : decode cX10_draw 55 = .ok (.iconst 1, 1) := by decide +kernel
theorem dX10_draw_56 : decode cX10_draw 56 = .ok (.iadd, 1) := by decide +kernel
theorem dX10_draw_57 : decode cX10_draw 57 = .ok (.irem, 1) := by decide +kernel
theorem dX10_draw_58 : decode cX10_draw 58 = .ok (.istore_n 3, 1) := by decide +kernel
theorem dX10_draw_59 : decode cX10_draw 59 = .ok (.aload_n 0, 1) := by decide +kernel
theorem dX10_draw_60 : decode cX10_draw 60 = .ok (.getfield 9, 3) := by decide +kernel
theorem dX10_draw_63 : decode cX10_draw 63 = .ok (.iload_n 2, 1) := by decide +kernel
theorem dX10_draw_64 : decode cX10_draw 64 = .ok (.iaload, 1) := by decide +kernel
theorem dX10_draw_65 : decode cX10_draw 65 = .ok (.istore 4, 2) := by decide +kernel
theorem dX10_draw_67 : decode cX10_draw 67 = .ok (.aload_n 0, 1) := by decide +kernel
theorem dX10_draw_68 : decode cX10_draw 68 = .ok (.getfield 9, 3) := by decide +kernel
theorem dX10_draw_71 : decode cX10_draw 71 = .ok (.iload_n 2, 1) := by decide +kernel
theorem dX10_draw_72 : decode cX10_draw 72 = .ok (.aload_n 0, 1) := by decide +kernel
theorem dX10_draw_73 : decode cX10_draw 73 = .ok (.getfield 9, 3) := by decide +kernel
theorem dX10_draw_76 : decode cX10_draw 76 = .ok (.iload_n 3, 1) := by decide +kernel
theorem dX10_draw_77 : decode cX10_draw 77 = .ok (.iaload, 1) := by decide +kernel
theorem dX10_draw_78 : decode cX10_draw 78 = .ok (.iastore, 1) := by decide +kernel
theorem dX10_draw_79 : decode cX10_draw 79 = .ok (.aload_n 0, 1) := by decide +kernel
theorem dX10_draw_80 : decode cX10_draw 80 = .ok (.getfield 9, 3) := by decide +kernel
theorem dX10_draw_83 : decode cX10_draw 83 = .ok (.iload_n 3, 1) := by decide +kernel
theorem dX10_draw_84 : decode cX10_draw 84 = .ok (.iload 4, 2) := by decide +kernel
theorem dX10_draw_86 : decode cX10_draw 86 = .ok (.iastore, 1) := by decide +kernel
theorem dX10_draw_87 : decode cX10_draw 87 = .ok (.iinc 2 (-1), 3) := by decide +kernel
theorem dX10_draw_90 : decode cX10_draw 90 = .ok (.goto (-66), 3) := by decide +kernel
theorem dX10_draw_93 : decode cX10_draw 93 = .ok (.aload_n 0, 1) := by decide +kernel
theorem dX10_draw_94 : decode cX10_draw 94 = .ok (.iload_n 1, 1) := by decide +kernel
theorem dX10_draw_95 : decode cX10_draw 95 = .ok (.putfield 19, 3) := by decide +kernel
theorem dX10_draw_98 : decode cX10_draw 98 = .ok (.aload_n 0, 1) := by decide +kernel
theorem dX10_draw_99 : decode cX10_draw 99 = .ok (.iconst 0, 1) := by decide +kernel
theorem dX10_draw_100 : decode cX10_draw 100 = .ok (.putfield 22, 3) := by decide +kernel
theorem dX10_draw_103 : decode cX10_draw 103 = .ok (.return_, 1) := by decide +kernel
set_option maxRecDepth 20000 in
theorem ggX11_init_X2_init : GoodIn wsX11_init wsX2_init := goodIn_r _ [31, 32, 2, 3, 33, 34, 35, 36, 37, 38, 39, 67, 68, 69, 70, 71, 72, 73] (by decide +kernel) (by decide +kernel)
set_option maxRecDepth 20000 in
theorem gX11_init_X2_init : GoodIn wsX11_init (wsX2_init) := ggX11_init_X2_init
set_option maxRecDepth 20000 in
theorem ggX11_init_X7_init : GoodIn wsX11_init wsX7_init := goodIn_r _ [42, 43, 2, 3, 44, 45, 46, 86, 87] (by decide +kernel) (by decide +kernel)
set_option maxRecDepth 20000 in
theorem gX11_init_X7_init : GoodIn wsX11_init (wsX7_init) := ggX11_init_X7_init
set_option maxRecDepth 20000 in
theorem ggX11_init_X5_init : GoodIn wsX11_init wsX5_init := goodIn_r _ [49, 50, 2, 3, 51, 52, 88, 89] (by decide +kernel) (by decide +kernel)
set_option maxRecDepth 20000 in
theorem gX11_init_X5_init : GoodIn wsX11_init (wsX5_init) := ggX11_init_X5_init
set_option maxRecDepth 20000 in
theorem ggX11_init_X10_init : GoodIn wsX11_init wsX10_init := goodIn_r _ [55, 56, 2, 3, 37, 57, 58, 90, 91, 92, 93] (by decide +kernel) (by decide +kernel)
set_option maxRecDepth 20000 in
theorem gX11_init_X10_init : GoodIn wsX11_init (wsX10_init) := ggX11_init_X10_init
set_option maxRecDepth 20000 in
theorem ggX11_init_X4_init : GoodIn wsX11_init wsX4_init := goodIn_r _ [61, 62, 2, 3, 37, 63, 64, 65, 66, 94, 95, 96, 97, 98, 99, 100, 101] (by decide +kernel) (by decide +kernel)
set_option maxRecDepth 20000 in
theorem gX11_init_X4_init : GoodIn wsX11_init (wsX4_init) := ggX11_init_X4_init
theorem dX11_init_0 : decode cX11_init 0 = .ok (.aload_n 0, 1) := by decide +kernel
theorem dX11_init_1 : decode cX11_init 1 = .ok (.invokespecial 1, 3) := by decide +kernel
theorem dX11_init_4 : decode cX11_init 4 = .ok (.aload_n 0, 1) := by decide +kernel
theorem dX11_init_5 : decode cX11_init 5 = .ok (.new 7, 3) := by decide +kernel
theorem dX11_init_8 : decode cX11_init 8 = .ok (.dup, 1) := by decide +kernel
theorem dX11_init_9 : decode cX11_init 9 = .ok (.invokespecial 9, 3) := by decide +kernel
theorem dX11_init_12 : decode cX11_init 12 = .ok (.putfield 10, 3) := by decide +kernel
theorem dX11_init_15 : decode cX11_init 15 = .ok (.aload_n 0, 1) := by decide +kernel
theorem dX11_init_16 : decode cX11_init 16 = .ok (.new 16, 3) := by decide +kernel
theorem dX11_init_19 : decode cX11_init 19 = .ok (.dup, 1) := by decide +kernel
theorem dX11_init_20 : decode cX11_init 20 = .ok (.invokespecial 18, 3) := by decide +kernel
theorem dX11_init_23 : decode cX11_init 23 = .ok (.putfield 19, 3) := by decide +kernel
theorem dX11_init_26 : decode cX11_init 26 = .ok (.aload_n 0, 1) := by decide +kernel
theorem dX11_init_27 : decode cX11_init 27 = .ok (.new 23, 3) := by decide +kernel
theorem dX11_init_30 : decode cX11_init 30 = .ok (.dup, 1) := by decide +kernel
theorem dX11_init_31 : decode cX11_init 31 = .ok (.invokespecial 25, 3) := by decide +kernel
theorem dX11_init_34 : decode cX11_init 34 = .ok (.putfield 26, 3) := by decide +kernel
theorem dX11_init_37 : decode cX11_init 37 = .ok (.aload_n 0, 1) := by decide +kernel
theorem dX11_init_38 : decode cX11_init 38 = .ok (.new 30, 3) := by decide +kernel
theorem dX11_init_41 : decode cX11_init 41 = .ok (.dup, 1) := by decide +kernel
theorem dX11_init_42 : decode cX11_init 42 = .ok (.invokespecial 32, 3) := by decide +kernel
theorem dX11_init_45 : decode cX11_init 45 = .ok (.putfield 33, 3) := by decide +kernel
theorem dX11_init_48 : decode cX11_init 48 = .ok (.aload_n 0, 1) := by decide +kernel
theorem dX11_init_49 : decode cX11_init 49 = .ok (.new 37, 3) := by decide +kernel
theorem dX11_init_52 : decode cX11_init 52 = .ok (.dup, 1) := by decide +kernel
theorem dX11_init_53 : decode cX11_init 53 = .ok (.invokespecial 39, 3) := by decide +kernel
theorem dX11_init_56 : decode cX11_init 56 = .ok (.putfield 40, 3) := by decide +kernel
theorem dX11_init_59 : decode cX11_init 59 = .ok (.aload_n 0, 1) := by decide +kernel
theorem dX11_init_60 : decode cX11_init 60 = .ok (.bipush 8, 2) := by decide +kernel
theorem dX11_init_62 : decode cX11_init 62 = .ok (.anewarray 44, 3) := by decide +kernel
theorem dX11_init_65 : decode cX11_init 65 = .ok (.putfield 46, 3) := by decide +kernel
theorem dX11_init_68 : decode cX11_init 68 = .ok (.aload_n 0, 1) := by decide +kernel
theorem dX11_init_69 : decode cX11_init 69 = .ok (.bipush 16, 2) := by decide +kernel
theorem dX11_init_71 : decode cX11_init 71 = .ok (.putfield 50, 3) := by decide +kernel
theorem dX11_init_74 : decode cX11_init 74 = .ok (.aload_n 0, 1) := by decide +kernel
theorem dX11_init_75 : decode cX11_init 75 = .ok (.iconst 1, 1) := by decide +kernel
theorem dX11_init_76 : decode cX11_init 76 = .ok (.putfield 54, 3) := by decide +kernel
theorem dX11_init_79 : decode cX11_init 79 = .ok (.aload_n 0, 1) := by decide +kernel
theorem dX11_init_80 : decode cX11_init 80 = .ok (.bipush 12, 2) := by decide +kernel
theorem dX11_init_82 : decode cX11_init 82 = .ok (.putfield 57, 3) := by decide +kernel
theorem dX11_init_85 : decode cX11_init 85 = .ok (.return_, 1) := by decide +kernel
set_option maxRecDepth 20000 in
theorem ggX11_go_X11_isOutside : GoodIn wsX11_go wsX11_isOutside := goodIn_r _ [7] (by decide +kernel) (by decide +kernel)
set_option maxRecDepth 20000 in
theorem gX11_go_X11_isOutside : GoodIn wsX11_go (va_wsS RX11 60 yX11_isOutside wsX11_isOutside) := goodIn_app (goodIn_of _ (by decide +kernel)) ggX11_go_X11_isOutside
set_option maxRecDepth 20000 in
theorem ggX11_go_X11_weekNow : GoodIn wsX11_go wsX11_weekNow := goodIn_r _ [11, 1, 45, 46, 47, 48, 49, 50, 51, 52, 53, 54, 55, 56] (by decide +kernel) (by decide +kernel)
set_option maxRecDepth 20000 in
theorem gX11_go_X11_weekNow : GoodIn wsX11_go (wsV RX11 68 RX11 yX11_weekNow wsX11_weekNow) := goodIn_app (goodIn_of _ (by decide +kernel)) ggX11_go_X11_weekNow
set_option maxRecDepth 20000 in
theorem ggX11_go_X4_endWeek : GoodIn wsX11_go wsX4_endWeek := goodIn_r _ [16, 17, 18, 19, 20, 21, 22, 23, 24, 25, 26, 15, 27, 28, 29, 57, 58, 59, 60, 61, 62, 63, 64] (by decide +kernel) (by decide +kernel)
set_option maxRecDepth 20000 in
theorem gX11_go_X4_endWeek : GoodIn wsX11_go (wsV RX11 72 RX4 yX4_endWeek wsX4_endWeek) := goodIn_app (goodIn_of _ (by decide +kernel)) ggX11_go_X4_endWeek
set_option maxRecDepth 20000 in
theorem ggX11_go_X4_beginWeek : GoodIn wsX11_go wsX4_beginWeek := goodIn_r _ [33, 18, 34, 35, 36, 37, 38, 15, 39, 40, 41, 42, 43, 22, 44, 57, 58, 59, 60, 61, 62, 63, 64] (by decide +kernel) (by decide +kernel)
set_option maxRecDepth 20000 in
theorem gX11_go_X4_beginWeek : GoodIn wsX11_go (wsV RX11 75 RX4 yX4_beginWeek wsX4_beginWeek) := goodIn_app (goodIn_of _ (by decide +kernel)) ggX11_go_X4_beginWeek
theorem dX11_go_0 : decode cX11_go 0 = .ok (.iload_n 1, 1) := by decide +kernel
theorem dX11_go_1 : decode cX11_go 1 = .ok (.iconst 1, 1) := by decide +kernel
theorem dX11_go_2 : decode cX11_go 2 = .ok (.sipush 5000, 3) := by decide +kernel
theorem dX11_go_5 : decode cX11_go 5 = .ok (.invokestatic 60, 3) := by decide +kernel
theorem dX11_go_8 : decode cX11_go 8 = .ok (.ifCond .eq 6, 3) := by decide +kernel
theorem dX11_go_11 : decode cX11_go 11 = .ok (.bipush (-2), 2) := by decide +kernel
theorem dX11_go_13 : decode cX11_go 13 = .ok (.ireturn, 1) := by decide +kernel
theorem dX11_go_14 : decode cX11_go 14 = .ok (.aload_n 0, 1) := by decide +kernel
theorem dX11_go_15 : decode cX11_go 15 = .ok (.getfield 64, 3) := by decide +kernel
theorem dX11_go_18 : decode cX11_go 18 = .ok (.iload_n 1, 1) := by decide +kernel
theorem dX11_go_19 : decode cX11_go 19 = .ok (.iadd, 1) := by decide +kernel
theorem dX11_go_20 : decode cX11_go 20 = .ok (.istore_n 2, 1) := by decide +kernel
theorem dX11_go_21 : decode cX11_go 21 = .ok (.iload_n 2, 1) := by decide +kernel
theorem dX11_go_22 : decode cX11_go 22 = .ok (.ldc 67, 2) := by decide +kernel
theorem dX11_go_24 : decode cX11_go 24 = .ok (.if_icmp .lt 6, 3) := by decide +kernel
theorem dX11_go_27 : decode cX11_go 27 = .ok (.bipush (-3), 2) := by decide +kernel
theorem dX11_go_29 : decode cX11_go 29 = .ok (.ireturn, 1) := by decide +kernel
theorem dX11_go_30 : decode cX11_go 30 = .ok (.iload_n 2, 1) := by decide +kernel
theorem dX11_go_31 : decode cX11_go 31 = .ok (.sipush 168, 3) := by decide +kernel
theorem dX11_go_34 : decode cX11_go 34 = .ok (.idiv, 1) := by decide +kernel
theorem dX11_go_35 : decode cX11_go 35 = .ok (.istore_n 3, 1) := by decide +kernel
theorem dX11_go_36 : decode cX11_go 36 = .ok (.aload_n 0, 1) := by decide +kernel
theorem dX11_go_37 : decode cX11_go 37 = .ok (.invokevirtual 68, 3) := by decide +kernel
theorem dX11_go_40 : decode cX11_go 40 = .ok (.iconst 1, 1) := by decide +kernel
theorem dX11_go_41 : decode cX11_go 41 = .ok (.iadd, 1) := by decide +kernel
theorem dX11_go_42 : decode cX11_go 42 = .ok (.istore 4, 2) := by decide +kernel
theorem dX11_go_44 : decode cX11_go 44 = .ok (.iload 4, 2) := by decide +kernel
theorem dX11_go_46 : decode cX11_go 46 = .ok (.iload_n 3, 1) := by decide +kernel
theorem dX11_go_47 : decode cX11_go 47 = .ok (.if_icmp .gt 25, 3) := by decide +kernel
theorem dX11_go_50 : decode cX11_go 50 = .ok (.aload_n 0, 1) := by decide +kernel
theorem dX11_go_51 : decode cX11_go 51 = .ok (.getfield 40, 3) := by decide +kernel
theorem dX11_go_54 : decode cX11_go 54 = .ok (.invokevirtual 72, 3) := by decide +kernel
theorem dX11_go_57 : decode cX11_go 57 = .ok (.aload_n 0, 1) := by decide +kernel
theorem dX11_go_58 : decode cX11_go 58 = .ok (.getfield 40, 3) := by decide +kernel
theorem dX11_go_61 : decode cX11_go 61 = .ok (.iload 4, 2) := by decide +kernel
theorem dX11_go_63 : decode cX11_go 63 = .ok (.invokevirtual 75, 3) := by decide +kernel
theorem dX11_go_66 : decode cX11_go 66 = .ok (.iinc 4 1, 3) := by decide +kernel
theorem dX11_go_69 : decode cX11_go 69 = .ok (.goto (-25), 3) := by decide +kernel
theorem dX11_go_72 : decode cX11_go 72 = .ok (.aload_n 0, 1) := by decide +kernel
theorem dX11_go_73 : decode cX11_go 73 = .ok (.iload_n 2, 1) := by decide +kernel
theorem dX11_go_74 : decode cX11_go 74 = .ok (.putfield 64, 3) := by decide +kernel
theorem dX11_go_77 : decode cX11_go 77 = .ok (.iload_n 3, 1) := by decide +kernel
theorem dX11_go_78 : decode cX11_go 78 = .ok (.ireturn, 1) := by decide +kernel
set_option maxRecDepth 20000 in
theorem ggX11_baker_X0_init : GoodIn wsX11_baker wsX0_init := goodIn_r _ [8, 9, 10, 11] (by decide +kernel) (by decide +kernel)
set_option maxRecDepth 20000 in
theorem gX11_baker_X0_init_n82 : GoodIn wsX11_baker (wsX0_init) := ggX11_baker_X0_init
set_option maxRecDepth 20000 in
theorem ggX11_baker_X10_dropRow : GoodIn wsX11_baker wsX10_dropRow := goodIn_r _ [16, 17, 18, 39, 40, 41, 42] (by decide +kernel) (by decide +kernel)
set_option maxRecDepth 20000 in
theorem gX11_baker_X10_dropRow : GoodIn wsX11_baker (wsV RX11 83 RX10 yX10_dropRow wsX10_dropRow) := goodIn_app (goodIn_of _ (by decide +kernel)) ggX11_baker_X10_dropRow
theorem dX11_baker_0 : decode cX11_baker 0 = .ok (.aload_n 0, 1) := by decide +kernel
theorem dX11_baker_1 : decode cX11_baker 1 = .ok (.getfield 79, 3) := by decide +kernel
theorem dX11_baker_4 : decode cX11_baker 4 = .ok (.bipush 8, 2) := by decide +kernel
theorem dX11_baker_6 : decode cX11_baker 6 = .ok (.if_icmp .lt 6, 3) := by decide +kernel
theorem dX11_baker_9 : decode cX11_baker 9 = .ok (.bipush (-4), 2) := by decide +kernel
theorem dX11_baker_11 : decode cX11_baker 11 = .ok (.ireturn, 1) := by decide +kernel
theorem dX11_baker_12 : decode cX11_baker 12 = .ok (.aload_n 0, 1) := by decide +kernel
theorem dX11_baker_13 : decode cX11_baker 13 = .ok (.getfield 46, 3) := by decide +kernel
theorem dX11_baker_16 : decode cX11_baker 16 = .ok (.aload_n 0, 1) := by decide +kernel
theorem dX11_baker_17 : decode cX11_baker 17 = .ok (.getfield 79, 3) := by decide +kernel
theorem dX11_baker_20 : decode cX11_baker 20 = .ok (.new 44, 3) := by decide +kernel
theorem dX11_baker_23 : decode cX11_baker 23 = .ok (.dup, 1) := by decide +kernel
theorem dX11_baker_24 : decode cX11_baker 24 = .ok (.invokespecial 82, 3) := by decide +kernel
theorem dX11_baker_27 : decode cX11_baker 27 = .ok (.aastore, 1) := by decide +kernel
theorem dX11_baker_28 : decode cX11_baker 28 = .ok (.aload_n 0, 1) := by decide +kernel
theorem dX11_baker_29 : decode cX11_baker 29 = .ok (.dup, 1) := by decide +kernel
theorem dX11_baker_30 : decode cX11_baker 30 = .ok (.getfield 79, 3) := by decide +kernel
theorem dX11_baker_33 : decode cX11_baker 33 = .ok (.iconst 1, 1) := by decide +kernel
theorem dX11_baker_34 : decode cX11_baker 34 = .ok (.iadd, 1) := by decide +kernel
theorem dX11_baker_35 : decode cX11_baker 35 = .ok (.putfield 79, 3) := by decide +kernel
theorem dX11_baker_38 : decode cX11_baker 38 = .ok (.aload_n 0, 1) := by decide +kernel
theorem dX11_baker_39 : decode cX11_baker 39 = .ok (.getfield 33, 3) := by decide +kernel
theorem dX11_baker_42 : decode cX11_baker 42 = .ok (.invokevirtual 83, 3) := by decide +kernel
theorem dX11_baker_45 : decode cX11_baker 45 = .ok (.aload_n 0, 1) := by decide +kernel
theorem dX11_baker_46 : decode cX11_baker 46 = .ok (.getfield 79, 3) := by decide +kernel
theorem dX11_baker_49 : decode cX11_baker 49 = .ok (.iconst 1, 1) := by decide +kernel
theorem dX11_baker_50 : decode cX11_baker 50 = .ok (.isub, 1) := by decide +kernel
theorem dX11_baker_51 : decode cX11_baker 51 = .ok (.ireturn, 1) := by decide +kernel
set_option maxRecDepth 20000 in
theorem ggX11_buy_X11_bakerAt : GoodIn wsX11_buy wsX11_bakerAt := goodIn_r _ [16, 17, 18, 64, 65, 66, 67, 68, 69, 70, 71, 72, 73, 74, 75] (by decide +kernel) (by decide +kernel)
set_option maxRecDepth 20000 in
theorem gX11_buy_X11_bakerAt : GoodIn wsX11_buy (wsV RX11 86 RX11 yX11_bakerAt wsX11_bakerAt) := goodIn_app (goodIn_of _ (by decide +kernel)) ggX11_buy_X11_bakerAt
set_option maxRecDepth 20000 in
theorem ggX11_buy_X11_isOutside : GoodIn wsX11_buy wsX11_isOutside := goodIn_r _ [21] (by decide +kernel) (by decide +kernel)
set_option maxRecDepth 20000 in
theorem gX11_buy_X11_isOutside : GoodIn wsX11_buy (va_wsS RX11 60 yX11_isOutside wsX11_isOutside) := goodIn_app (goodIn_of _ (by decide +kernel)) ggX11_buy_X11_isOutside
set_option maxRecDepth 20000 in
theorem ggX11_buy_X2_isFull : GoodIn wsX11_buy wsX2_isFull := goodIn_r _ [26, 27, 84, 85, 86, 87, 88, 89, 90] (by decide +kernel) (by decide +kernel)
set_option maxRecDepth 20000 in
theorem gX11_buy_X2_isFull : GoodIn wsX11_buy (wsV RX11 91 RX2 yX2_isFull wsX2_isFull) := goodIn_app (goodIn_of _ (by decide +kernel)) ggX11_buy_X2_isFull
set_option maxRecDepth 20000 in
theorem ggX11_buy_X6_init : GoodIn wsX11_buy wsX6_init := goodIn_r _ [30, 31, 32, 33, 34, 35, 36, 37, 38, 39, 40, 41, 42, 43, 76, 77, 78, 79, 80, 81, 82, 83, 99, 100, 101, 102, 103, 104, 105, 106, 107, 108, 109, 110, 111, 112, 113, 114, 115, 116, 117] (by decide +kernel) (by decide +kernel)
set_option maxRecDepth 20000 in
theorem gX11_buy_X6_init : GoodIn wsX11_buy (wsX6_init) := ggX11_buy_X6_init
set_option maxRecDepth 20000 in
theorem ggX11_buy_X2_enter : GoodIn wsX11_buy wsX2_enter := goodIn_r _ [47, 48, 27, 49, 23, 24, 25, 26, 84, 85, 86, 87, 88, 89, 90] (by decide +kernel) (by decide +kernel)
set_option maxRecDepth 20000 in
theorem gX11_buy_X2_enter : GoodIn wsX11_buy (wsV RX11 103 RX2 yX2_enter wsX2_enter) := goodIn_app (goodIn_of _ (by decide +kernel)) ggX11_buy_X2_enter
set_option maxRecDepth 20000 in
theorem ggX11_buy_X7_note : GoodIn wsX11_buy wsX7_note := goodIn_r _ [54, 55, 56, 57, 58, 59, 60, 61, 62, 35, 63, 42, 118, 119, 76, 77, 78, 79, 80, 81, 82, 83, 99, 100, 101, 102, 103, 104, 105, 106, 107, 108, 109, 110, 111, 112, 113, 114, 115, 116, 117] (by decide +kernel) (by decide +kernel)
set_option maxRecDepth 20000 in
theorem gX11_buy_X7_note : GoodIn wsX11_buy (wsV RX11 107 RX7 yX7_note wsX7_note) := goodIn_app (goodIn_of _ (by decide +kernel)) ggX11_buy_X7_note
theorem dX11_buy_0 : decode cX11_buy 0 = .ok (.aload_n 0, 1) := by decide +kernel
theorem dX11_buy_1 : decode cX11_buy 1 = .ok (.iload_n 1, 1) := by decide +kernel
theorem dX11_buy_2 : decode cX11_buy 2 = .ok (.invokevirtual 86, 3) := by decide +kernel
theorem dX11_buy_5 : decode cX11_buy 5 = .ok (.astore 4, 2) := by decide +kernel
theorem dX11_buy_7 : decode cX11_buy 7 = .ok (.aload 4, 2) := by decide +kernel
theorem dX11_buy_9 : decode cX11_buy 9 = .ok (.ifnonnull 5, 3) := by decide +kernel
theorem dX11_buy_12 : decode cX11_buy 12 = .ok (.iconst (-1), 1) := by decide +kernel
theorem dX11_buy_13 : decode cX11_buy 13 = .ok (.ireturn, 1) := by decide +kernel
theorem dX11_buy_14 : decode cX11_buy 14 = .ok (.iload_n 2, 1) := by decide +kernel
theorem dX11_buy_15 : decode cX11_buy 15 = .ok (.iconst 1, 1) := by decide +kernel
theorem dX11_buy_16 : decode cX11_buy 16 = .ok (.ldc 90, 2) := by decide +kernel
theorem dX11_buy_18 : decode cX11_buy 18 = .ok (.invokestatic 60, 3) := by decide +kernel
theorem dX11_buy_21 : decode cX11_buy 21 = .ok (.ifCond .ne 14, 3) := by decide +kernel
theorem dX11_buy_24 : decode cX11_buy 24 = .ok (.iload_n 3, 1) := by decide +kernel
theorem dX11_buy_25 : decode cX11_buy 25 = .ok (.iconst 1, 1) := by decide +kernel
theorem dX11_buy_26 : decode cX11_buy 26 = .ok (.sipush 1000, 3) := by decide +kernel
theorem dX11_buy_29 : decode cX11_buy 29 = .ok (.invokestatic 60, 3) := by decide +kernel
theorem dX11_buy_32 : decode cX11_buy 32 = .ok (.ifCond .eq 6, 3) := by decide +kernel
theorem dX11_buy_35 : decode cX11_buy 35 = .ok (.bipush (-2), 2) := by decide +kernel
theorem dX11_buy_37 : decode cX11_buy 37 = .ok (.ireturn, 1) := by decide +kernel
theorem dX11_buy_38 : decode cX11_buy 38 = .ok (.aload_n 0, 1) := by decide +kernel
theorem dX11_buy_39 : decode cX11_buy 39 = .ok (.getfield 10, 3) := by decide +kernel
theorem dX11_buy_42 : decode cX11_buy 42 = .ok (.invokevirtual 91, 3) := by decide +kernel
theorem dX11_buy_45 : decode cX11_buy 45 = .ok (.ifCond .eq 6, 3) := by decide +kernel
theorem dX11_buy_48 : decode cX11_buy 48 = .ok (.bipush (-4), 2) := by decide +kernel
theorem dX11_buy_50 : decode cX11_buy 50 = .ok (.ireturn, 1) := by decide +kernel
theorem dX11_buy_51 : decode cX11_buy 51 = .ok (.new 95, 3) := by decide +kernel
theorem dX11_buy_54 : decode cX11_buy 54 = .ok (.dup, 1) := by decide +kernel
theorem dX11_buy_55 : decode cX11_buy 55 = .ok (.aload_n 0, 1) := by decide +kernel
theorem dX11_buy_56 : decode cX11_buy 56 = .ok (.getfield 10, 3) := by decide +kernel
theorem dX11_buy_59 : decode cX11_buy 59 = .ok (.getfield 97, 3) := by decide +kernel
theorem dX11_buy_62 : decode cX11_buy 62 = .ok (.aload_n 0, 1) := by decide +kernel
theorem dX11_buy_63 : decode cX11_buy 63 = .ok (.getfield 64, 3) := by decide +kernel
theorem dX11_buy_66 : decode cX11_buy 66 = .ok (.iload_n 1, 1) := by decide +kernel
theorem dX11_buy_67 : decode cX11_buy 67 = .ok (.iload_n 2, 1) := by decide +kernel
theorem dX11_buy_68 : decode cX11_buy 68 = .ok (.iload_n 3, 1) := by decide +kernel
theorem dX11_buy_69 : decode cX11_buy 69 = .ok (.invokespecial 100, 3) := by decide +kernel
theorem dX11_buy_72 : decode cX11_buy 72 = .ok (.astore 5, 2) := by decide +kernel
theorem dX11_buy_74 : decode cX11_buy 74 = .ok (.aload_n 0, 1) := by decide +kernel
theorem dX11_buy_75 : decode cX11_buy 75 = .ok (.getfield 10, 3) := by decide +kernel
theorem dX11_buy_78 : decode cX11_buy 78 = .ok (.aload 5, 2) := by decide +kernel
theorem dX11_buy_80 : decode cX11_buy 80 = .ok (.invokevirtual 103, 3) := by decide +kernel
theorem dX11_buy_83 : decode cX11_buy 83 = .ok (.aload_n 0, 1) := by decide +kernel
theorem dX11_buy_84 : decode cX11_buy 84 = .ok (.getfield 19, 3) := by decide +kernel
theorem dX11_buy_87 : decode cX11_buy 87 = .ok (.aload 5, 2) := by decide +kernel
theorem dX11_buy_89 : decode cX11_buy 89 = .ok (.invokevirtual 107, 3) := by decide +kernel
theorem dX11_buy_92 : decode cX11_buy 92 = .ok (.aload 4, 2) := by decide +kernel
theorem dX11_buy_94 : decode cX11_buy 94 = .ok (.dup, 1) := by decide +kernel
theorem dX11_buy_95 : decode cX11_buy 95 = .ok (.getfield 111, 3) := by decide +kernel
theorem dX11_buy_98 : decode cX11_buy 98 = .ok (.iconst 1, 1) := by decide +kernel
theorem dX11_buy_99 : decode cX11_buy 99 = .ok (.iadd, 1) := by decide +kernel
theorem dX11_buy_100 : decode cX11_buy 100 = .ok (.putfield 111, 3) := by decide +kernel
theorem dX11_buy_103 : decode cX11_buy 103 = .ok (.aload 5, 2) := by decide +kernel
theorem dX11_buy_105 : decode cX11_buy 105 = .ok (.getfield 114, 3) := by decide +kernel
theorem dX11_buy_108 : decode cX11_buy 108 = .ok (.ireturn, 1) := by decide +kernel
set_option maxRecDepth 20000 in
theorem ggX11_grind_X2_entryAt : GoodIn wsX11_grind wsX2_entryAt := goodIn_r _ [8, 9, 10, 55, 56, 57, 58, 59, 60, 61] (by decide +kernel) (by decide +kernel)
set_option maxRecDepth 20000 in
theorem gX11_grind_X2_entryAt : GoodIn wsX11_grind (wsV RX11 117 RX2 yX2_entryAt wsX2_entryAt) := goodIn_app (goodIn_of _ (by decide +kernel)) ggX11_grind_X2_entryAt
set_option maxRecDepth 20000 in
theorem ggX11_grind_X11_toMill : GoodIn wsX11_grind wsX11_toMill := goodIn_r _ [15, 16, 17, 3, 18, 1, 19, 20, 21, 22, 23, 24, 25, 7, 26, 27, 28, 29, 30, 31, 14, 32, 33, 34, 35, 36, 37, 38, 39, 40, 41, 42, 43, 44, 45, 46, 47, 48, 49, 50, 51, 52, 53, 54, 62, 63, 64, 65, 66, 67, 68, 69, 70, 71, 72, 73, 74, 75, 76, 77, 78, 79, 80, 81, 82, 83, 84, 85, 86, 87, 88, 55, 56, 57, 58, 59, 60, 61] (by decide +kernel) (by decide +kernel)
set_option maxRecDepth 20000 in
theorem gX11_grind_X11_toMill : GoodIn wsX11_grind (wsV RX11 125 RX11 yX11_toMill wsX11_toMill) := goodIn_app (goodIn_of _ (by decide +kernel)) ggX11_grind_X11_toMill
theorem dX11_grind_0 : decode cX11_grind 0 = .ok (.aload_n 0, 1) := by decide +kernel
theorem dX11_grind_1 : decode cX11_grind 1 = .ok (.getfield 10, 3) := by decide +kernel
theorem dX11_grind_4 : decode cX11_grind 4 = .ok (.iload_n 1, 1) := by decide +kernel
theorem dX11_grind_5 : decode cX11_grind 5 = .ok (.invokevirtual 117, 3) := by decide +kernel
theorem dX11_grind_8 : decode cX11_grind 8 = .ok (.astore_n 2, 1) := by decide +kernel
theorem dX11_grind_9 : decode cX11_grind 9 = .ok (.aload_n 2, 1) := by decide +kernel
theorem dX11_grind_10 : decode cX11_grind 10 = .ok (.ifnonnull 5, 3) := by decide +kernel
theorem dX11_grind_13 : decode cX11_grind 13 = .ok (.iconst (-1), 1) := by decide +kernel
theorem dX11_grind_14 : decode cX11_grind 14 = .ok (.ireturn, 1) := by decide +kernel
theorem dX11_grind_15 : decode cX11_grind 15 = .ok (.aload_n 2, 1) := by decide +kernel
theorem dX11_grind_16 : decode cX11_grind 16 = .ok (.instanceof 95, 3) := by decide +kernel
theorem dX11_grind_19 : decode cX11_grind 19 = .ok (.ifCond .eq 26, 3) := by decide +kernel
theorem dX11_grind_22 : decode cX11_grind 22 = .ok (.aload_n 2, 1) := by decide +kernel
theorem dX11_grind_23 : decode cX11_grind 23 = .ok (.checkcast 95, 3) := by decide +kernel
theorem dX11_grind_26 : decode cX11_grind 26 = .ok (.astore_n 3, 1) := by decide +kernel
theorem dX11_grind_27 : decode cX11_grind 27 = .ok (.aload_n 3, 1) := by decide +kernel
theorem dX11_grind_28 : decode cX11_grind 28 = .ok (.getfield 121, 3) := by decide +kernel
theorem dX11_grind_31 : decode cX11_grind 31 = .ok (.ifCond .eq 8, 3) := by decide +kernel
theorem dX11_grind_34 : decode cX11_grind 34 = .ok (.bipush (-3), 2) := by decide +kernel
theorem dX11_grind_36 : decode cX11_grind 36 = .ok (.goto 8, 3) := by decide +kernel
theorem dX11_grind_39 : decode cX11_grind 39 = .ok (.aload_n 0, 1) := by decide +kernel
theorem dX11_grind_40 : decode cX11_grind 40 = .ok (.aload_n 3, 1) := by decide +kernel
theorem dX11_grind_41 : decode cX11_grind 41 = .ok (.invokevirtual 125, 3) := by decide +kernel
theorem dX11_grind_44 : decode cX11_grind 44 = .ok (.ireturn, 1) := by decide +kernel
theorem dX11_grind_45 : decode cX11_grind 45 = .ok (.bipush (-5), 2) := by decide +kernel
theorem dX11_grind_47 : decode cX11_grind 47 = .ok (.ireturn, 1) := by decide +kernel
set_option maxRecDepth 20000 in
theorem ggX11_dish_X11_isOutside : GoodIn wsX11_dish wsX11_isOutside := goodIn_r _ [5] (by decide +kernel) (by decide +kernel)
set_option maxRecDepth 20000 in
theorem gX11_dish_X11_isOutside : GoodIn wsX11_dish (va_wsS RX11 60 yX11_isOutside wsX11_isOutside) := goodIn_app (goodIn_of _ (by decide +kernel)) ggX11_dish_X11_isOutside
theorem dX11_dish_0 : decode cX11_dish 0 = .ok (.iload_n 1, 1) := by decide +kernel
theorem dX11_dish_1 : decode cX11_dish 1 = .ok (.iconst 2, 1) := by decide +kernel
theorem dX11_dish_2 : decode cX11_dish 2 = .ok (.bipush 100, 2) := by decide +kernel
theorem dX11_dish_4 : decode cX11_dish 4 = .ok (.invokestatic 60, 3) := by decide +kernel
theorem dX11_dish_7 : decode cX11_dish 7 = .ok (.ifCond .eq 6, 3) := by decide +kernel
theorem dX11_dish_10 : decode cX11_dish 10 = .ok (.bipush (-2), 2) := by decide +kernel
theorem dX11_dish_12 : decode cX11_dish 12 = .ok (.ireturn, 1) := by decide +kernel
theorem dX11_dish_13 : decode cX11_dish 13 = .ok (.aload_n 0, 1) := by decide +kernel
theorem dX11_dish_14 : decode cX11_dish 14 = .ok (.getfield 50, 3) := by decide +kernel
theorem dX11_dish_17 : decode cX11_dish 17 = .ok (.istore_n 2, 1) := by decide +kernel
theorem dX11_dish_18 : decode cX11_dish 18 = .ok (.aload_n 0, 1) := by decide +kernel
theorem dX11_dish_19 : decode cX11_dish 19 = .ok (.iload_n 1, 1) := by decide +kernel
theorem dX11_dish_20 : decode cX11_dish 20 = .ok (.putfield 50, 3) := by decide +kernel
theorem dX11_dish_23 : decode cX11_dish 23 = .ok (.iload_n 2, 1) := by decide +kernel
theorem dX11_dish_24 : decode cX11_dish 24 = .ok (.ireturn, 1) := by decide +kernel
set_option maxRecDepth 20000 in
theorem ggX11_price_X11_weekNow : GoodIn wsX11_price wsX11_weekNow := goodIn_r _ [6, 7, 22, 23, 24, 25, 26, 27, 28, 29, 30, 31, 32, 33] (by decide +kernel) (by decide +kernel)
set_option maxRecDepth 20000 in
theorem gX11_price_X11_weekNow : GoodIn wsX11_price (wsV RX11 68 RX11 yX11_weekNow wsX11_weekNow) := goodIn_app (goodIn_of _ (by decide +kernel)) ggX11_price_X11_weekNow
set_option maxRecDepth 20000 in
theorem ggX11_price_X11_isOutside : GoodIn wsX11_price wsX11_isOutside := goodIn_r _ [10] (by decide +kernel) (by decide +kernel)
set_option maxRecDepth 20000 in
theorem gX11_price_X11_isOutside : GoodIn wsX11_price (va_wsS RX11 60 yX11_isOutside wsX11_isOutside) := goodIn_app (goodIn_of _ (by decide +kernel)) ggX11_price_X11_isOutside
set_option maxRecDepth 20000 in
theorem ggX11_price_X7_priceOf : GoodIn wsX11_price wsX7_priceOf := goodIn_r _ [15, 16, 17, 18, 19, 20, 21, 34, 35] (by decide +kernel) (by decide +kernel)
set_option maxRecDepth 20000 in
theorem gX11_price_X7_priceOf : GoodIn wsX11_price (wsV RX11 129 RX7 yX7_priceOf wsX7_priceOf) := goodIn_app (goodIn_of _ (by decide +kernel)) ggX11_price_X7_priceOf
theorem dX11_price_0 : decode cX11_price 0 = .ok (.iload_n 1, 1) := by decide +kernel
theorem dX11_price_1 : decode cX11_price 1 = .ok (.iconst (-1), 1) := by decide +kernel
theorem dX11_price_2 : decode cX11_price 2 = .ok (.aload_n 0, 1) := by decide +kernel
theorem dX11_price_3 : decode cX11_price 3 = .ok (.invokevirtual 68, 3) := by decide +kernel
theorem dX11_price_6 : decode cX11_price 6 = .ok (.invokestatic 60, 3) := by decide +kernel
theorem dX11_price_9 : decode cX11_price 9 = .ok (.ifCond .eq 5, 3) := by decide +kernel
theorem dX11_price_12 : decode cX11_price 12 = .ok (.iconst (-1), 1) := by decide +kernel
theorem dX11_price_13 : decode cX11_price 13 = .ok (.ireturn, 1) := by decide +kernel
theorem dX11_price_14 : decode cX11_price 14 = .ok (.aload_n 0, 1) := by decide +kernel
theorem dX11_price_15 : decode cX11_price 15 = .ok (.getfield 19, 3) := by decide +kernel
theorem dX11_price_18 : decode cX11_price 18 = .ok (.iload_n 1, 1) := by decide +kernel
theorem dX11_price_19 : decode cX11_price 19 = .ok (.invokevirtual 129, 3) := by decide +kernel
theorem dX11_price_22 : decode cX11_price 22 = .ok (.ireturn, 1) := by decide +kernel
set_option maxRecDepth 20000 in
theorem ggX11_text_X11_isOutside : GoodIn wsX11_text wsX11_isOutside := goodIn_r _ [10] (by decide +kernel) (by decide +kernel)
set_option maxRecDepth 20000 in
theorem gX11_text_X11_isOutside : GoodIn wsX11_text (va_wsS RX11 60 yX11_isOutside wsX11_isOutside) := goodIn_app (goodIn_of _ (by decide +kernel)) ggX11_text_X11_isOutside
set_option maxRecDepth 20000 in
theorem ggX11_text_X5_isFull : GoodIn wsX11_text wsX5_isFull := goodIn_r _ [15, 16, 55, 56] (by decide +kernel) (by decide +kernel)
set_option maxRecDepth 20000 in
theorem gX11_text_X5_isFull : GoodIn wsX11_text (wsV RX11 133 RX5 yX5_isFull wsX5_isFull) := goodIn_app (goodIn_of _ (by decide +kernel)) ggX11_text_X5_isFull
set_option maxRecDepth 20000 in
theorem ggX11_text_X9_init : GoodIn wsX11_text wsX9_init := goodIn_r _ [19, 20, 21, 22, 23, 24, 25, 26, 27, 28, 29, 48, 49, 50, 51, 52, 53, 54] (by decide +kernel) (by decide +kernel)
set_option maxRecDepth 20000 in
theorem gX11_text_X9_init : GoodIn wsX11_text (wsX9_init) := ggX11_text_X9_init
set_option maxRecDepth 20000 in
theorem ggX11_text_X5_enact : GoodIn wsX11_text wsX5_enact := goodIn_r _ [33, 34, 16, 35, 12, 13, 14, 15, 55, 56] (by decide +kernel) (by decide +kernel)
set_option maxRecDepth 20000 in
theorem gX11_text_X5_enact : GoodIn wsX11_text (wsV RX11 140 RX5 yX5_enact wsX5_enact) := goodIn_app (goodIn_of _ (by decide +kernel)) ggX11_text_X5_enact
theorem dX11_text_0 : decode cX11_text 0 = .ok (.iload_n 1, 1) := by decide +kernel
theorem dX11_text_1 : decode cX11_text 1 = .ok (.iconst 0, 1) := by decide +kernel
theorem dX11_text_2 : decode cX11_text 2 = .ok (.sipush 199, 3) := by decide +kernel
theorem dX11_text_5 : decode cX11_text 5 = .ok (.invokestatic 60, 3) := by decide +kernel
theorem dX11_text_8 : decode cX11_text 8 = .ok (.ifCond .ne 13, 3) := by decide +kernel
theorem dX11_text_11 : decode cX11_text 11 = .ok (.iload 5, 2) := by decide +kernel
theorem dX11_text_13 : decode cX11_text 13 = .ok (.iconst 0, 1) := by decide +kernel
theorem dX11_text_14 : decode cX11_text 14 = .ok (.iconst 5, 1) := by decide +kernel
theorem dX11_text_15 : decode cX11_text 15 = .ok (.invokestatic 60, 3) := by decide +kernel
theorem dX11_text_18 : decode cX11_text 18 = .ok (.ifCond .eq 6, 3) := by decide +kernel
theorem dX11_text_21 : decode cX11_text 21 = .ok (.bipush (-2), 2) := by decide +kernel
theorem dX11_text_23 : decode cX11_text 23 = .ok (.ireturn, 1) := by decide +kernel
theorem dX11_text_24 : decode cX11_text 24 = .ok (.iload_n 2, 1) := by decide +kernel
theorem dX11_text_25 : decode cX11_text 25 = .ok (.bipush 10, 2) := by decide +kernel
theorem dX11_text_27 : decode cX11_text 27 = .ok (.sipush 300, 3) := by decide +kernel
theorem dX11_text_30 : decode cX11_text 30 = .ok (.invokestatic 60, 3) := by decide +kernel
theorem dX11_text_33 : decode cX11_text 33 = .ok (.ifCond .ne 28, 3) := by decide +kernel
theorem dX11_text_36 : decode cX11_text 36 = .ok (.iload_n 3, 1) := by decide +kernel
theorem dX11_text_37 : decode cX11_text 37 = .ok (.bipush 10, 2) := by decide +kernel
theorem dX11_text_39 : decode cX11_text 39 = .ok (.sipush 300, 3) := by decide +kernel
theorem dX11_text_42 : decode cX11_text 42 = .ok (.invokestatic 60, 3) := by decide +kernel
theorem dX11_text_45 : decode cX11_text 45 = .ok (.ifCond .ne 16, 3) := by decide +kernel
theorem dX11_text_48 : decode cX11_text 48 = .ok (.iload 4, 2) := by decide +kernel
theorem dX11_text_50 : decode cX11_text 50 = .ok (.bipush 10, 2) := by decide +kernel
theorem dX11_text_52 : decode cX11_text 52 = .ok (.sipush 300, 3) := by decide +kernel
theorem dX11_text_55 : decode cX11_text 55 = .ok (.invokestatic 60, 3) := by decide +kernel
theorem dX11_text_58 : decode cX11_text 58 = .ok (.ifCond .eq 6, 3) := by decide +kernel
theorem dX11_text_61 : decode cX11_text 61 = .ok (.bipush (-2), 2) := by decide +kernel
theorem dX11_text_63 : decode cX11_text 63 = .ok (.ireturn, 1) := by decide +kernel
theorem dX11_text_64 : decode cX11_text 64 = .ok (.aload_n 0, 1) := by decide +kernel
theorem dX11_text_65 : decode cX11_text 65 = .ok (.getfield 26, 3) := by decide +kernel
theorem dX11_text_68 : decode cX11_text 68 = .ok (.invokevirtual 133, 3) := by decide +kernel
theorem dX11_text_71 : decode cX11_text 71 = .ok (.ifCond .eq 6, 3) := by decide +kernel
theorem dX11_text_74 : decode cX11_text 74 = .ok (.bipush (-4), 2) := by decide +kernel
theorem dX11_text_76 : decode cX11_text 76 = .ok (.ireturn, 1) := by decide +kernel
theorem dX11_text_77 : decode cX11_text 77 = .ok (.new 134, 3) := by decide +kernel
theorem dX11_text_80 : decode cX11_text 80 = .ok (.dup, 1) := by decide +kernel
theorem dX11_text_81 : decode cX11_text 81 = .ok (.aload_n 0, 1) := by decide +kernel
theorem dX11_text_82 : decode cX11_text 82 = .ok (.getfield 26, 3) := by decide +kernel
theorem dX11_text_85 : decode cX11_text 85 = .ok (.getfield 136, 3) := by decide +kernel
theorem dX11_text_88 : decode cX11_text 88 = .ok (.iload_n 1, 1) := by decide +kernel
theorem dX11_text_89 : decode cX11_text 89 = .ok (.iload_n 2, 1) := by decide +kernel
theorem dX11_text_90 : decode cX11_text 90 = .ok (.iload_n 3, 1) := by decide +kernel
theorem dX11_text_91 : decode cX11_text 91 = .ok (.iload 4, 2) := by decide +kernel
theorem dX11_text_93 : decode cX11_text 93 = .ok (.iload 5, 2) := by decide +kernel
theorem dX11_text_95 : decode cX11_text 95 = .ok (.invokespecial 137, 3) := by decide +kernel
theorem dX11_text_98 : decode cX11_text 98 = .ok (.astore 6, 2) := by decide +kernel
theorem dX11_text_100 : decode cX11_text 100 = .ok (.aload_n 0, 1) := by decide +kernel
theorem dX11_text_101 : decode cX11_text 101 = .ok (.getfield 26, 3) := by decide +kernel
theorem dX11_text_104 : decode cX11_text 104 = .ok (.aload 6, 2) := by decide +kernel
theorem dX11_text_106 : decode cX11_text 106 = .ok (.invokevirtual 140, 3) := by decide +kernel
theorem dX11_text_109 : decode cX11_text 109 = .ok (.aload 6, 2) := by decide +kernel
theorem dX11_text_111 : decode cX11_text 111 = .ok (.getfield 144, 3) := by decide +kernel
theorem dX11_text_114 : decode cX11_text 114 = .ok (.ireturn, 1) := by decide +kernel
set_option maxRecDepth 20000 in
theorem ggX11_step_X5_textAt : GoodIn wsX11_step wsX5_textAt := goodIn_r _ [7, 8, 9, 46, 47] (by decide +kernel) (by decide +kernel)
set_option maxRecDepth 20000 in
theorem gX11_step_X5_textAt : GoodIn wsX11_step (wsV RX11 145 RX5 yX5_textAt wsX5_textAt) := goodIn_app (goodIn_of _ (by decide +kernel)) ggX11_step_X5_textAt
set_option maxRecDepth 20000 in
theorem ggX11_step_X11_isOutside : GoodIn wsX11_step wsX11_isOutside := goodIn_r _ [13] (by decide +kernel) (by decide +kernel)
set_option maxRecDepth 20000 in
theorem gX11_step_X11_isOutside : GoodIn wsX11_step (va_wsS RX11 60 yX11_isOutside wsX11_isOutside) := goodIn_app (goodIn_of _ (by decide +kernel)) ggX11_step_X11_isOutside
set_option maxRecDepth 20000 in
theorem ggX11_step_X9_isFull : GoodIn wsX11_step wsX9_isFull := goodIn_r _ [18, 19, 39, 40, 41, 42, 43, 44, 45] (by decide +kernel) (by decide +kernel)
set_option maxRecDepth 20000 in
theorem gX11_step_X9_isFull : GoodIn wsX11_step (wsV RX11 149 RX9 yX9_isFull wsX9_isFull) := goodIn_app (goodIn_of _ (by decide +kernel)) ggX11_step_X9_isFull
set_option maxRecDepth 20000 in
theorem ggX11_step_X9_addStep : GoodIn wsX11_step wsX9_addStep := goodIn_r _ [23, 24, 19, 25, 26, 15, 16, 17, 18, 39, 40, 41, 42, 43, 44, 45] (by decide +kernel) (by decide +kernel)
set_option maxRecDepth 20000 in
theorem gX11_step_X9_addStep : GoodIn wsX11_step (wsV RX11 150 RX9 yX9_addStep wsX9_addStep) := goodIn_app (goodIn_of _ (by decide +kernel)) ggX11_step_X9_addStep
theorem dX11_step_0 : decode cX11_step 0 = .ok (.aload_n 0, 1) := by decide +kernel
theorem dX11_step_1 : decode cX11_step 1 = .ok (.getfield 26, 3) := by decide +kernel
theorem dX11_step_4 : decode cX11_step 4 = .ok (.iload_n 1, 1) := by decide +kernel
theorem dX11_step_5 : decode cX11_step 5 = .ok (.invokevirtual 145, 3) := by decide +kernel
theorem dX11_step_8 : decode cX11_step 8 = .ok (.astore 4, 2) := by decide +kernel
theorem dX11_step_10 : decode cX11_step 10 = .ok (.aload 4, 2) := by decide +kernel
theorem dX11_step_12 : decode cX11_step 12 = .ok (.ifnonnull 5, 3) := by decide +kernel
theorem dX11_step_15 : decode cX11_step 15 = .ok (.iconst (-1), 1) := by decide +kernel
theorem dX11_step_16 : decode cX11_step 16 = .ok (.ireturn, 1) := by decide +kernel
theorem dX11_step_17 : decode cX11_step 17 = .ok (.iload_n 2, 1) := by decide +kernel
theorem dX11_step_18 : decode cX11_step 18 = .ok (.iconst 0, 1) := by decide +kernel
theorem dX11_step_19 : decode cX11_step 19 = .ok (.sipush 1000, 3) := by decide +kernel
theorem dX11_step_22 : decode cX11_step 22 = .ok (.invokestatic 60, 3) := by decide +kernel
theorem dX11_step_25 : decode cX11_step 25 = .ok (.ifCond .ne 14, 3) := by decide +kernel
theorem dX11_step_28 : decode cX11_step 28 = .ok (.iload_n 3, 1) := by decide +kernel
theorem dX11_step_29 : decode cX11_step 29 = .ok (.iconst 1, 1) := by decide +kernel
end
section
theorem dX11_step_30 : decode cX11_step 30 = .ok (.sipush 1000, 3) := by decide +kernel
theorem dX11_step_33 : decode cX11_step 33 = .ok (.invokestatic 60, 3) := by decide +kernel
theorem dX11_step_36 : decode cX11_step 36 = .ok (.ifCond .eq 6, 3) := by decide +kernel
theorem dX11_step_39 : decode cX11_step 39 = .ok (.bipush (-2), 2) := by decide +kernel
theorem dX11_step_41 : decode cX11_step 41 = .ok (.ireturn, 1) := by decide +kernel
theorem dX11_step_42 : decode cX11_step 42 = .ok (.aload 4, 2) := by decide +kernel
theorem dX11_step_44 : decode cX11_step 44 = .ok (.invokevirtual 149, 3) := by decide +kernel
theorem dX11_step_47 : decode cX11_step 47 = .ok (.ifCond .eq 6, 3) := by decide +kernel
theorem dX11_step_50 : decode cX11_step 50 = .ok (.bipush (-4), 2) := by decide +kernel
theorem dX11_step_52 : decode cX11_step 52 = .ok (.ireturn, 1) := by decide +kernel
theorem dX11_step_53 : decode cX11_step 53 = .ok (.aload 4, 2) := by decide +kernel
theorem dX11_step_55 : decode cX11_step 55 = .ok (.iload_n 2, 1) := by decide +kernel
theorem dX11_step_56 : decode cX11_step 56 = .ok (.iload_n 3, 1) := by decide +kernel
theorem dX11_step_57 : decode cX11_step 57 = .ok (.invokevirtual 150, 3) := by decide +kernel
theorem dX11_step_60 : decode cX11_step 60 = .ok (.aload 4, 2) := by decide +kernel
theorem dX11_step_62 : decode cX11_step 62 = .ok (.getfield 154, 3) := by decide +kernel
theorem dX11_step_65 : decode cX11_step 65 = .ok (.ireturn, 1) := by decide +kernel
set_option maxRecDepth 20000 in
theorem ggX11_inForce_X11_isOutside : GoodIn wsX11_inForce wsX11_isOutside := goodIn_r _ [6] (by decide +kernel) (by decide +kernel)
set_option maxRecDepth 20000 in
theorem gX11_inForce_X11_isOutside : GoodIn wsX11_inForce (va_wsS RX11 60 yX11_isOutside wsX11_isOutside) := goodIn_app (goodIn_of _ (by decide +kernel)) ggX11_inForce_X11_isOutside
set_option maxRecDepth 20000 in
theorem ggX11_inForce_X5_ruling : GoodIn wsX11_inForce wsX5_ruling := goodIn_r _ [11, 12, 13, 14, 34, 35, 27, 28, 29, 30, 31, 32, 33] (by decide +kernel) (by decide +kernel)
set_option maxRecDepth 20000 in
theorem gX11_inForce_X5_ruling : GoodIn wsX11_inForce (wsV RX11 157 RX5 yX5_ruling wsX5_ruling) := goodIn_app (goodIn_of _ (by decide +kernel)) ggX11_inForce_X5_ruling
theorem dX11_inForce_0 : decode cX11_inForce 0 = .ok (.iload_n 1, 1) := by decide +kernel
theorem dX11_inForce_1 : decode cX11_inForce 1 = .ok (.iconst 0, 1) := by decide +kernel
theorem dX11_inForce_2 : decode cX11_inForce 2 = .ok (.sipush 199, 3) := by decide +kernel
theorem dX11_inForce_5 : decode cX11_inForce 5 = .ok (.invokestatic 60, 3) := by decide +kernel
theorem dX11_inForce_8 : decode cX11_inForce 8 = .ok (.ifCond .eq 5, 3) := by decide +kernel
theorem dX11_inForce_11 : decode cX11_inForce 11 = .ok (.iconst (-1), 1) := by decide +kernel
theorem dX11_inForce_12 : decode cX11_inForce 12 = .ok (.ireturn, 1) := by decide +kernel
theorem dX11_inForce_13 : decode cX11_inForce 13 = .ok (.aload_n 0, 1) := by decide +kernel
theorem dX11_inForce_14 : decode cX11_inForce 14 = .ok (.getfield 26, 3) := by decide +kernel
theorem dX11_inForce_17 : decode cX11_inForce 17 = .ok (.iload_n 1, 1) := by decide +kernel
theorem dX11_inForce_18 : decode cX11_inForce 18 = .ok (.invokevirtual 157, 3) := by decide +kernel
theorem dX11_inForce_21 : decode cX11_inForce 21 = .ok (.astore_n 2, 1) := by decide +kernel
theorem dX11_inForce_22 : decode cX11_inForce 22 = .ok (.aload_n 2, 1) := by decide +kernel
theorem dX11_inForce_23 : decode cX11_inForce 23 = .ok (.ifnonnull 8, 3) := by decide +kernel
theorem dX11_inForce_26 : decode cX11_inForce 26 = .ok (.bipush (-6), 2) := by decide +kernel
theorem dX11_inForce_28 : decode cX11_inForce 28 = .ok (.goto 7, 3) := by decide +kernel
theorem dX11_inForce_31 : decode cX11_inForce 31 = .ok (.aload_n 2, 1) := by decide +kernel
theorem dX11_inForce_32 : decode cX11_inForce 32 = .ok (.getfield 144, 3) := by decide +kernel
theorem dX11_inForce_35 : decode cX11_inForce 35 = .ok (.ireturn, 1) := by decide +kernel
set_option maxRecDepth 20000 in
theorem ggX11_due_X11_weekNow : GoodIn wsX11_due wsX11_weekNow := goodIn_r _ [6, 7, 48, 49, 50, 51, 52, 53, 54, 55, 56, 57, 58, 59] (by decide +kernel) (by decide +kernel)
set_option maxRecDepth 20000 in
theorem gX11_due_X11_weekNow : GoodIn wsX11_due (wsV RX11 68 RX11 yX11_weekNow wsX11_weekNow) := goodIn_app (goodIn_of _ (by decide +kernel)) ggX11_due_X11_weekNow
set_option maxRecDepth 20000 in
theorem ggX11_due_X11_isOutside : GoodIn wsX11_due wsX11_isOutside := goodIn_r _ [10] (by decide +kernel) (by decide +kernel)
set_option maxRecDepth 20000 in
theorem gX11_due_X11_isOutside : GoodIn wsX11_due (va_wsS RX11 60 yX11_isOutside wsX11_isOutside) := goodIn_app (goodIn_of _ (by decide +kernel)) ggX11_due_X11_isOutside
set_option maxRecDepth 20000 in
theorem ggX11_due_X5_ruling : GoodIn wsX11_due wsX5_ruling := goodIn_r _ [15, 16, 17, 18, 60, 61, 62, 63, 64, 65, 66, 67, 68] (by decide +kernel) (by decide +kernel)
set_option maxRecDepth 20000 in
theorem gX11_due_X5_ruling : GoodIn wsX11_due (wsV RX11 157 RX5 yX5_ruling wsX5_ruling) := goodIn_app (goodIn_of _ (by decide +kernel)) ggX11_due_X5_ruling
set_option maxRecDepth 20000 in
theorem ggX11_due_X11_dueBy : GoodIn wsX11_due wsX11_dueBy := goodIn_r _ [22, 23, 24, 25, 26, 27, 28, 29, 30, 31, 32, 33, 34, 35, 36, 37, 38, 39, 40, 41, 42, 43, 44, 45, 46, 47, 48, 49, 50, 51, 52, 53, 54, 55, 56, 57, 58, 59, 69, 70, 62, 63, 64, 65, 66, 67, 68] (by decide +kernel) (by decide +kernel)
set_option maxRecDepth 20000 in
theorem gX11_due_X11_dueBy : GoodIn wsX11_due (wsV RX11 160 RX11 yX11_dueBy wsX11_dueBy) := goodIn_app (goodIn_of _ (by decide +kernel)) ggX11_due_X11_dueBy
theorem dX11_due_0 : decode cX11_due 0 = .ok (.iload_n 2, 1) := by decide +kernel
theorem dX11_due_1 : decode cX11_due 1 = .ok (.iconst 0, 1) := by decide +kernel
theorem dX11_due_2 : decode cX11_due 2 = .ok (.aload_n 0, 1) := by decide +kernel
theorem dX11_due_3 : decode cX11_due 3 = .ok (.invokevirtual 68, 3) := by decide +kernel
theorem dX11_due_6 : decode cX11_due 6 = .ok (.invokestatic 60, 3) := by decide +kernel
theorem dX11_due_9 : decode cX11_due 9 = .ok (.ifCond .eq 5, 3) := by decide +kernel
theorem dX11_due_12 : decode cX11_due 12 = .ok (.iconst (-1), 1) := by decide +kernel
theorem dX11_due_13 : decode cX11_due 13 = .ok (.ireturn, 1) := by decide +kernel
theorem dX11_due_14 : decode cX11_due 14 = .ok (.iload_n 1, 1) := by decide +kernel
theorem dX11_due_15 : decode cX11_due 15 = .ok (.iconst 0, 1) := by decide +kernel
theorem dX11_due_16 : decode cX11_due 16 = .ok (.iconst 2, 1) := by decide +kernel
theorem dX11_due_17 : decode cX11_due 17 = .ok (.invokestatic 60, 3) := by decide +kernel
theorem dX11_due_20 : decode cX11_due 20 = .ok (.ifCond .eq 6, 3) := by decide +kernel
theorem dX11_due_23 : decode cX11_due 23 = .ok (.bipush (-2), 2) := by decide +kernel
theorem dX11_due_25 : decode cX11_due 25 = .ok (.ireturn, 1) := by decide +kernel
theorem dX11_due_26 : decode cX11_due 26 = .ok (.aload_n 0, 1) := by decide +kernel
theorem dX11_due_27 : decode cX11_due 27 = .ok (.aload_n 0, 1) := by decide +kernel
theorem dX11_due_28 : decode cX11_due 28 = .ok (.getfield 26, 3) := by decide +kernel
theorem dX11_due_31 : decode cX11_due 31 = .ok (.iload_n 2, 1) := by decide +kernel
theorem dX11_due_32 : decode cX11_due 32 = .ok (.invokevirtual 157, 3) := by decide +kernel
theorem dX11_due_35 : decode cX11_due 35 = .ok (.iload_n 1, 1) := by decide +kernel
theorem dX11_due_36 : decode cX11_due 36 = .ok (.iload_n 2, 1) := by decide +kernel
theorem dX11_due_37 : decode cX11_due 37 = .ok (.invokevirtual 160, 3) := by decide +kernel
theorem dX11_due_40 : decode cX11_due 40 = .ok (.ireturn, 1) := by decide +kernel
set_option maxRecDepth 20000 in
theorem ggX11_bake_X11_bakerAt : GoodIn wsX11_bake wsX11_bakerAt := goodIn_r _ [17, 18, 19, 92, 93, 94, 95, 96, 97, 98, 99, 100, 101, 102, 103] (by decide +kernel) (by decide +kernel)
set_option maxRecDepth 20000 in
theorem gX11_bake_X11_bakerAt : GoodIn wsX11_bake (wsV RX11 86 RX11 yX11_bakerAt wsX11_bakerAt) := goodIn_app (goodIn_of _ (by decide +kernel)) ggX11_bake_X11_bakerAt
set_option maxRecDepth 20000 in
theorem ggX11_bake_X11_isOutside : GoodIn wsX11_bake wsX11_isOutside := goodIn_r _ [22] (by decide +kernel) (by decide +kernel)
set_option maxRecDepth 20000 in
theorem gX11_bake_X11_isOutside : GoodIn wsX11_bake (va_wsS RX11 60 yX11_isOutside wsX11_isOutside) := goodIn_app (goodIn_of _ (by decide +kernel)) ggX11_bake_X11_isOutside
set_option maxRecDepth 20000 in
theorem ggX11_bake_X11_weekNow : GoodIn wsX11_bake wsX11_weekNow := goodIn_r _ [26, 8, 92, 93, 94, 95, 96, 97, 98, 99, 100, 101, 102, 103] (by decide +kernel) (by decide +kernel)
set_option maxRecDepth 20000 in
theorem gX11_bake_X11_weekNow : GoodIn wsX11_bake (wsV RX11 68 RX11 yX11_weekNow wsX11_weekNow) := goodIn_app (goodIn_of _ (by decide +kernel)) ggX11_bake_X11_weekNow
set_option maxRecDepth 20000 in
theorem ggX11_bake_X2_isFull : GoodIn wsX11_bake wsX2_isFull := goodIn_r _ [31, 32, 113, 114, 115, 116, 117, 118, 119] (by decide +kernel) (by decide +kernel)
set_option maxRecDepth 20000 in
theorem gX11_bake_X2_isFull : GoodIn wsX11_bake (wsV RX11 91 RX2 yX2_isFull wsX2_isFull) := goodIn_app (goodIn_of _ (by decide +kernel)) ggX11_bake_X2_isFull
set_option maxRecDepth 20000 in
theorem ggX11_bake_X1_init : GoodIn wsX11_bake wsX1_init := goodIn_r _ [35, 36, 37, 38, 39, 40, 41, 42, 43, 44, 45, 46, 47, 48, 49, 104, 105, 106, 107, 108, 109, 110, 111, 112, 120, 121, 122, 123, 124, 125, 126, 127, 128, 129, 130, 131, 132, 133, 134, 135, 136, 137] (by decide +kernel) (by decide +kernel)
set_option maxRecDepth 20000 in
theorem gX11_bake_X1_init : GoodIn wsX11_bake (wsX1_init) := ggX11_bake_X1_init
set_option maxRecDepth 20000 in
theorem ggX11_bake_X2_enter : GoodIn wsX11_bake wsX2_enter := goodIn_r _ [53, 54, 32, 55, 28, 29, 30, 31, 113, 114, 115, 116, 117, 118, 119] (by decide +kernel) (by decide +kernel)
set_option maxRecDepth 20000 in
theorem gX11_bake_X2_enter : GoodIn wsX11_bake (wsV RX11 103 RX2 yX2_enter wsX2_enter) := goodIn_app (goodIn_of _ (by decide +kernel)) ggX11_bake_X2_enter
set_option maxRecDepth 20000 in
theorem ggX11_bake_X2_takeFlour : GoodIn wsX11_bake wsX2_takeFlour := goodIn_r _ [59, 60, 61, 62, 63, 64, 65, 66, 67, 68, 69, 70, 71, 72, 73, 74, 75, 76, 77, 30, 78, 79, 80, 81, 82, 83, 104, 105, 106, 107, 108, 109, 110, 111, 112, 113, 114, 115, 116, 117, 118, 119, 120, 121, 122, 123, 124, 125, 126, 127, 128, 129, 130, 131, 132, 133, 134, 135, 136, 137] (by decide +kernel) (by decide +kernel)
set_option maxRecDepth 20000 in
theorem gX11_bake_X2_takeFlour : GoodIn wsX11_bake (wsV RX11 173 RX2 yX2_takeFlour wsX2_takeFlour) := goodIn_app (goodIn_of _ (by decide +kernel)) ggX11_bake_X2_takeFlour
theorem dX11_bake_0 : decode cX11_bake 0 = .ok (.aload_n 0, 1) := by decide +kernel
theorem dX11_bake_1 : decode cX11_bake 1 = .ok (.iload_n 1, 1) := by decide +kernel
theorem dX11_bake_2 : decode cX11_bake 2 = .ok (.invokevirtual 86, 3) := by decide +kernel
theorem dX11_bake_5 : decode cX11_bake 5 = .ok (.astore 5, 2) := by decide +kernel
theorem dX11_bake_7 : decode cX11_bake 7 = .ok (.aload 5, 2) := by decide +kernel
theorem dX11_bake_9 : decode cX11_bake 9 = .ok (.ifnonnull 5, 3) := by decide +kernel
theorem dX11_bake_12 : decode cX11_bake 12 = .ok (.iconst (-1), 1) := by decide +kernel
theorem dX11_bake_13 : decode cX11_bake 13 = .ok (.ireturn, 1) := by decide +kernel
theorem dX11_bake_14 : decode cX11_bake 14 = .ok (.iload_n 2, 1) := by decide +kernel
theorem dX11_bake_15 : decode cX11_bake 15 = .ok (.iconst 0, 1) := by decide +kernel
theorem dX11_bake_16 : decode cX11_bake 16 = .ok (.iconst 2, 1) := by decide +kernel
theorem dX11_bake_17 : decode cX11_bake 17 = .ok (.invokestatic 60, 3) := by decide +kernel
theorem dX11_bake_20 : decode cX11_bake 20 = .ok (.ifCond .ne 26, 3) := by decide +kernel
theorem dX11_bake_23 : decode cX11_bake 23 = .ok (.iload_n 3, 1) := by decide +kernel
theorem dX11_bake_24 : decode cX11_bake 24 = .ok (.iconst 1, 1) := by decide +kernel
theorem dX11_bake_25 : decode cX11_bake 25 = .ok (.sipush 500, 3) := by decide +kernel
theorem dX11_bake_28 : decode cX11_bake 28 = .ok (.invokestatic 60, 3) := by decide +kernel
theorem dX11_bake_31 : decode cX11_bake 31 = .ok (.ifCond .ne 15, 3) := by decide +kernel
theorem dX11_bake_34 : decode cX11_bake 34 = .ok (.iload 4, 2) := by decide +kernel
theorem dX11_bake_36 : decode cX11_bake 36 = .ok (.iconst 1, 1) := by decide +kernel
theorem dX11_bake_37 : decode cX11_bake 37 = .ok (.sipush 2000, 3) := by decide +kernel
theorem dX11_bake_40 : decode cX11_bake 40 = .ok (.invokestatic 60, 3) := by decide +kernel
theorem dX11_bake_43 : decode cX11_bake 43 = .ok (.ifCond .eq 6, 3) := by decide +kernel
theorem dX11_bake_46 : decode cX11_bake 46 = .ok (.bipush (-2), 2) := by decide +kernel
theorem dX11_bake_48 : decode cX11_bake 48 = .ok (.ireturn, 1) := by decide +kernel
theorem dX11_bake_49 : decode cX11_bake 49 = .ok (.aload_n 0, 1) := by decide +kernel
theorem dX11_bake_50 : decode cX11_bake 50 = .ok (.invokevirtual 68, 3) := by decide +kernel
theorem dX11_bake_53 : decode cX11_bake 53 = .ok (.aload 5, 2) := by decide +kernel
theorem dX11_bake_55 : decode cX11_bake 55 = .ok (.getfield 164, 3) := by decide +kernel
theorem dX11_bake_58 : decode cX11_bake 58 = .ok (.if_icmp .ge 6, 3) := by decide +kernel
theorem dX11_bake_61 : decode cX11_bake 61 = .ok (.bipush (-3), 2) := by decide +kernel
theorem dX11_bake_63 : decode cX11_bake 63 = .ok (.ireturn, 1) := by decide +kernel
theorem dX11_bake_64 : decode cX11_bake 64 = .ok (.aload_n 0, 1) := by decide +kernel
theorem dX11_bake_65 : decode cX11_bake 65 = .ok (.getfield 10, 3) := by decide +kernel
theorem dX11_bake_68 : decode cX11_bake 68 = .ok (.invokevirtual 91, 3) := by decide +kernel
theorem dX11_bake_71 : decode cX11_bake 71 = .ok (.ifCond .eq 6, 3) := by decide +kernel
theorem dX11_bake_74 : decode cX11_bake 74 = .ok (.bipush (-4), 2) := by decide +kernel
theorem dX11_bake_76 : decode cX11_bake 76 = .ok (.ireturn, 1) := by decide +kernel
theorem dX11_bake_77 : decode cX11_bake 77 = .ok (.aload 5, 2) := by decide +kernel
theorem dX11_bake_79 : decode cX11_bake 79 = .ok (.getfield 167, 3) := by decide +kernel
theorem dX11_bake_82 : decode cX11_bake 82 = .ok (.iload_n 3, 1) := by decide +kernel
theorem dX11_bake_83 : decode cX11_bake 83 = .ok (.iload 4, 2) := by decide +kernel
theorem dX11_bake_85 : decode cX11_bake 85 = .ok (.imul, 1) := by decide +kernel
theorem dX11_bake_86 : decode cX11_bake 86 = .ok (.if_icmp .ge 6, 3) := by decide +kernel
theorem dX11_bake_89 : decode cX11_bake 89 = .ok (.bipush (-5), 2) := by decide +kernel
theorem dX11_bake_91 : decode cX11_bake 91 = .ok (.ireturn, 1) := by decide +kernel
theorem dX11_bake_92 : decode cX11_bake 92 = .ok (.new 170, 3) := by decide +kernel
theorem dX11_bake_95 : decode cX11_bake 95 = .ok (.dup, 1) := by decide +kernel
theorem dX11_bake_96 : decode cX11_bake 96 = .ok (.aload_n 0, 1) := by decide +kernel
theorem dX11_bake_97 : decode cX11_bake 97 = .ok (.getfield 10, 3) := by decide +kernel
theorem dX11_bake_100 : decode cX11_bake 100 = .ok (.getfield 97, 3) := by decide +kernel
theorem dX11_bake_103 : decode cX11_bake 103 = .ok (.aload_n 0, 1) := by decide +kernel
theorem dX11_bake_104 : decode cX11_bake 104 = .ok (.getfield 64, 3) := by decide +kernel
theorem dX11_bake_107 : decode cX11_bake 107 = .ok (.iload_n 1, 1) := by decide +kernel
theorem dX11_bake_108 : decode cX11_bake 108 = .ok (.iload_n 2, 1) := by decide +kernel
theorem dX11_bake_109 : decode cX11_bake 109 = .ok (.iload_n 3, 1) := by decide +kernel
theorem dX11_bake_110 : decode cX11_bake 110 = .ok (.iload 4, 2) := by decide +kernel
theorem dX11_bake_112 : decode cX11_bake 112 = .ok (.invokespecial 172, 3) := by decide +kernel
theorem dX11_bake_115 : decode cX11_bake 115 = .ok (.astore 6, 2) := by decide +kernel
theorem dX11_bake_117 : decode cX11_bake 117 = .ok (.aload_n 0, 1) := by decide +kernel
theorem dX11_bake_118 : decode cX11_bake 118 = .ok (.getfield 10, 3) := by decide +kernel
theorem dX11_bake_121 : decode cX11_bake 121 = .ok (.aload 6, 2) := by decide +kernel
theorem dX11_bake_123 : decode cX11_bake 123 = .ok (.invokevirtual 103, 3) := by decide +kernel
theorem dX11_bake_126 : decode cX11_bake 126 = .ok (.aload_n 0, 1) := by decide +kernel
theorem dX11_bake_127 : decode cX11_bake 127 = .ok (.getfield 10, 3) := by decide +kernel
theorem dX11_bake_130 : decode cX11_bake 130 = .ok (.aload 6, 2) := by decide +kernel
theorem dX11_bake_132 : decode cX11_bake 132 = .ok (.invokevirtual 173, 3) := by decide +kernel
theorem dX11_bake_135 : decode cX11_bake 135 = .ok (.aload 5, 2) := by decide +kernel
theorem dX11_bake_137 : decode cX11_bake 137 = .ok (.dup, 1) := by decide +kernel
theorem dX11_bake_138 : decode cX11_bake 138 = .ok (.getfield 167, 3) := by decide +kernel
theorem dX11_bake_141 : decode cX11_bake 141 = .ok (.iload_n 3, 1) := by decide +kernel
theorem dX11_bake_142 : decode cX11_bake 142 = .ok (.iload 4, 2) := by decide +kernel
theorem dX11_bake_144 : decode cX11_bake 144 = .ok (.imul, 1) := by decide +kernel
theorem dX11_bake_145 : decode cX11_bake 145 = .ok (.isub, 1) := by decide +kernel
theorem dX11_bake_146 : decode cX11_bake 146 = .ok (.putfield 167, 3) := by decide +kernel
theorem dX11_bake_149 : decode cX11_bake 149 = .ok (.aload 5, 2) := by decide +kernel
theorem dX11_bake_151 : decode cX11_bake 151 = .ok (.dup, 1) := by decide +kernel
theorem dX11_bake_152 : decode cX11_bake 152 = .ok (.getfield 177, 3) := by decide +kernel
theorem dX11_bake_155 : decode cX11_bake 155 = .ok (.iconst 1, 1) := by decide +kernel
theorem dX11_bake_156 : decode cX11_bake 156 = .ok (.iadd, 1) := by decide +kernel
theorem dX11_bake_157 : decode cX11_bake 157 = .ok (.putfield 177, 3) := by decide +kernel
theorem dX11_bake_160 : decode cX11_bake 160 = .ok (.aload 5, 2) := by decide +kernel
theorem dX11_bake_162 : decode cX11_bake 162 = .ok (.aload 6, 2) := by decide +kernel
theorem dX11_bake_164 : decode cX11_bake 164 = .ok (.putfield 180, 3) := by decide +kernel
theorem dX11_bake_167 : decode cX11_bake 167 = .ok (.aload 6, 2) := by decide +kernel
theorem dX11_bake_169 : decode cX11_bake 169 = .ok (.getfield 184, 3) := by decide +kernel
theorem dX11_bake_172 : decode cX11_bake 172 = .ok (.ireturn, 1) := by decide +kernel
set_option maxRecDepth 20000 in
theorem ggX11_search_X2_isFull : GoodIn wsX11_search wsX2_isFull := goodIn_r _ [17, 18, 169, 170, 171, 172, 173, 174, 175] (by decide +kernel) (by decide +kernel)
set_option maxRecDepth 20000 in
theorem gX11_search_X2_isFull : GoodIn wsX11_search (wsV RX11 91 RX2 yX2_isFull wsX2_isFull) := goodIn_app (goodIn_of _ (by decide +kernel)) ggX11_search_X2_isFull
set_option maxRecDepth 20000 in
theorem ggX11_search_X10_upNext : GoodIn wsX11_search wsX10_upNext := goodIn_r _ [23, 24, 25, 26, 27, 28, 29, 30, 31, 32, 33, 22, 34, 35, 36, 37, 38, 201, 202, 203, 204] (by decide +kernel) (by decide +kernel)
set_option maxRecDepth 20000 in
theorem gX11_search_X10_upNext : GoodIn wsX11_search (wsV RX11 185 RX10 yX10_upNext wsX10_upNext) := goodIn_app (goodIn_of _ (by decide +kernel)) ggX11_search_X10_upNext
set_option maxRecDepth 20000 in
theorem ggX11_search_X11_bakerAt : GoodIn wsX11_search wsX11_bakerAt := goodIn_r _ [43, 1, 44, 147, 148, 149, 150, 151, 152, 153, 154, 155, 156, 157, 158] (by decide +kernel) (by decide +kernel)
set_option maxRecDepth 20000 in
theorem gX11_search_X11_bakerAt : GoodIn wsX11_search (wsV RX11 86 RX11 yX11_bakerAt wsX11_bakerAt) := goodIn_app (goodIn_of _ (by decide +kernel)) ggX11_search_X11_bakerAt
set_option maxRecDepth 20000 in
theorem ggX11_search_X10_moveOn : GoodIn wsX11_search wsX10_moveOn := goodIn_r _ [48, 24, 201, 202, 203, 204] (by decide +kernel) (by decide +kernel)
set_option maxRecDepth 20000 in
theorem gX11_search_X10_moveOn : GoodIn wsX11_search (wsV RX11 188 RX10 yX10_moveOn wsX10_moveOn) := goodIn_app (goodIn_of _ (by decide +kernel)) ggX11_search_X10_moveOn
set_option maxRecDepth 20000 in
theorem ggX11_search_X8_init : GoodIn wsX11_search wsX8_init := goodIn_r _ [51, 52, 53, 54, 55, 56, 57, 58, 59, 60, 61, 62, 63, 159, 160, 161, 162, 163, 164, 165, 166, 167, 168, 184, 185, 186, 187, 188, 189, 190, 191, 192, 193, 194, 195, 196, 197, 198, 199, 200] (by decide +kernel) (by decide +kernel)
set_option maxRecDepth 20000 in
theorem gX11_search_X8_init : GoodIn wsX11_search (wsX8_init) := ggX11_search_X8_init
set_option maxRecDepth 20000 in
theorem ggX11_search_X2_enter : GoodIn wsX11_search wsX2_enter := goodIn_r _ [67, 68, 18, 69, 14, 15, 16, 17, 169, 170, 171, 172, 173, 174, 175] (by decide +kernel) (by decide +kernel)
set_option maxRecDepth 20000 in
theorem gX11_search_X2_enter : GoodIn wsX11_search (wsV RX11 103 RX2 yX2_enter wsX2_enter) := goodIn_app (goodIn_of _ (by decide +kernel)) ggX11_search_X2_enter
set_option maxRecDepth 20000 in
theorem ggX11_search_X11_weighLatest : GoodIn wsX11_search wsX11_weighLatest := goodIn_r _ [73, 74, 75, 76, 77, 78, 79, 8, 80, 81, 82, 83, 84, 85, 86, 87, 10, 88, 89, 90, 91, 55, 92, 62, 93, 94, 95, 96, 97, 98, 99, 100, 101, 102, 42, 103, 104, 105, 28, 106, 107, 108, 109, 110, 111, 112, 113, 114, 115, 116, 117, 27, 29, 118, 119, 120, 121, 122, 123, 124, 125, 126, 127, 128, 129, 130, 131, 132, 176, 177, 178, 179, 180, 181, 182, 183, 147, 148, 149, 150, 151, 152, 153, 154, 155, 156, 157, 158, 205, 206, 207, 208, 209, 210, 211, 184, 185, 186, 187, 188, 189, 190, 191, 192, 193, 194, 195, 196, 197, 198, 199, 200, 159, 160, 161, 162, 163, 164, 165, 166, 167, 168, 212, 213, 214, 215] (by decide +kernel) (by decide +kernel)
set_option maxRecDepth 20000 in
theorem gX11_search_X11_weighLatest : GoodIn wsX11_search (wsV RX11 199 RX11 yX11_weighLatest wsX11_weighLatest) := goodIn_app (goodIn_of _ (by decide +kernel)) ggX11_search_X11_weighLatest
set_option maxRecDepth 20000 in
theorem ggX11_search_X11_punish : GoodIn wsX11_search wsX11_punish := goodIn_r _ [136, 137, 138, 139, 27, 28, 29, 140, 141, 142, 143, 144, 145, 42, 146, 8, 176, 177, 178, 179, 180, 181, 182, 183, 147, 148, 149, 150, 151, 152, 153, 154, 155, 156, 157, 158, 159, 160, 161, 162, 163, 164, 165, 166, 167, 168] (by decide +kernel) (by decide +kernel)
set_option maxRecDepth 20000 in
theorem gX11_search_X11_punish : GoodIn wsX11_search (wsV RX11 206 RX11 yX11_punish wsX11_punish) := goodIn_app (goodIn_of _ (by decide +kernel)) ggX11_search_X11_punish
theorem dX11_search_0 : decode cX11_search 0 = .ok (.aload_n 0, 1) := by decide +kernel
theorem dX11_search_1 : decode cX11_search 1 = .ok (.getfield 79, 3) := by decide +kernel
theorem dX11_search_4 : decode cX11_search 4 = .ok (.ifCond .ne 6, 3) := by decide +kernel
theorem dX11_search_7 : decode cX11_search 7 = .ok (.bipush (-3), 2) := by decide +kernel
theorem dX11_search_9 : decode cX11_search 9 = .ok (.ireturn, 1) := by decide +kernel
theorem dX11_search_10 : decode cX11_search 10 = .ok (.aload_n 0, 1) := by decide +kernel
theorem dX11_search_11 : decode cX11_search 11 = .ok (.getfield 10, 3) := by decide +kernel
theorem dX11_search_14 : decode cX11_search 14 = .ok (.invokevirtual 91, 3) := by decide +kernel
theorem dX11_search_17 : decode cX11_search 17 = .ok (.ifCond .eq 6, 3) := by decide +kernel
theorem dX11_search_20 : decode cX11_search 20 = .ok (.bipush (-4), 2) := by decide +kernel
theorem dX11_search_22 : decode cX11_search 22 = .ok (.ireturn, 1) := by decide +kernel
theorem dX11_search_23 : decode cX11_search 23 = .ok (.aload_n 0, 1) := by decide +kernel
theorem dX11_search_24 : decode cX11_search 24 = .ok (.getfield 33, 3) := by decide +kernel
theorem dX11_search_27 : decode cX11_search 27 = .ok (.aload_n 0, 1) := by decide +kernel
theorem dX11_search_28 : decode cX11_search 28 = .ok (.getfield 79, 3) := by decide +kernel
theorem dX11_search_31 : decode cX11_search 31 = .ok (.invokevirtual 185, 3) := by decide +kernel
theorem dX11_search_34 : decode cX11_search 34 = .ok (.istore_n 1, 1) := by decide +kernel
theorem dX11_search_35 : decode cX11_search 35 = .ok (.aload_n 0, 1) := by decide +kernel
theorem dX11_search_36 : decode cX11_search 36 = .ok (.iload_n 1, 1) := by decide +kernel
theorem dX11_search_37 : decode cX11_search 37 = .ok (.invokevirtual 86, 3) := by decide +kernel
theorem dX11_search_40 : decode cX11_search 40 = .ok (.astore_n 2, 1) := by decide +kernel
theorem dX11_search_41 : decode cX11_search 41 = .ok (.aload_n 2, 1) := by decide +kernel
theorem dX11_search_42 : decode cX11_search 42 = .ok (.ifnonnull 6, 3) := by decide +kernel
theorem dX11_search_45 : decode cX11_search 45 = .ok (.bipush (-3), 2) := by decide +kernel
theorem dX11_search_47 : decode cX11_search 47 = .ok (.ireturn, 1) := by decide +kernel
theorem dX11_search_48 : decode cX11_search 48 = .ok (.aload_n 0, 1) := by decide +kernel
theorem dX11_search_49 : decode cX11_search 49 = .ok (.getfield 33, 3) := by decide +kernel
theorem dX11_search_52 : decode cX11_search 52 = .ok (.invokevirtual 188, 3) := by decide +kernel
theorem dX11_search_55 : decode cX11_search 55 = .ok (.new 191, 3) := by decide +kernel
theorem dX11_search_58 : decode cX11_search 58 = .ok (.dup, 1) := by decide +kernel
theorem dX11_search_59 : decode cX11_search 59 = .ok (.aload_n 0, 1) := by decide +kernel
theorem dX11_search_60 : decode cX11_search 60 = .ok (.getfield 10, 3) := by decide +kernel
theorem dX11_search_63 : decode cX11_search 63 = .ok (.getfield 97, 3) := by decide +kernel
theorem dX11_search_66 : decode cX11_search 66 = .ok (.aload_n 0, 1) := by decide +kernel
theorem dX11_search_67 : decode cX11_search 67 = .ok (.getfield 64, 3) := by decide +kernel
theorem dX11_search_70 : decode cX11_search 70 = .ok (.iload_n 1, 1) := by decide +kernel
theorem dX11_search_71 : decode cX11_search 71 = .ok (.invokespecial 193, 3) := by decide +kernel
theorem dX11_search_74 : decode cX11_search 74 = .ok (.astore_n 3, 1) := by decide +kernel
theorem dX11_search_75 : decode cX11_search 75 = .ok (.aload_n 0, 1) := by decide +kernel
theorem dX11_search_76 : decode cX11_search 76 = .ok (.getfield 10, 3) := by decide +kernel
theorem dX11_search_79 : decode cX11_search 79 = .ok (.aload_n 3, 1) := by decide +kernel
theorem dX11_search_80 : decode cX11_search 80 = .ok (.invokevirtual 103, 3) := by decide +kernel
theorem dX11_search_83 : decode cX11_search 83 = .ok (.aload_n 2, 1) := by decide +kernel
theorem dX11_search_84 : decode cX11_search 84 = .ok (.dup, 1) := by decide +kernel
theorem dX11_search_85 : decode cX11_search 85 = .ok (.getfield 196, 3) := by decide +kernel
theorem dX11_search_88 : decode cX11_search 88 = .ok (.iconst 1, 1) := by decide +kernel
theorem dX11_search_89 : decode cX11_search 89 = .ok (.iadd, 1) := by decide +kernel
theorem dX11_search_90 : decode cX11_search 90 = .ok (.putfield 196, 3) := by decide +kernel
theorem dX11_search_93 : decode cX11_search 93 = .ok (.aload_n 0, 1) := by decide +kernel
theorem dX11_search_94 : decode cX11_search 94 = .ok (.aload_n 3, 1) := by decide +kernel
theorem dX11_search_95 : decode cX11_search 95 = .ok (.aload_n 2, 1) := by decide +kernel
theorem dX11_search_96 : decode cX11_search 96 = .ok (.invokevirtual 199, 3) := by decide +kernel
theorem dX11_search_99 : decode cX11_search 99 = .ok (.aload_n 3, 1) := by decide +kernel
theorem dX11_search_100 : decode cX11_search 100 = .ok (.getfield 203, 3) := by decide +kernel
theorem dX11_search_103 : decode cX11_search 103 = .ok (.ifCond .eq 9, 3) := by decide +kernel
theorem dX11_search_106 : decode cX11_search 106 = .ok (.aload_n 0, 1) := by decide +kernel
theorem dX11_search_107 : decode cX11_search 107 = .ok (.aload_n 3, 1) := by decide +kernel
theorem dX11_search_108 : decode cX11_search 108 = .ok (.aload_n 2, 1) := by decide +kernel
theorem dX11_search_109 : decode cX11_search 109 = .ok (.invokevirtual 206, 3) := by decide +kernel
theorem dX11_search_112 : decode cX11_search 112 = .ok (.aload_n 3, 1) := by decide +kernel
theorem dX11_search_113 : decode cX11_search 113 = .ok (.getfield 209, 3) := by decide +kernel
theorem dX11_search_116 : decode cX11_search 116 = .ok (.ireturn, 1) := by decide +kernel
set_option maxRecDepth 20000 in
theorem ggX11_turn_X10_upNext : GoodIn wsX11_turn wsX10_upNext := goodIn_r _ [7, 8, 9, 10, 11, 12, 13, 14, 15, 16, 17, 6, 18, 19, 20, 21, 22, 35, 36, 37, 38] (by decide +kernel) (by decide +kernel)
set_option maxRecDepth 20000 in
theorem gX11_turn_X10_upNext : GoodIn wsX11_turn (wsV RX11 185 RX10 yX10_upNext wsX10_upNext) := goodIn_app (goodIn_of _ (by decide +kernel)) ggX11_turn_X10_upNext
theorem dX11_turn_0 : decode cX11_turn 0 = .ok (.aload_n 0, 1) := by decide +kernel
theorem dX11_turn_1 : decode cX11_turn 1 = .ok (.getfield 79, 3) := by decide +kernel
theorem dX11_turn_4 : decode cX11_turn 4 = .ok (.ifCond .ne 8, 3) := by decide +kernel
theorem dX11_turn_7 : decode cX11_turn 7 = .ok (.bipush (-3), 2) := by decide +kernel
theorem dX11_turn_9 : decode cX11_turn 9 = .ok (.goto 14, 3) := by decide +kernel
theorem dX11_turn_12 : decode cX11_turn 12 = .ok (.aload_n 0, 1) := by decide +kernel
theorem dX11_turn_13 : decode cX11_turn 13 = .ok (.getfield 33, 3) := by decide +kernel
theorem dX11_turn_16 : decode cX11_turn 16 = .ok (.aload_n 0, 1) := by decide +kernel
theorem dX11_turn_17 : decode cX11_turn 17 = .ok (.getfield 79, 3) := by decide +kernel
theorem dX11_turn_20 : decode cX11_turn 20 = .ok (.invokevirtual 185, 3) := by decide +kernel
theorem dX11_turn_23 : decode cX11_turn 23 = .ok (.ireturn, 1) := by decide +kernel
set_option maxRecDepth 20000 in
theorem ggX11_rules_X11_isOutside : GoodIn wsX11_rules wsX11_isOutside := goodIn_r _ [6] (by decide +kernel) (by decide +kernel)
set_option maxRecDepth 20000 in
theorem gX11_rules_X11_isOutside : GoodIn wsX11_rules (va_wsS RX11 60 yX11_isOutside wsX11_isOutside) := goodIn_app (goodIn_of _ (by decide +kernel)) ggX11_rules_X11_isOutside
theorem dX11_rules_0 : decode cX11_rules 0 = .ok (.iload_n 1, 1) := by decide +kernel
theorem dX11_rules_1 : decode cX11_rules 1 = .ok (.iconst 0, 1) := by decide +kernel
theorem dX11_rules_2 : decode cX11_rules 2 = .ok (.iconst 5, 1) := by decide +kernel
theorem dX11_rules_3 : decode cX11_rules 3 = .ok (.invokestatic 60, 3) := by decide +kernel
theorem dX11_rules_6 : decode cX11_rules 6 = .ok (.ifCond .ne 14, 3) := by decide +kernel
theorem dX11_rules_9 : decode cX11_rules 9 = .ok (.iload_n 2, 1) := by decide +kernel
theorem dX11_rules_10 : decode cX11_rules 10 = .ok (.iconst 0, 1) := by decide +kernel
theorem dX11_rules_11 : decode cX11_rules 11 = .ok (.sipush 1000, 3) := by decide +kernel
theorem dX11_rules_14 : decode cX11_rules 14 = .ok (.invokestatic 60, 3) := by decide +kernel
theorem dX11_rules_17 : decode cX11_rules 17 = .ok (.ifCond .eq 6, 3) := by decide +kernel
theorem dX11_rules_20 : decode cX11_rules 20 = .ok (.bipush (-2), 2) := by decide +kernel
theorem dX11_rules_22 : decode cX11_rules 22 = .ok (.ireturn, 1) := by decide +kernel
theorem dX11_rules_23 : decode cX11_rules 23 = .ok (.aload_n 0, 1) := by decide +kernel
theorem dX11_rules_24 : decode cX11_rules 24 = .ok (.iload_n 1, 1) := by decide +kernel
theorem dX11_rules_25 : decode cX11_rules 25 = .ok (.putfield 54, 3) := by decide +kernel
theorem dX11_rules_28 : decode cX11_rules 28 = .ok (.aload_n 0, 1) := by decide +kernel
theorem dX11_rules_29 : decode cX11_rules 29 = .ok (.iload_n 2, 1) := by decide +kernel
theorem dX11_rules_30 : decode cX11_rules 30 = .ok (.putfield 57, 3) := by decide +kernel
theorem dX11_rules_33 : decode cX11_rules 33 = .ok (.iconst 1, 1) := by decide +kernel
theorem dX11_rules_34 : decode cX11_rules 34 = .ok (.ireturn, 1) := by decide +kernel
set_option maxRecDepth 20000 in
theorem ggX11_record_X2_entryAt : GoodIn wsX11_record wsX2_entryAt := goodIn_r _ [9, 10, 11, 60, 61, 62, 63, 64, 65, 66] (by decide +kernel) (by decide +kernel)
set_option maxRecDepth 20000 in
theorem gX11_record_X2_entryAt : GoodIn wsX11_record (wsV RX11 117 RX2 yX2_entryAt wsX2_entryAt) := goodIn_app (goodIn_of _ (by decide +kernel)) ggX11_record_X2_entryAt
set_option maxRecDepth 20000 in
theorem ggX11_record_X3_week : GoodIn wsX11_record wsX3_week := goodIn_r _ [17, 18, 33, 34, 35, 36, 37, 38, 39, 40, 41, 42, 43, 44, 45, 46, 47, 48, 49, 50, 51, 52, 53, 54, 55, 56, 57, 58, 59] (by decide +kernel) (by decide +kernel)
set_option maxRecDepth 20000 in
theorem gX11_record_X3_week_u215X1 : GoodIn wsX11_record (va_wsU RX11 215 RX1 "BreadLaw$Entry" ⟨"BreadLaw$Entry", "week", "()I"⟩ yX3_week wsX3_week) := goodIn_app (goodIn_of _ (by decide +kernel)) ggX11_record_X3_week
set_option maxRecDepth 20000 in
theorem gX11_record_X3_week_u215X6 : GoodIn wsX11_record (va_wsU RX11 215 RX6 "BreadLaw$Entry" ⟨"BreadLaw$Entry", "week", "()I"⟩ yX3_week wsX3_week) := goodIn_app (goodIn_of _ (by decide +kernel)) ggX11_record_X3_week
set_option maxRecDepth 20000 in
theorem gX11_record_X3_week_u215X8 : GoodIn wsX11_record (va_wsU RX11 215 RX8 "BreadLaw$Entry" ⟨"BreadLaw$Entry", "week", "()I"⟩ yX3_week wsX3_week) := goodIn_app (goodIn_of _ (by decide +kernel)) ggX11_record_X3_week
theorem dX11_record_0 : decode cX11_record 0 = .ok (.aload_n 0, 1) := by decide +kernel
theorem dX11_record_1 : decode cX11_record 1 = .ok (.getfield 10, 3) := by decide +kernel
theorem dX11_record_4 : decode cX11_record 4 = .ok (.iload_n 1, 1) := by decide +kernel
theorem dX11_record_5 : decode cX11_record 5 = .ok (.invokevirtual 117, 3) := by decide +kernel
theorem dX11_record_8 : decode cX11_record 8 = .ok (.astore_n 3, 1) := by decide +kernel
theorem dX11_record_9 : decode cX11_record 9 = .ok (.aload_n 3, 1) := by decide +kernel
theorem dX11_record_10 : decode cX11_record 10 = .ok (.ifnonnull 5, 3) := by decide +kernel
theorem dX11_record_13 : decode cX11_record 13 = .ok (.iconst (-1), 1) := by decide +kernel
theorem dX11_record_14 : decode cX11_record 14 = .ok (.ireturn, 1) := by decide +kernel
theorem dX11_record_15 : decode cX11_record 15 = .ok (.iload_n 2, 1) := by decide +kernel
theorem dX11_record_16 : decode cX11_record 16 = .ok (.tableswitch 56 0 3 #[32, 37, 42, 51], 32) := by decide +kernel
theorem dX11_record_48 : decode cX11_record 48 = .ok (.aload_n 3, 1) := by decide +kernel
theorem dX11_record_49 : decode cX11_record 49 = .ok (.getfield 210, 3) := by decide +kernel
theorem dX11_record_52 : decode cX11_record 52 = .ok (.ireturn, 1) := by decide +kernel
theorem dX11_record_53 : decode cX11_record 53 = .ok (.aload_n 3, 1) := by decide +kernel
theorem dX11_record_54 : decode cX11_record 54 = .ok (.invokevirtual 215, 3) := by decide +kernel
theorem dX11_record_57 : decode cX11_record 57 = .ok (.ireturn, 1) := by decide +kernel
theorem dX11_record_58 : decode cX11_record 58 = .ok (.aload_n 3, 1) := by decide +kernel
theorem dX11_record_59 : decode cX11_record 59 = .ok (.getfield 218, 3) := by decide +kernel
theorem dX11_record_62 : decode cX11_record 62 = .ok (.sipush 168, 3) := by decide +kernel
theorem dX11_record_65 : decode cX11_record 65 = .ok (.irem, 1) := by decide +kernel
theorem dX11_record_66 : decode cX11_record 66 = .ok (.ireturn, 1) := by decide +kernel
theorem dX11_record_67 : decode cX11_record 67 = .ok (.aload_n 3, 1) := by decide +kernel
theorem dX11_record_68 : decode cX11_record 68 = .ok (.getfield 221, 3) := by decide +kernel
theorem dX11_record_71 : decode cX11_record 71 = .ok (.ireturn, 1) := by decide +kernel
theorem dX11_record_72 : decode cX11_record 72 = .ok (.bipush (-2), 2) := by decide +kernel
theorem dX11_record_74 : decode cX11_record 74 = .ok (.ireturn, 1) := by decide +kernel
set_option maxRecDepth 20000 in
theorem ggX11_lot_X2_entryAt : GoodIn wsX11_lot wsX2_entryAt := goodIn_r _ [7, 8, 9, 35, 36, 37, 38, 39, 40, 41] (by decide +kernel) (by decide +kernel)
set_option maxRecDepth 20000 in
theorem gX11_lot_X2_entryAt : GoodIn wsX11_lot (wsV RX11 117 RX2 yX2_entryAt wsX2_entryAt) := goodIn_app (goodIn_of _ (by decide +kernel)) ggX11_lot_X2_entryAt
set_option maxRecDepth 20000 in
theorem ggX11_lot_X11_isOutside : GoodIn wsX11_lot wsX11_isOutside := goodIn_r _ [13] (by decide +kernel) (by decide +kernel)
set_option maxRecDepth 20000 in
theorem gX11_lot_X11_isOutside : GoodIn wsX11_lot (va_wsS RX11 60 yX11_isOutside wsX11_isOutside) := goodIn_app (goodIn_of _ (by decide +kernel)) ggX11_lot_X11_isOutside
set_option maxRecDepth 20000 in
theorem ggX11_lot_X6_detail : GoodIn wsX11_lot wsX6_detail := goodIn_r _ [18, 19, 20, 21, 22, 42, 43, 44, 45, 46, 47, 48, 49] (by decide +kernel) (by decide +kernel)
set_option maxRecDepth 20000 in
theorem gX11_lot_X6_detail : GoodIn wsX11_lot (wsV RX11 224 RX6 yX6_detail wsX6_detail) := goodIn_app (goodIn_of _ (by decide +kernel)) ggX11_lot_X6_detail
theorem dX11_lot_0 : decode cX11_lot 0 = .ok (.aload_n 0, 1) := by decide +kernel
theorem dX11_lot_1 : decode cX11_lot 1 = .ok (.getfield 10, 3) := by decide +kernel
theorem dX11_lot_4 : decode cX11_lot 4 = .ok (.iload_n 1, 1) := by decide +kernel
theorem dX11_lot_5 : decode cX11_lot 5 = .ok (.invokevirtual 117, 3) := by decide +kernel
theorem dX11_lot_8 : decode cX11_lot 8 = .ok (.astore_n 3, 1) := by decide +kernel
theorem dX11_lot_9 : decode cX11_lot 9 = .ok (.aload_n 3, 1) := by decide +kernel
theorem dX11_lot_10 : decode cX11_lot 10 = .ok (.ifnonnull 5, 3) := by decide +kernel
theorem dX11_lot_13 : decode cX11_lot 13 = .ok (.iconst (-1), 1) := by decide +kernel
theorem dX11_lot_14 : decode cX11_lot 14 = .ok (.ireturn, 1) := by decide +kernel
theorem dX11_lot_15 : decode cX11_lot 15 = .ok (.iload_n 2, 1) := by decide +kernel
theorem dX11_lot_16 : decode cX11_lot 16 = .ok (.iconst 0, 1) := by decide +kernel
theorem dX11_lot_17 : decode cX11_lot 17 = .ok (.iconst 3, 1) := by decide +kernel
theorem dX11_lot_18 : decode cX11_lot 18 = .ok (.invokestatic 60, 3) := by decide +kernel
theorem dX11_lot_21 : decode cX11_lot 21 = .ok (.ifCond .eq 6, 3) := by decide +kernel
theorem dX11_lot_24 : decode cX11_lot 24 = .ok (.bipush (-2), 2) := by decide +kernel
theorem dX11_lot_26 : decode cX11_lot 26 = .ok (.ireturn, 1) := by decide +kernel
theorem dX11_lot_27 : decode cX11_lot 27 = .ok (.aload_n 3, 1) := by decide +kernel
theorem dX11_lot_28 : decode cX11_lot 28 = .ok (.instanceof 95, 3) := by decide +kernel
theorem dX11_lot_31 : decode cX11_lot 31 = .ok (.ifCond .eq 16, 3) := by decide +kernel
theorem dX11_lot_34 : decode cX11_lot 34 = .ok (.aload_n 3, 1) := by decide +kernel
theorem dX11_lot_35 : decode cX11_lot 35 = .ok (.checkcast 95, 3) := by decide +kernel
theorem dX11_lot_38 : decode cX11_lot 38 = .ok (.astore 4, 2) := by decide +kernel
theorem dX11_lot_40 : decode cX11_lot 40 = .ok (.aload 4, 2) := by decide +kernel
theorem dX11_lot_42 : decode cX11_lot 42 = .ok (.iload_n 2, 1) := by decide +kernel
theorem dX11_lot_43 : decode cX11_lot 43 = .ok (.invokevirtual 224, 3) := by decide +kernel
theorem dX11_lot_46 : decode cX11_lot 46 = .ok (.ireturn, 1) := by decide +kernel
theorem dX11_lot_47 : decode cX11_lot 47 = .ok (.bipush (-5), 2) := by decide +kernel
theorem dX11_lot_49 : decode cX11_lot 49 = .ok (.ireturn, 1) := by decide +kernel
set_option maxRecDepth 20000 in
theorem ggX11_batch_X2_entryAt : GoodIn wsX11_batch wsX2_entryAt := goodIn_r _ [7, 8, 9, 40, 41, 42, 43, 44, 45, 46] (by decide +kernel) (by decide +kernel)
set_option maxRecDepth 20000 in
theorem gX11_batch_X2_entryAt : GoodIn wsX11_batch (wsV RX11 117 RX2 yX2_entryAt wsX2_entryAt) := goodIn_app (goodIn_of _ (by decide +kernel)) ggX11_batch_X2_entryAt
set_option maxRecDepth 20000 in
theorem ggX11_batch_X1_detail : GoodIn wsX11_batch wsX1_detail := goodIn_r _ [14, 15, 16, 17, 18, 47, 48, 49, 50, 51, 52, 53, 54, 55] (by decide +kernel) (by decide +kernel)
set_option maxRecDepth 20000 in
theorem gX11_batch_X1_detail : GoodIn wsX11_batch (wsV RX11 227 RX1 yX1_detail wsX1_detail) := goodIn_app (goodIn_of _ (by decide +kernel)) ggX11_batch_X1_detail
set_option maxRecDepth 20000 in
theorem ggX11_batch_X2_giftDetail : GoodIn wsX11_batch wsX2_giftDetail := goodIn_r _ [22, 23, 24, 25, 26, 27, 47, 48, 49, 50, 51, 52, 53, 54, 55, 40, 41, 42, 43, 44, 45, 46] (by decide +kernel) (by decide +kernel)
set_option maxRecDepth 20000 in
theorem gX11_batch_X2_giftDetail : GoodIn wsX11_batch (wsV RX11 228 RX2 yX2_giftDetail wsX2_giftDetail) := goodIn_app (goodIn_of _ (by decide +kernel)) ggX11_batch_X2_giftDetail
theorem dX11_batch_0 : decode cX11_batch 0 = .ok (.aload_n 0, 1) := by decide +kernel
theorem dX11_batch_1 : decode cX11_batch 1 = .ok (.getfield 10, 3) := by decide +kernel
theorem dX11_batch_4 : decode cX11_batch 4 = .ok (.iload_n 1, 1) := by decide +kernel
theorem dX11_batch_5 : decode cX11_batch 5 = .ok (.invokevirtual 117, 3) := by decide +kernel
theorem dX11_batch_8 : decode cX11_batch 8 = .ok (.astore_n 3, 1) := by decide +kernel
theorem dX11_batch_9 : decode cX11_batch 9 = .ok (.aload_n 3, 1) := by decide +kernel
theorem dX11_batch_10 : decode cX11_batch 10 = .ok (.ifnonnull 5, 3) := by decide +kernel
theorem dX11_batch_13 : decode cX11_batch 13 = .ok (.iconst (-1), 1) := by decide +kernel
theorem dX11_batch_14 : decode cX11_batch 14 = .ok (.ireturn, 1) := by decide +kernel
theorem dX11_batch_15 : decode cX11_batch 15 = .ok (.iload_n 2, 1) := by decide +kernel
theorem dX11_batch_16 : decode cX11_batch 16 = .ok (.ifCond .lt 14, 3) := by decide +kernel
theorem dX11_batch_19 : decode cX11_batch 19 = .ok (.iload_n 2, 1) := by decide +kernel
theorem dX11_batch_20 : decode cX11_batch 20 = .ok (.iconst 3, 1) := by decide +kernel
theorem dX11_batch_21 : decode cX11_batch 21 = .ok (.if_icmp .le 12, 3) := by decide +kernel
theorem dX11_batch_24 : decode cX11_batch 24 = .ok (.iload_n 2, 1) := by decide +kernel
theorem dX11_batch_25 : decode cX11_batch 25 = .ok (.bipush 10, 2) := by decide +kernel
theorem dX11_batch_27 : decode cX11_batch 27 = .ok (.if_icmp .ge 6, 3) := by decide +kernel
theorem dX11_batch_30 : decode cX11_batch 30 = .ok (.bipush (-2), 2) := by decide +kernel
theorem dX11_batch_32 : decode cX11_batch 32 = .ok (.ireturn, 1) := by decide +kernel
theorem dX11_batch_33 : decode cX11_batch 33 = .ok (.aload_n 3, 1) := by decide +kernel
theorem dX11_batch_34 : decode cX11_batch 34 = .ok (.instanceof 170, 3) := by decide +kernel
theorem dX11_batch_37 : decode cX11_batch 37 = .ok (.ifCond .eq 38, 3) := by decide +kernel
theorem dX11_batch_40 : decode cX11_batch 40 = .ok (.aload_n 3, 1) := by decide +kernel
theorem dX11_batch_41 : decode cX11_batch 41 = .ok (.checkcast 170, 3) := by decide +kernel
theorem dX11_batch_44 : decode cX11_batch 44 = .ok (.astore 4, 2) := by decide +kernel
theorem dX11_batch_46 : decode cX11_batch 46 = .ok (.iload_n 2, 1) := by decide +kernel
theorem dX11_batch_47 : decode cX11_batch 47 = .ok (.bipush 10, 2) := by decide +kernel
theorem dX11_batch_49 : decode cX11_batch 49 = .ok (.if_icmp .ge 12, 3) := by decide +kernel
theorem dX11_batch_52 : decode cX11_batch 52 = .ok (.aload 4, 2) := by decide +kernel
theorem dX11_batch_54 : decode cX11_batch 54 = .ok (.iload_n 2, 1) := by decide +kernel
theorem dX11_batch_55 : decode cX11_batch 55 = .ok (.invokevirtual 227, 3) := by decide +kernel
theorem dX11_batch_58 : decode cX11_batch 58 = .ok (.goto 16, 3) := by decide +kernel
theorem dX11_batch_61 : decode cX11_batch 61 = .ok (.aload_n 0, 1) := by decide +kernel
theorem dX11_batch_62 : decode cX11_batch 62 = .ok (.getfield 10, 3) := by decide +kernel
theorem dX11_batch_65 : decode cX11_batch 65 = .ok (.aload 4, 2) := by decide +kernel
theorem dX11_batch_67 : decode cX11_batch 67 = .ok (.iload_n 2, 1) := by decide +kernel
theorem dX11_batch_68 : decode cX11_batch 68 = .ok (.bipush 10, 2) := by decide +kernel
theorem dX11_batch_70 : decode cX11_batch 70 = .ok (.isub, 1) := by decide +kernel
theorem dX11_batch_71 : decode cX11_batch 71 = .ok (.invokevirtual 228, 3) := by decide +kernel
theorem dX11_batch_74 : decode cX11_batch 74 = .ok (.ireturn, 1) := by decide +kernel
theorem dX11_batch_75 : decode cX11_batch 75 = .ok (.bipush (-5), 2) := by decide +kernel
theorem dX11_batch_77 : decode cX11_batch 77 = .ok (.ireturn, 1) := by decide +kernel
set_option maxRecDepth 20000 in
theorem ggX11_found_X2_entryAt : GoodIn wsX11_found wsX2_entryAt := goodIn_r _ [7, 8, 9, 37, 38, 39, 40, 41, 42, 43] (by decide +kernel) (by decide +kernel)
set_option maxRecDepth 20000 in
theorem gX11_found_X2_entryAt : GoodIn wsX11_found (wsV RX11 117 RX2 yX2_entryAt wsX2_entryAt) := goodIn_app (goodIn_of _ (by decide +kernel)) ggX11_found_X2_entryAt
set_option maxRecDepth 20000 in
theorem ggX11_found_X11_isOutside : GoodIn wsX11_found wsX11_isOutside := goodIn_r _ [13] (by decide +kernel) (by decide +kernel)
set_option maxRecDepth 20000 in
theorem gX11_found_X11_isOutside : GoodIn wsX11_found (va_wsS RX11 60 yX11_isOutside wsX11_isOutside) := goodIn_app (goodIn_of _ (by decide +kernel)) ggX11_found_X11_isOutside
set_option maxRecDepth 20000 in
theorem ggX11_found_X8_detail : GoodIn wsX11_found wsX8_detail := goodIn_r _ [18, 19, 20, 21, 22, 23, 24, 44, 45, 46, 47, 48, 49, 50, 51, 52, 53] (by decide +kernel) (by decide +kernel)
set_option maxRecDepth 20000 in
theorem gX11_found_X8_detail : GoodIn wsX11_found (wsV RX11 232 RX8 yX8_detail wsX8_detail) := goodIn_app (goodIn_of _ (by decide +kernel)) ggX11_found_X8_detail
theorem dX11_found_0 : decode cX11_found 0 = .ok (.aload_n 0, 1) := by decide +kernel
theorem dX11_found_1 : decode cX11_found 1 = .ok (.getfield 10, 3) := by decide +kernel
theorem dX11_found_4 : decode cX11_found 4 = .ok (.iload_n 1, 1) := by decide +kernel
theorem dX11_found_5 : decode cX11_found 5 = .ok (.invokevirtual 117, 3) := by decide +kernel
theorem dX11_found_8 : decode cX11_found 8 = .ok (.astore_n 3, 1) := by decide +kernel
theorem dX11_found_9 : decode cX11_found 9 = .ok (.aload_n 3, 1) := by decide +kernel
theorem dX11_found_10 : decode cX11_found 10 = .ok (.ifnonnull 5, 3) := by decide +kernel
theorem dX11_found_13 : decode cX11_found 13 = .ok (.iconst (-1), 1) := by decide +kernel
theorem dX11_found_14 : decode cX11_found 14 = .ok (.ireturn, 1) := by decide +kernel
theorem dX11_found_15 : decode cX11_found 15 = .ok (.iload_n 2, 1) := by decide +kernel
theorem dX11_found_16 : decode cX11_found 16 = .ok (.iconst 0, 1) := by decide +kernel
theorem dX11_found_17 : decode cX11_found 17 = .ok (.iconst 5, 1) := by decide +kernel
theorem dX11_found_18 : decode cX11_found 18 = .ok (.invokestatic 60, 3) := by decide +kernel
theorem dX11_found_21 : decode cX11_found 21 = .ok (.ifCond .eq 6, 3) := by decide +kernel
theorem dX11_found_24 : decode cX11_found 24 = .ok (.bipush (-2), 2) := by decide +kernel
theorem dX11_found_26 : decode cX11_found 26 = .ok (.ireturn, 1) := by decide +kernel
theorem dX11_found_27 : decode cX11_found 27 = .ok (.aload_n 3, 1) := by decide +kernel
theorem dX11_found_28 : decode cX11_found 28 = .ok (.instanceof 191, 3) := by decide +kernel
theorem dX11_found_31 : decode cX11_found 31 = .ok (.ifCond .eq 16, 3) := by decide +kernel
theorem dX11_found_34 : decode cX11_found 34 = .ok (.aload_n 3, 1) := by decide +kernel
theorem dX11_found_35 : decode cX11_found 35 = .ok (.checkcast 191, 3) := by decide +kernel
theorem dX11_found_38 : decode cX11_found 38 = .ok (.astore 4, 2) := by decide +kernel
theorem dX11_found_40 : decode cX11_found 40 = .ok (.aload 4, 2) := by decide +kernel
theorem dX11_found_42 : decode cX11_found 42 = .ok (.iload_n 2, 1) := by decide +kernel
theorem dX11_found_43 : decode cX11_found 43 = .ok (.invokevirtual 232, 3) := by decide +kernel
theorem dX11_found_46 : decode cX11_found 46 = .ok (.ireturn, 1) := by decide +kernel
theorem dX11_found_47 : decode cX11_found 47 = .ok (.bipush (-5), 2) := by decide +kernel
theorem dX11_found_49 : decode cX11_found 49 = .ok (.ireturn, 1) := by decide +kernel
set_option maxRecDepth 20000 in
theorem ggX11_about_X11_bakerAt : GoodIn wsX11_about wsX11_bakerAt := goodIn_r _ [5, 6, 7, 23, 24, 25, 26, 27, 28, 29, 30, 31, 32, 33, 34] (by decide +kernel) (by decide +kernel)
set_option maxRecDepth 20000 in
theorem gX11_about_X11_bakerAt : GoodIn wsX11_about (wsV RX11 86 RX11 yX11_bakerAt wsX11_bakerAt) := goodIn_app (goodIn_of _ (by decide +kernel)) ggX11_about_X11_bakerAt
set_option maxRecDepth 20000 in
theorem ggX11_about_X0_detail : GoodIn wsX11_about wsX0_detail := goodIn_r _ [12, 13, 14, 15, 16, 17, 18, 19, 20, 21, 22, 35, 36, 37, 38, 39, 40, 41, 42, 43, 44, 45, 46, 47, 48, 49, 50, 51, 52, 53, 54, 55, 56, 57, 58, 59, 60, 61, 62, 63, 64, 65, 66, 67, 68, 69] (by decide +kernel) (by decide +kernel)
set_option maxRecDepth 20000 in
theorem gX11_about_X0_detail : GoodIn wsX11_about (wsV RX11 233 RX0 yX0_detail wsX0_detail) := goodIn_app (goodIn_of _ (by decide +kernel)) ggX11_about_X0_detail
theorem dX11_about_0 : decode cX11_about 0 = .ok (.aload_n 0, 1) := by decide +kernel
theorem dX11_about_1 : decode cX11_about 1 = .ok (.iload_n 1, 1) := by decide +kernel
theorem dX11_about_2 : decode cX11_about 2 = .ok (.invokevirtual 86, 3) := by decide +kernel
theorem dX11_about_5 : decode cX11_about 5 = .ok (.astore_n 3, 1) := by decide +kernel
theorem dX11_about_6 : decode cX11_about 6 = .ok (.aload_n 3, 1) := by decide +kernel
theorem dX11_about_7 : decode cX11_about 7 = .ok (.ifnonnull 5, 3) := by decide +kernel
theorem dX11_about_10 : decode cX11_about 10 = .ok (.iconst (-1), 1) := by decide +kernel
theorem dX11_about_11 : decode cX11_about 11 = .ok (.ireturn, 1) := by decide +kernel
theorem dX11_about_12 : decode cX11_about 12 = .ok (.aload_n 3, 1) := by decide +kernel
theorem dX11_about_13 : decode cX11_about 13 = .ok (.iload_n 2, 1) := by decide +kernel
theorem dX11_about_14 : decode cX11_about 14 = .ok (.invokevirtual 233, 3) := by decide +kernel
theorem dX11_about_17 : decode cX11_about 17 = .ok (.ireturn, 1) := by decide +kernel
set_option maxRecDepth 20000 in
theorem ggX11_store_X11_isOutside : GoodIn wsX11_store wsX11_isOutside := goodIn_r _ [8] (by decide +kernel) (by decide +kernel)
set_option maxRecDepth 20000 in
theorem gX11_store_X11_isOutside : GoodIn wsX11_store (va_wsS RX11 60 yX11_isOutside wsX11_isOutside) := goodIn_app (goodIn_of _ (by decide +kernel)) ggX11_store_X11_isOutside
theorem dX11_store_0 : decode cX11_store 0 = .ok (.iload_n 1, 1) := by decide +kernel
theorem dX11_store_1 : decode cX11_store 1 = .ok (.iconst 1, 1) := by decide +kernel
theorem dX11_store_2 : decode cX11_store 2 = .ok (.ldc 234, 2) := by decide +kernel
theorem dX11_store_4 : decode cX11_store 4 = .ok (.invokestatic 60, 3) := by decide +kernel
theorem dX11_store_7 : decode cX11_store 7 = .ok (.ifCond .eq 6, 3) := by decide +kernel
theorem dX11_store_10 : decode cX11_store 10 = .ok (.bipush (-2), 2) := by decide +kernel
theorem dX11_store_12 : decode cX11_store 12 = .ok (.ireturn, 1) := by decide +kernel
theorem dX11_store_13 : decode cX11_store 13 = .ok (.aload_n 0, 1) := by decide +kernel
theorem dX11_store_14 : decode cX11_store 14 = .ok (.getfield 40, 3) := by decide +kernel
theorem dX11_store_17 : decode cX11_store 17 = .ok (.getfield 235, 3) := by decide +kernel
theorem dX11_store_20 : decode cX11_store 20 = .ok (.iload_n 1, 1) := by decide +kernel
theorem dX11_store_21 : decode cX11_store 21 = .ok (.iadd, 1) := by decide +kernel
theorem dX11_store_22 : decode cX11_store 22 = .ok (.ldc 238, 2) := by decide +kernel
theorem dX11_store_24 : decode cX11_store 24 = .ok (.if_icmp .le 6, 3) := by decide +kernel
theorem dX11_store_27 : decode cX11_store 27 = .ok (.bipush (-4), 2) := by decide +kernel
theorem dX11_store_29 : decode cX11_store 29 = .ok (.ireturn, 1) := by decide +kernel
theorem dX11_store_30 : decode cX11_store 30 = .ok (.aload_n 0, 1) := by decide +kernel
theorem dX11_store_31 : decode cX11_store 31 = .ok (.getfield 40, 3) := by decide +kernel
theorem dX11_store_34 : decode cX11_store 34 = .ok (.dup, 1) := by decide +kernel
theorem dX11_store_35 : decode cX11_store 35 = .ok (.getfield 235, 3) := by decide +kernel
theorem dX11_store_38 : decode cX11_store 38 = .ok (.iload_n 1, 1) := by decide +kernel
theorem dX11_store_39 : decode cX11_store 39 = .ok (.iadd, 1) := by decide +kernel
theorem dX11_store_40 : decode cX11_store 40 = .ok (.putfield 235, 3) := by decide +kernel
theorem dX11_store_43 : decode cX11_store 43 = .ok (.aload_n 0, 1) := by decide +kernel
theorem dX11_store_44 : decode cX11_store 44 = .ok (.getfield 40, 3) := by decide +kernel
theorem dX11_store_47 : decode cX11_store 47 = .ok (.getfield 235, 3) := by decide +kernel
theorem dX11_store_50 : decode cX11_store 50 = .ok (.ireturn, 1) := by decide +kernel
set_option maxRecDepth 20000 in
theorem ggX11_mouths_X11_isOutside : GoodIn wsX11_mouths wsX11_isOutside := goodIn_r _ [7] (by decide +kernel) (by decide +kernel)
set_option maxRecDepth 20000 in
theorem gX11_mouths_X11_isOutside : GoodIn wsX11_mouths (va_wsS RX11 60 yX11_isOutside wsX11_isOutside) := goodIn_app (goodIn_of _ (by decide +kernel)) ggX11_mouths_X11_isOutside
theorem dX11_mouths_0 : decode cX11_mouths 0 = .ok (.iload_n 1, 1) := by decide +kernel
theorem dX11_mouths_1 : decode cX11_mouths 1 = .ok (.iconst 0, 1) := by decide +kernel
theorem dX11_mouths_2 : decode cX11_mouths 2 = .ok (.sipush 10000, 3) := by decide +kernel
theorem dX11_mouths_5 : decode cX11_mouths 5 = .ok (.invokestatic 60, 3) := by decide +kernel
theorem dX11_mouths_8 : decode cX11_mouths 8 = .ok (.ifCond .ne 14, 3) := by decide +kernel
theorem dX11_mouths_11 : decode cX11_mouths 11 = .ok (.iload_n 2, 1) := by decide +kernel
theorem dX11_mouths_12 : decode cX11_mouths 12 = .ok (.iconst 1, 1) := by decide +kernel
theorem dX11_mouths_13 : decode cX11_mouths 13 = .ok (.sipush 1000, 3) := by decide +kernel
theorem dX11_mouths_16 : decode cX11_mouths 16 = .ok (.invokestatic 60, 3) := by decide +kernel
theorem dX11_mouths_19 : decode cX11_mouths 19 = .ok (.ifCond .eq 6, 3) := by decide +kernel
theorem dX11_mouths_22 : decode cX11_mouths 22 = .ok (.bipush (-2), 2) := by decide +kernel
theorem dX11_mouths_24 : decode cX11_mouths 24 = .ok (.ireturn, 1) := by decide +kernel
theorem dX11_mouths_25 : decode cX11_mouths 25 = .ok (.aload_n 0, 1) := by decide +kernel
theorem dX11_mouths_26 : decode cX11_mouths 26 = .ok (.getfield 40, 3) := by decide +kernel
theorem dX11_mouths_29 : decode cX11_mouths 29 = .ok (.iload_n 1, 1) := by decide +kernel
theorem dX11_mouths_30 : decode cX11_mouths 30 = .ok (.putfield 239, 3) := by decide +kernel
theorem dX11_mouths_33 : decode cX11_mouths 33 = .ok (.aload_n 0, 1) := by decide +kernel
theorem dX11_mouths_34 : decode cX11_mouths 34 = .ok (.getfield 40, 3) := by decide +kernel
theorem dX11_mouths_37 : decode cX11_mouths 37 = .ok (.iload_n 2, 1) := by decide +kernel
theorem dX11_mouths_38 : decode cX11_mouths 38 = .ok (.putfield 242, 3) := by decide +kernel
theorem dX11_mouths_41 : decode cX11_mouths 41 = .ok (.iconst 1, 1) := by decide +kernel
theorem dX11_mouths_42 : decode cX11_mouths 42 = .ok (.ireturn, 1) := by decide +kernel
set_option maxRecDepth 20000 in
theorem ggX11_ration_X11_isOutside : GoodIn wsX11_ration wsX11_isOutside := goodIn_r _ [6] (by decide +kernel) (by decide +kernel)
set_option maxRecDepth 20000 in
theorem gX11_ration_X11_isOutside : GoodIn wsX11_ration (va_wsS RX11 60 yX11_isOutside wsX11_isOutside) := goodIn_app (goodIn_of _ (by decide +kernel)) ggX11_ration_X11_isOutside
theorem dX11_ration_0 : decode cX11_ration 0 = .ok (.iload_n 1, 1) := by decide +kernel
theorem dX11_ration_1 : decode cX11_ration 1 = .ok (.iconst 1, 1) := by decide +kernel
theorem dX11_ration_2 : decode cX11_ration 2 = .ok (.bipush 100, 2) := by decide +kernel
theorem dX11_ration_4 : decode cX11_ration 4 = .ok (.invokestatic 60, 3) := by decide +kernel
theorem dX11_ration_7 : decode cX11_ration 7 = .ok (.ifCond .eq 6, 3) := by decide +kernel
theorem dX11_ration_10 : decode cX11_ration 10 = .ok (.bipush (-2), 2) := by decide +kernel
theorem dX11_ration_12 : decode cX11_ration 12 = .ok (.ireturn, 1) := by decide +kernel
theorem dX11_ration_13 : decode cX11_ration 13 = .ok (.aload_n 0, 1) := by decide +kernel
theorem dX11_ration_14 : decode cX11_ration 14 = .ok (.getfield 40, 3) := by decide +kernel
theorem dX11_ration_17 : decode cX11_ration 17 = .ok (.getfield 245, 3) := by decide +kernel
theorem dX11_ration_20 : decode cX11_ration 20 = .ok (.istore_n 2, 1) := by decide +kernel
theorem dX11_ration_21 : decode cX11_ration 21 = .ok (.aload_n 0, 1) := by decide +kernel
theorem dX11_ration_22 : decode cX11_ration 22 = .ok (.getfield 40, 3) := by decide +kernel
theorem dX11_ration_25 : decode cX11_ration 25 = .ok (.iload_n 1, 1) := by decide +kernel
theorem dX11_ration_26 : decode cX11_ration 26 = .ok (.putfield 245, 3) := by decide +kernel
theorem dX11_ration_29 : decode cX11_ration 29 = .ok (.iload_n 2, 1) := by decide +kernel
theorem dX11_ration_30 : decode cX11_ration 30 = .ok (.ireturn, 1) := by decide +kernel
set_option maxRecDepth 20000 in
theorem ggX11_harvest_X11_isOutside : GoodIn wsX11_harvest wsX11_isOutside := goodIn_r _ [7] (by decide +kernel) (by decide +kernel)
set_option maxRecDepth 20000 in
theorem gX11_harvest_X11_isOutside : GoodIn wsX11_harvest (va_wsS RX11 60 yX11_isOutside wsX11_isOutside) := goodIn_app (goodIn_of _ (by decide +kernel)) ggX11_harvest_X11_isOutside
set_option maxRecDepth 20000 in
theorem ggX11_harvest_X11_weekNow : GoodIn wsX11_harvest wsX11_weekNow := goodIn_r _ [11, 12, 21, 22, 23, 24, 25, 26, 27, 28, 29, 30, 31, 32] (by decide +kernel) (by decide +kernel)
set_option maxRecDepth 20000 in
theorem gX11_harvest_X11_weekNow : GoodIn wsX11_harvest (wsV RX11 68 RX11 yX11_weekNow wsX11_weekNow) := goodIn_app (goodIn_of _ (by decide +kernel)) ggX11_harvest_X11_weekNow
set_option maxRecDepth 20000 in
theorem ggX11_harvest_X4_expect : GoodIn wsX11_harvest wsX4_expect := goodIn_r _ [17, 18, 19, 20, 33, 34, 35, 36, 37, 38, 39, 40] (by decide +kernel) (by decide +kernel)
set_option maxRecDepth 20000 in
theorem gX11_harvest_X4_expect : GoodIn wsX11_harvest (wsV RX11 251 RX4 yX4_expect wsX4_expect) := goodIn_app (goodIn_of _ (by decide +kernel)) ggX11_harvest_X4_expect
theorem dX11_harvest_0 : decode cX11_harvest 0 = .ok (.iload_n 1, 1) := by decide +kernel
theorem dX11_harvest_1 : decode cX11_harvest 1 = .ok (.iconst 0, 1) := by decide +kernel
theorem dX11_harvest_2 : decode cX11_harvest 2 = .ok (.sipush 199, 3) := by decide +kernel
theorem dX11_harvest_5 : decode cX11_harvest 5 = .ok (.invokestatic 60, 3) := by decide +kernel
theorem dX11_harvest_8 : decode cX11_harvest 8 = .ok (.ifCond .ne 13, 3) := by decide +kernel
theorem dX11_harvest_11 : decode cX11_harvest 11 = .ok (.iload_n 2, 1) := by decide +kernel
theorem dX11_harvest_12 : decode cX11_harvest 12 = .ok (.iconst 1, 1) := by decide +kernel
theorem dX11_harvest_13 : decode cX11_harvest 13 = .ok (.ldc 234, 2) := by decide +kernel
theorem dX11_harvest_15 : decode cX11_harvest 15 = .ok (.invokestatic 60, 3) := by decide +kernel
theorem dX11_harvest_18 : decode cX11_harvest 18 = .ok (.ifCond .eq 6, 3) := by decide +kernel
theorem dX11_harvest_21 : decode cX11_harvest 21 = .ok (.bipush (-2), 2) := by decide +kernel
theorem dX11_harvest_23 : decode cX11_harvest 23 = .ok (.ireturn, 1) := by decide +kernel
theorem dX11_harvest_24 : decode cX11_harvest 24 = .ok (.aload_n 0, 1) := by decide +kernel
theorem dX11_harvest_25 : decode cX11_harvest 25 = .ok (.getfield 40, 3) := by decide +kernel
theorem dX11_harvest_28 : decode cX11_harvest 28 = .ok (.getfield 248, 3) := by decide +kernel
theorem dX11_harvest_31 : decode cX11_harvest 31 = .ok (.bipush 10, 2) := by decide +kernel
theorem dX11_harvest_33 : decode cX11_harvest 33 = .ok (.if_icmp .lt 6, 3) := by decide +kernel
theorem dX11_harvest_36 : decode cX11_harvest 36 = .ok (.bipush (-4), 2) := by decide +kernel
theorem dX11_harvest_38 : decode cX11_harvest 38 = .ok (.ireturn, 1) := by decide +kernel
theorem dX11_harvest_39 : decode cX11_harvest 39 = .ok (.iload_n 1, 1) := by decide +kernel
theorem dX11_harvest_40 : decode cX11_harvest 40 = .ok (.aload_n 0, 1) := by decide +kernel
theorem dX11_harvest_41 : decode cX11_harvest 41 = .ok (.invokevirtual 68, 3) := by decide +kernel
theorem dX11_harvest_44 : decode cX11_harvest 44 = .ok (.if_icmp .gt 6, 3) := by decide +kernel
theorem dX11_harvest_47 : decode cX11_harvest 47 = .ok (.bipush (-5), 2) := by decide +kernel
theorem dX11_harvest_49 : decode cX11_harvest 49 = .ok (.ireturn, 1) := by decide +kernel
theorem dX11_harvest_50 : decode cX11_harvest 50 = .ok (.aload_n 0, 1) := by decide +kernel
theorem dX11_harvest_51 : decode cX11_harvest 51 = .ok (.getfield 40, 3) := by decide +kernel
theorem dX11_harvest_54 : decode cX11_harvest 54 = .ok (.iload_n 1, 1) := by decide +kernel
theorem dX11_harvest_55 : decode cX11_harvest 55 = .ok (.iload_n 2, 1) := by decide +kernel
theorem dX11_harvest_56 : decode cX11_harvest 56 = .ok (.invokevirtual 251, 3) := by decide +kernel
theorem dX11_harvest_59 : decode cX11_harvest 59 = .ok (.aload_n 0, 1) := by decide +kernel
theorem dX11_harvest_60 : decode cX11_harvest 60 = .ok (.getfield 40, 3) := by decide +kernel
theorem dX11_harvest_63 : decode cX11_harvest 63 = .ok (.getfield 248, 3) := by decide +kernel
theorem dX11_harvest_66 : decode cX11_harvest 66 = .ok (.ireturn, 1) := by decide +kernel
set_option maxRecDepth 20000 in
theorem ggX11_foretell_X11_isOutside : GoodIn wsX11_foretell wsX11_isOutside := goodIn_r _ [5] (by decide +kernel) (by decide +kernel)
set_option maxRecDepth 20000 in
theorem gX11_foretell_X11_isOutside : GoodIn wsX11_foretell (va_wsS RX11 60 yX11_isOutside wsX11_isOutside) := goodIn_app (goodIn_of _ (by decide +kernel)) ggX11_foretell_X11_isOutside
set_option maxRecDepth 20000 in
theorem ggX11_foretell_X11_weekNow : GoodIn wsX11_foretell wsX11_weekNow := goodIn_r _ [9, 10, 33, 34, 35, 36, 37, 38, 39, 40, 41, 42, 43, 44] (by decide +kernel) (by decide +kernel)
set_option maxRecDepth 20000 in
theorem gX11_foretell_X11_weekNow : GoodIn wsX11_foretell (wsV RX11 68 RX11 yX11_weekNow wsX11_weekNow) := goodIn_app (goodIn_of _ (by decide +kernel)) ggX11_foretell_X11_weekNow
set_option maxRecDepth 20000 in
theorem ggX11_foretell_X4_firstHunger : GoodIn wsX11_foretell wsX4_firstHunger := goodIn_r _ [15, 16, 17, 18, 19, 14, 20, 21, 22, 23, 24, 25, 26, 27, 28, 29, 30, 31, 32, 45, 46, 47, 48, 49, 50, 51, 52] (by decide +kernel) (by decide +kernel)
set_option maxRecDepth 20000 in
theorem gX11_foretell_X4_firstHunger : GoodIn wsX11_foretell (wsV RX11 254 RX4 yX4_firstHunger wsX4_firstHunger) := goodIn_app (goodIn_of _ (by decide +kernel)) ggX11_foretell_X4_firstHunger
theorem dX11_foretell_0 : decode cX11_foretell 0 = .ok (.iload_n 1, 1) := by decide +kernel
theorem dX11_foretell_1 : decode cX11_foretell 1 = .ok (.iconst 1, 1) := by decide +kernel
theorem dX11_foretell_2 : decode cX11_foretell 2 = .ok (.bipush 100, 2) := by decide +kernel
theorem dX11_foretell_4 : decode cX11_foretell 4 = .ok (.invokestatic 60, 3) := by decide +kernel
theorem dX11_foretell_7 : decode cX11_foretell 7 = .ok (.ifCond .eq 6, 3) := by decide +kernel
theorem dX11_foretell_10 : decode cX11_foretell 10 = .ok (.bipush (-2), 2) := by decide +kernel
theorem dX11_foretell_12 : decode cX11_foretell 12 = .ok (.ireturn, 1) := by decide +kernel
theorem dX11_foretell_13 : decode cX11_foretell 13 = .ok (.aload_n 0, 1) := by decide +kernel
theorem dX11_foretell_14 : decode cX11_foretell 14 = .ok (.getfield 40, 3) := by decide +kernel
theorem dX11_foretell_17 : decode cX11_foretell 17 = .ok (.aload_n 0, 1) := by decide +kernel
theorem dX11_foretell_18 : decode cX11_foretell 18 = .ok (.invokevirtual 68, 3) := by decide +kernel
theorem dX11_foretell_21 : decode cX11_foretell 21 = .ok (.sipush 199, 3) := by decide +kernel
theorem dX11_foretell_24 : decode cX11_foretell 24 = .ok (.iload_n 1, 1) := by decide +kernel
theorem dX11_foretell_25 : decode cX11_foretell 25 = .ok (.invokevirtual 254, 3) := by decide +kernel
theorem dX11_foretell_28 : decode cX11_foretell 28 = .ok (.ireturn, 1) := by decide +kernel
set_option maxRecDepth 20000 in
theorem ggX11_order_X11_weekNow : GoodIn wsX11_order wsX11_weekNow := goodIn_r _ [6, 7, 37, 38, 39, 40, 41, 42, 43, 44, 45, 46, 47, 48] (by decide +kernel) (by decide +kernel)
set_option maxRecDepth 20000 in
theorem gX11_order_X11_weekNow : GoodIn wsX11_order (wsV RX11 68 RX11 yX11_weekNow wsX11_weekNow) := goodIn_app (goodIn_of _ (by decide +kernel)) ggX11_order_X11_weekNow
set_option maxRecDepth 20000 in
theorem ggX11_order_X11_isOutside : GoodIn wsX11_order wsX11_isOutside := goodIn_r _ [10] (by decide +kernel) (by decide +kernel)
set_option maxRecDepth 20000 in
theorem gX11_order_X11_isOutside : GoodIn wsX11_order (va_wsS RX11 60 yX11_isOutside wsX11_isOutside) := goodIn_app (goodIn_of _ (by decide +kernel)) ggX11_order_X11_isOutside
set_option maxRecDepth 20000 in
theorem ggX11_order_X4_greatestRation : GoodIn wsX11_order wsX4_greatestRation := goodIn_r _ [15, 16, 17, 18, 14, 19, 20, 21, 22, 23, 24, 25, 26, 27, 28, 29, 30, 31, 32, 33, 34, 35, 36, 49, 50, 51, 52, 53, 54, 55, 56] (by decide +kernel) (by decide +kernel)
set_option maxRecDepth 20000 in
theorem gX11_order_X4_greatestRation : GoodIn wsX11_order (wsV RX11 258 RX4 yX4_greatestRation wsX4_greatestRation) := goodIn_app (goodIn_of _ (by decide +kernel)) ggX11_order_X4_greatestRation
theorem dX11_order_0 : decode cX11_order 0 = .ok (.iload_n 1, 1) := by decide +kernel
theorem dX11_order_1 : decode cX11_order 1 = .ok (.aload_n 0, 1) := by decide +kernel
theorem dX11_order_2 : decode cX11_order 2 = .ok (.invokevirtual 68, 3) := by decide +kernel
theorem dX11_order_5 : decode cX11_order 5 = .ok (.sipush 199, 3) := by decide +kernel
theorem dX11_order_8 : decode cX11_order 8 = .ok (.invokestatic 60, 3) := by decide +kernel
theorem dX11_order_11 : decode cX11_order 11 = .ok (.ifCond .eq 6, 3) := by decide +kernel
theorem dX11_order_14 : decode cX11_order 14 = .ok (.bipush (-2), 2) := by decide +kernel
theorem dX11_order_16 : decode cX11_order 16 = .ok (.ireturn, 1) := by decide +kernel
theorem dX11_order_17 : decode cX11_order 17 = .ok (.aload_n 0, 1) := by decide +kernel
theorem dX11_order_18 : decode cX11_order 18 = .ok (.getfield 40, 3) := by decide +kernel
theorem dX11_order_21 : decode cX11_order 21 = .ok (.aload_n 0, 1) := by decide +kernel
theorem dX11_order_22 : decode cX11_order 22 = .ok (.invokevirtual 68, 3) := by decide +kernel
theorem dX11_order_25 : decode cX11_order 25 = .ok (.iload_n 1, 1) := by decide +kernel
theorem dX11_order_26 : decode cX11_order 26 = .ok (.invokevirtual 258, 3) := by decide +kernel
theorem dX11_order_29 : decode cX11_order 29 = .ok (.ireturn, 1) := by decide +kernel
set_option maxRecDepth 20000 in
theorem ggX11_told_X11_weekNow : GoodIn wsX11_told wsX11_weekNow := goodIn_r _ [17, 1, 18, 19, 20, 21, 22, 23, 24, 25, 26, 27, 28, 29] (by decide +kernel) (by decide +kernel)
set_option maxRecDepth 20000 in
theorem gX11_told_X11_weekNow : GoodIn wsX11_told (wsV RX11 68 RX11 yX11_weekNow wsX11_weekNow) := goodIn_app (goodIn_of _ (by decide +kernel)) ggX11_told_X11_weekNow
theorem dX11_told_0 : decode cX11_told 0 = .ok (.iload_n 1, 1) := by decide +kernel
theorem dX11_told_1 : decode cX11_told 1 = .ok (.tableswitch 127 0 9 #[55, 60, 69, 74, 82, 90, 95, 103, 111, 119], 55) := by decide +kernel
theorem dX11_told_56 : decode cX11_told 56 = .ok (.aload_n 0, 1) := by decide +kernel
theorem dX11_told_57 : decode cX11_told 57 = .ok (.invokevirtual 68, 3) := by decide +kernel
theorem dX11_told_60 : decode cX11_told 60 = .ok (.ireturn, 1) := by decide +kernel
theorem dX11_told_61 : decode cX11_told 61 = .ok (.aload_n 0, 1) := by decide +kernel
theorem dX11_told_62 : decode cX11_told 62 = .ok (.getfield 64, 3) := by decide +kernel
theorem dX11_told_65 : decode cX11_told 65 = .ok (.sipush 168, 3) := by decide +kernel
theorem dX11_told_68 : decode cX11_told 68 = .ok (.irem, 1) := by decide +kernel
theorem dX11_told_69 : decode cX11_told 69 = .ok (.ireturn, 1) := by decide +kernel
theorem dX11_told_70 : decode cX11_told 70 = .ok (.aload_n 0, 1) := by decide +kernel
theorem dX11_told_71 : decode cX11_told 71 = .ok (.getfield 79, 3) := by decide +kernel
theorem dX11_told_74 : decode cX11_told 74 = .ok (.ireturn, 1) := by decide +kernel
theorem dX11_told_75 : decode cX11_told 75 = .ok (.aload_n 0, 1) := by decide +kernel
theorem dX11_told_76 : decode cX11_told 76 = .ok (.getfield 26, 3) := by decide +kernel
theorem dX11_told_79 : decode cX11_told 79 = .ok (.getfield 136, 3) := by decide +kernel
theorem dX11_told_82 : decode cX11_told 82 = .ok (.ireturn, 1) := by decide +kernel
theorem dX11_told_83 : decode cX11_told 83 = .ok (.aload_n 0, 1) := by decide +kernel
theorem dX11_told_84 : decode cX11_told 84 = .ok (.getfield 10, 3) := by decide +kernel
theorem dX11_told_87 : decode cX11_told 87 = .ok (.getfield 97, 3) := by decide +kernel
theorem dX11_told_90 : decode cX11_told 90 = .ok (.ireturn, 1) := by decide +kernel
theorem dX11_told_91 : decode cX11_told 91 = .ok (.aload_n 0, 1) := by decide +kernel
theorem dX11_told_92 : decode cX11_told 92 = .ok (.getfield 262, 3) := by decide +kernel
theorem dX11_told_95 : decode cX11_told 95 = .ok (.ireturn, 1) := by decide +kernel
theorem dX11_told_96 : decode cX11_told 96 = .ok (.aload_n 0, 1) := by decide +kernel
theorem dX11_told_97 : decode cX11_told 97 = .ok (.getfield 40, 3) := by decide +kernel
theorem dX11_told_100 : decode cX11_told 100 = .ok (.getfield 235, 3) := by decide +kernel
theorem dX11_told_103 : decode cX11_told 103 = .ok (.ireturn, 1) := by decide +kernel
theorem dX11_told_104 : decode cX11_told 104 = .ok (.aload_n 0, 1) := by decide +kernel
theorem dX11_told_105 : decode cX11_told 105 = .ok (.getfield 40, 3) := by decide +kernel
theorem dX11_told_108 : decode cX11_told 108 = .ok (.getfield 265, 3) := by decide +kernel
theorem dX11_told_111 : decode cX11_told 111 = .ok (.ireturn, 1) := by decide +kernel
theorem dX11_told_112 : decode cX11_told 112 = .ok (.aload_n 0, 1) := by decide +kernel
theorem dX11_told_113 : decode cX11_told 113 = .ok (.getfield 40, 3) := by decide +kernel
theorem dX11_told_116 : decode cX11_told 116 = .ok (.getfield 245, 3) := by decide +kernel
theorem dX11_told_119 : decode cX11_told 119 = .ok (.ireturn, 1) := by decide +kernel
theorem dX11_told_120 : decode cX11_told 120 = .ok (.aload_n 0, 1) := by decide +kernel
theorem dX11_told_121 : decode cX11_told 121 = .ok (.getfield 40, 3) := by decide +kernel
theorem dX11_told_124 : decode cX11_told 124 = .ok (.getfield 248, 3) := by decide +kernel
theorem dX11_told_127 : decode cX11_told 127 = .ok (.ireturn, 1) := by decide +kernel
theorem dX11_told_128 : decode cX11_told 128 = .ok (.bipush (-2), 2) := by decide +kernel
theorem dX11_told_130 : decode cX11_told 130 = .ok (.ireturn, 1) := by decide +kernel
theorem dX11_isOutside_0 : decode cX11_isOutside 0 = .ok (.iload_n 0, 1) := by decide +kernel
theorem dX11_isOutside_1 : decode cX11_isOutside 1 = .ok (.iload_n 1, 1) := by decide +kernel
theorem dX11_isOutside_2 : decode cX11_isOutside 2 = .ok (.if_icmp .lt 8, 3) := by decide +kernel
theorem dX11_isOutside_5 : decode cX11_isOutside 5 = .ok (.iload_n 0, 1) := by decide +kernel
theorem dX11_isOutside_6 : decode cX11_isOutside 6 = .ok (.iload_n 2, 1) := by decide +kernel
theorem dX11_isOutside_7 : decode cX11_isOutside 7 = .ok (.if_icmp .le 7, 3) := by decide +kernel
theorem dX11_isOutside_10 : decode cX11_isOutside 10 = .ok (.iconst 1, 1) := by decide +kernel
theorem dX11_isOutside_11 : decode cX11_isOutside 11 = .ok (.goto 4, 3) := by decide +kernel
theorem dX11_isOutside_14 : decode cX11_isOutside 14 = .ok (.iconst 0, 1) := by decide +kernel
theorem dX11_isOutside_15 : decode cX11_isOutside 15 = .ok (.ireturn, 1) := by decide +kernel
theorem dX11_weekNow_0 : decode cX11_weekNow 0 = .ok (.aload_n 0, 1) := by decide +kernel
theorem dX11_weekNow_1 : decode cX11_weekNow 1 = .ok (.getfield 64, 3) := by decide +kernel
theorem dX11_weekNow_4 : decode cX11_weekNow 4 = .ok (.sipush 168, 3) := by decide +kernel
theorem dX11_weekNow_7 : decode cX11_weekNow 7 = .ok (.idiv, 1) := by decide +kernel
theorem dX11_weekNow_8 : decode cX11_weekNow 8 = .ok (.ireturn, 1) := by decide +kernel
theorem dX11_bakerAt_0 : decode cX11_bakerAt 0 = .ok (.iload_n 1, 1) := by decide +kernel
theorem dX11_bakerAt_1 : decode cX11_bakerAt 1 = .ok (.ifCond .lt 11, 3) := by decide +kernel
theorem dX11_bakerAt_4 : decode cX11_bakerAt 4 = .ok (.iload_n 1, 1) := by decide +kernel
theorem dX11_bakerAt_5 : decode cX11_bakerAt 5 = .ok (.aload_n 0, 1) := by decide +kernel
theorem dX11_bakerAt_6 : decode cX11_bakerAt 6 = .ok (.getfield 79, 3) := by decide +kernel
theorem dX11_bakerAt_9 : decode cX11_bakerAt 9 = .ok (.if_icmp .lt 7, 3) := by decide +kernel
theorem dX11_bakerAt_12 : decode cX11_bakerAt 12 = .ok (.aconst_null, 1) := by decide +kernel
theorem dX11_bakerAt_13 : decode cX11_bakerAt 13 = .ok (.goto 9, 3) := by decide +kernel
theorem dX11_bakerAt_16 : decode cX11_bakerAt 16 = .ok (.aload_n 0, 1) := by decide +kernel
theorem dX11_bakerAt_17 : decode cX11_bakerAt 17 = .ok (.getfield 46, 3) := by decide +kernel
theorem dX11_bakerAt_20 : decode cX11_bakerAt 20 = .ok (.iload_n 1, 1) := by decide +kernel
theorem dX11_bakerAt_21 : decode cX11_bakerAt 21 = .ok (.aaload, 1) := by decide +kernel
theorem dX11_bakerAt_22 : decode cX11_bakerAt 22 = .ok (.areturn, 1) := by decide +kernel
set_option maxRecDepth 20000 in
theorem ggX11_toMill_X2_queueFlour : GoodIn wsX11_toMill wsX2_queueFlour := goodIn_r _ [14, 15, 16, 71, 72, 73, 74, 75, 76, 77] (by decide +kernel) (by decide +kernel)
set_option maxRecDepth 20000 in
theorem gX11_toMill_X2_queueFlour : GoodIn wsX11_toMill (wsV RX11 270 RX2 yX2_queueFlour wsX2_queueFlour) := goodIn_app (goodIn_of _ (by decide +kernel)) ggX11_toMill_X2_queueFlour
set_option maxRecDepth 20000 in
theorem ggX11_toMill_X11_bakerAt : GoodIn wsX11_toMill wsX11_bakerAt := goodIn_r _ [21, 22, 23, 24, 25, 26, 27, 28, 29, 30, 31, 32, 33, 34, 35] (by decide +kernel) (by decide +kernel)
set_option maxRecDepth 20000 in
theorem gX11_toMill_X11_bakerAt : GoodIn wsX11_toMill (wsV RX11 86 RX11 yX11_bakerAt wsX11_bakerAt) := goodIn_app (goodIn_of _ (by decide +kernel)) ggX11_toMill_X11_bakerAt
theorem dX11_toMill_0 : decode cX11_toMill 0 = .ok (.aload_n 0, 1) := by decide +kernel
theorem dX11_toMill_1 : decode cX11_toMill 1 = .ok (.getfield 50, 3) := by decide +kernel
theorem dX11_toMill_4 : decode cX11_toMill 4 = .ok (.ifCond .le 15, 3) := by decide +kernel
theorem dX11_toMill_7 : decode cX11_toMill 7 = .ok (.aload_n 1, 1) := by decide +kernel
theorem dX11_toMill_8 : decode cX11_toMill 8 = .ok (.getfield 268, 3) := by decide +kernel
theorem dX11_toMill_11 : decode cX11_toMill 11 = .ok (.aload_n 0, 1) := by decide +kernel
theorem dX11_toMill_12 : decode cX11_toMill 12 = .ok (.getfield 50, 3) := by decide +kernel
theorem dX11_toMill_15 : decode cX11_toMill 15 = .ok (.idiv, 1) := by decide +kernel
theorem dX11_toMill_16 : decode cX11_toMill 16 = .ok (.goto 4, 3) := by decide +kernel
theorem dX11_toMill_19 : decode cX11_toMill 19 = .ok (.iconst 0, 1) := by decide +kernel
theorem dX11_toMill_20 : decode cX11_toMill 20 = .ok (.istore_n 2, 1) := by decide +kernel
theorem dX11_toMill_21 : decode cX11_toMill 21 = .ok (.aload_n 1, 1) := by decide +kernel
theorem dX11_toMill_22 : decode cX11_toMill 22 = .ok (.iconst 1, 1) := by decide +kernel
theorem dX11_toMill_23 : decode cX11_toMill 23 = .ok (.putfield 121, 3) := by decide +kernel
theorem dX11_toMill_26 : decode cX11_toMill 26 = .ok (.aload_n 1, 1) := by decide +kernel
theorem dX11_toMill_27 : decode cX11_toMill 27 = .ok (.aload_n 1, 1) := by decide +kernel
theorem dX11_toMill_28 : decode cX11_toMill 28 = .ok (.getfield 268, 3) := by decide +kernel
theorem dX11_toMill_31 : decode cX11_toMill 31 = .ok (.iload_n 2, 1) := by decide +kernel
theorem dX11_toMill_32 : decode cX11_toMill 32 = .ok (.isub, 1) := by decide +kernel
theorem dX11_toMill_33 : decode cX11_toMill 33 = .ok (.putfield 269, 3) := by decide +kernel
theorem dX11_toMill_36 : decode cX11_toMill 36 = .ok (.aload_n 0, 1) := by decide +kernel
theorem dX11_toMill_37 : decode cX11_toMill 37 = .ok (.getfield 10, 3) := by decide +kernel
theorem dX11_toMill_40 : decode cX11_toMill 40 = .ok (.aload_n 1, 1) := by decide +kernel
theorem dX11_toMill_41 : decode cX11_toMill 41 = .ok (.invokevirtual 270, 3) := by decide +kernel
theorem dX11_toMill_44 : decode cX11_toMill 44 = .ok (.aload_n 0, 1) := by decide +kernel
theorem dX11_toMill_45 : decode cX11_toMill 45 = .ok (.aload_n 1, 1) := by decide +kernel
theorem dX11_toMill_46 : decode cX11_toMill 46 = .ok (.getfield 273, 3) := by decide +kernel
theorem dX11_toMill_49 : decode cX11_toMill 49 = .ok (.invokevirtual 86, 3) := by decide +kernel
theorem dX11_toMill_52 : decode cX11_toMill 52 = .ok (.astore_n 3, 1) := by decide +kernel
theorem dX11_toMill_53 : decode cX11_toMill 53 = .ok (.aload_n 3, 1) := by decide +kernel
theorem dX11_toMill_54 : decode cX11_toMill 54 = .ok (.ifnull 16, 3) := by decide +kernel
theorem dX11_toMill_57 : decode cX11_toMill 57 = .ok (.aload_n 3, 1) := by decide +kernel
theorem dX11_toMill_58 : decode cX11_toMill 58 = .ok (.dup, 1) := by decide +kernel
theorem dX11_toMill_59 : decode cX11_toMill 59 = .ok (.getfield 167, 3) := by decide +kernel
theorem dX11_toMill_62 : decode cX11_toMill 62 = .ok (.aload_n 1, 1) := by decide +kernel
theorem dX11_toMill_63 : decode cX11_toMill 63 = .ok (.getfield 269, 3) := by decide +kernel
theorem dX11_toMill_66 : decode cX11_toMill 66 = .ok (.iadd, 1) := by decide +kernel
theorem dX11_toMill_67 : decode cX11_toMill 67 = .ok (.putfield 167, 3) := by decide +kernel
theorem dX11_toMill_70 : decode cX11_toMill 70 = .ok (.aload_n 0, 1) := by decide +kernel
theorem dX11_toMill_71 : decode cX11_toMill 71 = .ok (.dup, 1) := by decide +kernel
theorem dX11_toMill_72 : decode cX11_toMill 72 = .ok (.getfield 262, 3) := by decide +kernel
theorem dX11_toMill_75 : decode cX11_toMill 75 = .ok (.iload_n 2, 1) := by decide +kernel
theorem dX11_toMill_76 : decode cX11_toMill 76 = .ok (.iadd, 1) := by decide +kernel
theorem dX11_toMill_77 : decode cX11_toMill 77 = .ok (.putfield 262, 3) := by decide +kernel
theorem dX11_toMill_80 : decode cX11_toMill 80 = .ok (.iload_n 2, 1) := by decide +kernel
theorem dX11_toMill_81 : decode cX11_toMill 81 = .ok (.ireturn, 1) := by decide +kernel
set_option maxRecDepth 20000 in
theorem ggX11_dueBy_X7_priceOf : GoodIn wsX11_dueBy wsX7_priceOf := goodIn_r _ [6, 7, 8, 9, 10, 11, 12, 38, 39] (by decide +kernel) (by decide +kernel)
set_option maxRecDepth 20000 in
theorem gX11_dueBy_X7_priceOf : GoodIn wsX11_dueBy (wsV RX11 129 RX7 yX7_priceOf wsX7_priceOf) := goodIn_app (goodIn_of _ (by decide +kernel)) ggX11_dueBy_X7_priceOf
set_option maxRecDepth 20000 in
theorem ggX11_dueBy_X9_loaf : GoodIn wsX11_dueBy wsX9_loaf := goodIn_r _ [17, 18, 19, 20, 21, 16, 22, 23, 24, 25, 40, 41, 42, 43, 44, 45, 46] (by decide +kernel) (by decide +kernel)
set_option maxRecDepth 20000 in
theorem gX11_dueBy_X9_loaf : GoodIn wsX11_dueBy (wsV RX11 274 RX9 yX9_loaf wsX9_loaf) := goodIn_app (goodIn_of _ (by decide +kernel)) ggX11_dueBy_X9_loaf
theorem dX11_dueBy_0 : decode cX11_dueBy 0 = .ok (.aload_n 1, 1) := by decide +kernel
theorem dX11_dueBy_1 : decode cX11_dueBy 1 = .ok (.ifnonnull 7, 3) := by decide +kernel
theorem dX11_dueBy_4 : decode cX11_dueBy 4 = .ok (.iconst 0, 1) := by decide +kernel
theorem dX11_dueBy_5 : decode cX11_dueBy 5 = .ok (.goto 18, 3) := by decide +kernel
theorem dX11_dueBy_8 : decode cX11_dueBy 8 = .ok (.aload_n 1, 1) := by decide +kernel
theorem dX11_dueBy_9 : decode cX11_dueBy 9 = .ok (.iload_n 2, 1) := by decide +kernel
theorem dX11_dueBy_10 : decode cX11_dueBy 10 = .ok (.aload_n 0, 1) := by decide +kernel
theorem dX11_dueBy_11 : decode cX11_dueBy 11 = .ok (.getfield 19, 3) := by decide +kernel
theorem dX11_dueBy_14 : decode cX11_dueBy 14 = .ok (.iload_n 3, 1) := by decide +kernel
theorem dX11_dueBy_15 : decode cX11_dueBy 15 = .ok (.iconst 1, 1) := by decide +kernel
theorem dX11_dueBy_16 : decode cX11_dueBy 16 = .ok (.isub, 1) := by decide +kernel
theorem dX11_dueBy_17 : decode cX11_dueBy 17 = .ok (.invokevirtual 129, 3) := by decide +kernel
theorem dX11_dueBy_20 : decode cX11_dueBy 20 = .ok (.invokevirtual 274, 3) := by decide +kernel
theorem dX11_dueBy_23 : decode cX11_dueBy 23 = .ok (.ireturn, 1) := by decide +kernel
set_option maxRecDepth 20000 in
theorem ggX11_weighLatest_X3_week : GoodIn wsX11_weighLatest wsX3_week := goodIn_r _ [22, 23, 95, 96, 97, 98, 99, 100, 101, 102, 103, 104, 105, 106, 107, 108, 109, 110, 111, 112, 113, 114, 115, 116, 117, 118, 119, 120, 121] (by decide +kernel) (by decide +kernel)
set_option maxRecDepth 20000 in
theorem gX11_weighLatest_X3_week_u277X1 : GoodIn wsX11_weighLatest (va_wsU RX11 277 RX1 "BreadLaw$Entry" ⟨"BreadLaw$Batch", "week", "()I"⟩ yX3_week wsX3_week) := goodIn_app (goodIn_of _ (by decide +kernel)) ggX11_weighLatest_X3_week
set_option maxRecDepth 20000 in
theorem ggX11_weighLatest_X5_ruling : GoodIn wsX11_weighLatest wsX5_ruling := goodIn_r _ [28, 29, 30, 31, 122, 123, 88, 89, 90, 91, 92, 93, 94] (by decide +kernel) (by decide +kernel)
set_option maxRecDepth 20000 in
theorem gX11_weighLatest_X5_ruling : GoodIn wsX11_weighLatest (wsV RX11 157 RX5 yX5_ruling wsX5_ruling) := goodIn_app (goodIn_of _ (by decide +kernel)) ggX11_weighLatest_X5_ruling
set_option maxRecDepth 20000 in
theorem ggX11_weighLatest_X11_lessened : GoodIn wsX11_weighLatest wsX11_lessened := goodIn_r _ [35, 36, 37, 38, 39] (by decide +kernel) (by decide +kernel)
set_option maxRecDepth 20000 in
theorem gX11_weighLatest_X11_lessened : GoodIn wsX11_weighLatest (va_wsS RX11 291 yX11_lessened wsX11_lessened) := goodIn_app (goodIn_of _ (by decide +kernel)) ggX11_weighLatest_X11_lessened
set_option maxRecDepth 20000 in
theorem ggX11_weighLatest_X11_dueBy : GoodIn wsX11_weighLatest wsX11_dueBy := goodIn_r _ [43, 44, 45, 46, 47, 48, 49, 50, 51, 38, 52, 53, 54, 55, 56, 57, 58, 59, 60, 61, 62, 63, 64, 65, 66, 67, 76, 77, 78, 79, 80, 81, 82, 83, 84, 85, 86, 87, 124, 125, 88, 89, 90, 91, 92, 93, 94] (by decide +kernel) (by decide +kernel)
set_option maxRecDepth 20000 in
theorem gX11_weighLatest_X11_dueBy : GoodIn wsX11_weighLatest (wsV RX11 160 RX11 yX11_dueBy wsX11_dueBy) := goodIn_app (goodIn_of _ (by decide +kernel)) ggX11_weighLatest_X11_dueBy
theorem dX11_weighLatest_0 : decode cX11_weighLatest 0 = .ok (.aload_n 2, 1) := by decide +kernel
theorem dX11_weighLatest_1 : decode cX11_weighLatest 1 = .ok (.getfield 180, 3) := by decide +kernel
theorem dX11_weighLatest_4 : decode cX11_weighLatest 4 = .ok (.astore_n 3, 1) := by decide +kernel
theorem dX11_weighLatest_5 : decode cX11_weighLatest 5 = .ok (.aload_n 3, 1) := by decide +kernel
theorem dX11_weighLatest_6 : decode cX11_weighLatest 6 = .ok (.ifnonnull 4, 3) := by decide +kernel
theorem dX11_weighLatest_9 : decode cX11_weighLatest 9 = .ok (.return_, 1) := by decide +kernel
theorem dX11_weighLatest_10 : decode cX11_weighLatest 10 = .ok (.aload_n 0, 1) := by decide +kernel
theorem dX11_weighLatest_11 : decode cX11_weighLatest 11 = .ok (.getfield 26, 3) := by decide +kernel
theorem dX11_weighLatest_14 : decode cX11_weighLatest 14 = .ok (.aload_n 3, 1) := by decide +kernel
theorem dX11_weighLatest_15 : decode cX11_weighLatest 15 = .ok (.invokevirtual 277, 3) := by decide +kernel
theorem dX11_weighLatest_18 : decode cX11_weighLatest 18 = .ok (.invokevirtual 157, 3) := by decide +kernel
theorem dX11_weighLatest_21 : decode cX11_weighLatest 21 = .ok (.astore 4, 2) := by decide +kernel
theorem dX11_weighLatest_23 : decode cX11_weighLatest 23 = .ok (.aload 4, 2) := by decide +kernel
theorem dX11_weighLatest_25 : decode cX11_weighLatest 25 = .ok (.ifnonnull 7, 3) := by decide +kernel
theorem dX11_weighLatest_28 : decode cX11_weighLatest 28 = .ok (.iconst 0, 1) := by decide +kernel
theorem dX11_weighLatest_29 : decode cX11_weighLatest 29 = .ok (.goto 8, 3) := by decide +kernel
theorem dX11_weighLatest_32 : decode cX11_weighLatest 32 = .ok (.aload 4, 2) := by decide +kernel
theorem dX11_weighLatest_34 : decode cX11_weighLatest 34 = .ok (.getfield 278, 3) := by decide +kernel
theorem dX11_weighLatest_37 : decode cX11_weighLatest 37 = .ok (.istore 5, 2) := by decide +kernel
theorem dX11_weighLatest_39 : decode cX11_weighLatest 39 = .ok (.aload_n 1, 1) := by decide +kernel
theorem dX11_weighLatest_40 : decode cX11_weighLatest 40 = .ok (.aload_n 3, 1) := by decide +kernel
theorem dX11_weighLatest_41 : decode cX11_weighLatest 41 = .ok (.getfield 184, 3) := by decide +kernel
theorem dX11_weighLatest_44 : decode cX11_weighLatest 44 = .ok (.putfield 281, 3) := by decide +kernel
theorem dX11_weighLatest_47 : decode cX11_weighLatest 47 = .ok (.aload_n 1, 1) := by decide +kernel
theorem dX11_weighLatest_48 : decode cX11_weighLatest 48 = .ok (.aload_n 0, 1) := by decide +kernel
theorem dX11_weighLatest_49 : decode cX11_weighLatest 49 = .ok (.getfield 64, 3) := by decide +kernel
theorem dX11_weighLatest_52 : decode cX11_weighLatest 52 = .ok (.aload_n 3, 1) := by decide +kernel
theorem dX11_weighLatest_53 : decode cX11_weighLatest 53 = .ok (.getfield 284, 3) := by decide +kernel
theorem dX11_weighLatest_56 : decode cX11_weighLatest 56 = .ok (.isub, 1) := by decide +kernel
theorem dX11_weighLatest_57 : decode cX11_weighLatest 57 = .ok (.putfield 285, 3) := by decide +kernel
theorem dX11_weighLatest_60 : decode cX11_weighLatest 60 = .ok (.aload_n 1, 1) := by decide +kernel
theorem dX11_weighLatest_61 : decode cX11_weighLatest 61 = .ok (.aload_n 3, 1) := by decide +kernel
theorem dX11_weighLatest_62 : decode cX11_weighLatest 62 = .ok (.getfield 288, 3) := by decide +kernel
theorem dX11_weighLatest_65 : decode cX11_weighLatest 65 = .ok (.aload_n 0, 1) := by decide +kernel
theorem dX11_weighLatest_66 : decode cX11_weighLatest 66 = .ok (.getfield 54, 3) := by decide +kernel
theorem dX11_weighLatest_69 : decode cX11_weighLatest 69 = .ok (.aload_n 1, 1) := by decide +kernel
theorem dX11_weighLatest_70 : decode cX11_weighLatest 70 = .ok (.getfield 285, 3) := by decide +kernel
theorem dX11_weighLatest_73 : decode cX11_weighLatest 73 = .ok (.invokestatic 291, 3) := by decide +kernel
theorem dX11_weighLatest_76 : decode cX11_weighLatest 76 = .ok (.putfield 294, 3) := by decide +kernel
theorem dX11_weighLatest_79 : decode cX11_weighLatest 79 = .ok (.aload_n 1, 1) := by decide +kernel
theorem dX11_weighLatest_80 : decode cX11_weighLatest 80 = .ok (.aload_n 0, 1) := by decide +kernel
theorem dX11_weighLatest_81 : decode cX11_weighLatest 81 = .ok (.aload 4, 2) := by decide +kernel
theorem dX11_weighLatest_83 : decode cX11_weighLatest 83 = .ok (.aload_n 3, 1) := by decide +kernel
theorem dX11_weighLatest_84 : decode cX11_weighLatest 84 = .ok (.getfield 297, 3) := by decide +kernel
theorem dX11_weighLatest_87 : decode cX11_weighLatest 87 = .ok (.aload_n 3, 1) := by decide +kernel
theorem dX11_weighLatest_88 : decode cX11_weighLatest 88 = .ok (.invokevirtual 277, 3) := by decide +kernel
theorem dX11_weighLatest_91 : decode cX11_weighLatest 91 = .ok (.invokevirtual 160, 3) := by decide +kernel
theorem dX11_weighLatest_94 : decode cX11_weighLatest 94 = .ok (.iload 5, 2) := by decide +kernel
theorem dX11_weighLatest_96 : decode cX11_weighLatest 96 = .ok (.aload_n 1, 1) := by decide +kernel
theorem dX11_weighLatest_97 : decode cX11_weighLatest 97 = .ok (.getfield 285, 3) := by decide +kernel
theorem dX11_weighLatest_100 : decode cX11_weighLatest 100 = .ok (.invokestatic 291, 3) := by decide +kernel
theorem dX11_weighLatest_103 : decode cX11_weighLatest 103 = .ok (.putfield 300, 3) := by decide +kernel
theorem dX11_weighLatest_106 : decode cX11_weighLatest 106 = .ok (.aload_n 1, 1) := by decide +kernel
theorem dX11_weighLatest_107 : decode cX11_weighLatest 107 = .ok (.aload_n 1, 1) := by decide +kernel
theorem dX11_weighLatest_108 : decode cX11_weighLatest 108 = .ok (.getfield 294, 3) := by decide +kernel
theorem dX11_weighLatest_111 : decode cX11_weighLatest 111 = .ok (.aload_n 1, 1) := by decide +kernel
theorem dX11_weighLatest_112 : decode cX11_weighLatest 112 = .ok (.getfield 300, 3) := by decide +kernel
theorem dX11_weighLatest_115 : decode cX11_weighLatest 115 = .ok (.if_icmp .ge 7, 3) := by decide +kernel
theorem dX11_weighLatest_118 : decode cX11_weighLatest 118 = .ok (.iconst 1, 1) := by decide +kernel
theorem dX11_weighLatest_119 : decode cX11_weighLatest 119 = .ok (.goto 4, 3) := by decide +kernel
theorem dX11_weighLatest_122 : decode cX11_weighLatest 122 = .ok (.iconst 0, 1) := by decide +kernel
theorem dX11_weighLatest_123 : decode cX11_weighLatest 123 = .ok (.putfield 203, 3) := by decide +kernel
theorem dX11_weighLatest_126 : decode cX11_weighLatest 126 = .ok (.return_, 1) := by decide +kernel
theorem dX11_lessened_0 : decode cX11_lessened 0 = .ok (.iconst 0, 1) := by decide +kernel
theorem dX11_lessened_1 : decode cX11_lessened 1 = .ok (.iload_n 0, 1) := by decide +kernel
theorem dX11_lessened_2 : decode cX11_lessened 2 = .ok (.sipush 1000, 3) := by decide +kernel
theorem dX11_lessened_5 : decode cX11_lessened 5 = .ok (.iload_n 1, 1) := by decide +kernel
theorem dX11_lessened_6 : decode cX11_lessened 6 = .ok (.iload_n 2, 1) := by decide +kernel
theorem dX11_lessened_7 : decode cX11_lessened 7 = .ok (.imul, 1) := by decide +kernel
theorem dX11_lessened_8 : decode cX11_lessened 8 = .ok (.isub, 1) := by decide +kernel
theorem dX11_lessened_9 : decode cX11_lessened 9 = .ok (.imul, 1) := by decide +kernel
theorem dX11_lessened_10 : decode cX11_lessened 10 = .ok (.sipush 1000, 3) := by decide +kernel
theorem dX11_lessened_13 : decode cX11_lessened 13 = .ok (.idiv, 1) := by decide +kernel
theorem dX11_lessened_14 : decode cX11_lessened 14 = .ok (.invokestatic 303, 3) := by decide +kernel
theorem dX11_lessened_17 : decode cX11_lessened 17 = .ok (.ireturn, 1) := by decide +kernel
set_option maxRecDepth 20000 in
theorem ggX11_punish_X11_weekNow : GoodIn wsX11_punish wsX11_weekNow := goodIn_r _ [14, 15, 24, 25, 26, 27, 28, 29, 30, 31, 32, 33, 34, 35] (by decide +kernel) (by decide +kernel)
set_option maxRecDepth 20000 in
theorem gX11_punish_X11_weekNow : GoodIn wsX11_punish (wsV RX11 68 RX11 yX11_weekNow wsX11_weekNow) := goodIn_app (goodIn_of _ (by decide +kernel)) ggX11_punish_X11_weekNow
theorem dX11_punish_0 : decode cX11_punish 0 = .ok (.aload_n 2, 1) := by decide +kernel
theorem dX11_punish_1 : decode cX11_punish 1 = .ok (.dup, 1) := by decide +kernel
theorem dX11_punish_2 : decode cX11_punish 2 = .ok (.getfield 308, 3) := by decide +kernel
theorem dX11_punish_5 : decode cX11_punish 5 = .ok (.iconst 1, 1) := by decide +kernel
theorem dX11_punish_6 : decode cX11_punish 6 = .ok (.iadd, 1) := by decide +kernel
theorem dX11_punish_7 : decode cX11_punish 7 = .ok (.putfield 308, 3) := by decide +kernel
theorem dX11_punish_10 : decode cX11_punish 10 = .ok (.aload_n 1, 1) := by decide +kernel
theorem dX11_punish_11 : decode cX11_punish 11 = .ok (.aload_n 0, 1) := by decide +kernel
theorem dX11_punish_12 : decode cX11_punish 12 = .ok (.getfield 57, 3) := by decide +kernel
theorem dX11_punish_15 : decode cX11_punish 15 = .ok (.aload_n 2, 1) := by decide +kernel
theorem dX11_punish_16 : decode cX11_punish 16 = .ok (.getfield 308, 3) := by decide +kernel
theorem dX11_punish_19 : decode cX11_punish 19 = .ok (.iconst 4, 1) := by decide +kernel
theorem dX11_punish_20 : decode cX11_punish 20 = .ok (.invokestatic 311, 3) := by decide +kernel
theorem dX11_punish_23 : decode cX11_punish 23 = .ok (.imul, 1) := by decide +kernel
theorem dX11_punish_24 : decode cX11_punish 24 = .ok (.putfield 314, 3) := by decide +kernel
theorem dX11_punish_27 : decode cX11_punish 27 = .ok (.aload_n 2, 1) := by decide +kernel
theorem dX11_punish_28 : decode cX11_punish 28 = .ok (.dup, 1) := by decide +kernel
theorem dX11_punish_29 : decode cX11_punish 29 = .ok (.getfield 315, 3) := by decide +kernel
theorem dX11_punish_32 : decode cX11_punish 32 = .ok (.aload_n 1, 1) := by decide +kernel
theorem dX11_punish_33 : decode cX11_punish 33 = .ok (.getfield 314, 3) := by decide +kernel
theorem dX11_punish_36 : decode cX11_punish 36 = .ok (.iadd, 1) := by decide +kernel
theorem dX11_punish_37 : decode cX11_punish 37 = .ok (.putfield 315, 3) := by decide +kernel
theorem dX11_punish_40 : decode cX11_punish 40 = .ok (.aload_n 2, 1) := by decide +kernel
theorem dX11_punish_41 : decode cX11_punish 41 = .ok (.getfield 308, 3) := by decide +kernel
theorem dX11_punish_44 : decode cX11_punish 44 = .ok (.iconst 4, 1) := by decide +kernel
theorem dX11_punish_45 : decode cX11_punish 45 = .ok (.if_icmp .lt 13, 3) := by decide +kernel
theorem dX11_punish_48 : decode cX11_punish 48 = .ok (.aload_n 2, 1) := by decide +kernel
theorem dX11_punish_49 : decode cX11_punish 49 = .ok (.aload_n 0, 1) := by decide +kernel
theorem dX11_punish_50 : decode cX11_punish 50 = .ok (.invokevirtual 68, 3) := by decide +kernel
theorem dX11_punish_53 : decode cX11_punish 53 = .ok (.iconst 2, 1) := by decide +kernel
theorem dX11_punish_54 : decode cX11_punish 54 = .ok (.iadd, 1) := by decide +kernel
theorem dX11_punish_55 : decode cX11_punish 55 = .ok (.putfield 164, 3) := by decide +kernel
theorem dX11_punish_58 : decode cX11_punish 58 = .ok (.return_, 1) := by decide +kernel
theorem dX12_init_0 : decode cX12_init 0 = .ok (.aload_n 0, 1) := by decide +kernel
theorem dX12_init_1 : decode cX12_init 1 = .ok (.invokespecial 1, 3) := by decide +kernel
theorem dX12_init_4 : decode cX12_init 4 = .ok (.aload_n 0, 1) := by decide +kernel
theorem dX12_init_5 : decode cX12_init 5 = .ok (.sipush 200, 3) := by decide +kernel
theorem dX12_init_8 : decode cX12_init 8 = .ok (.newarray .int, 2) := by decide +kernel
theorem dX12_init_10 : decode cX12_init 10 = .ok (.putfield 7, 3) := by decide +kernel
theorem dX12_init_13 : decode cX12_init 13 = .ok (.aload_n 0, 1) := by decide +kernel
theorem dX12_init_14 : decode cX12_init 14 = .ok (.sipush 200, 3) := by decide +kernel
theorem dX12_init_17 : decode cX12_init 17 = .ok (.newarray .int, 2) := by decide +kernel
theorem dX12_init_19 : decode cX12_init 19 = .ok (.putfield 13, 3) := by decide +kernel
theorem dX12_init_22 : decode cX12_init 22 = .ok (.aload_n 0, 1) := by decide +kernel
theorem dX12_init_23 : decode cX12_init 23 = .ok (.sipush 200, 3) := by decide +kernel
theorem dX12_init_26 : decode cX12_init 26 = .ok (.newarray .int, 2) := by decide +kernel
theorem dX12_init_28 : decode cX12_init 28 = .ok (.putfield 16, 3) := by decide +kernel
theorem dX12_init_31 : decode cX12_init 31 = .ok (.aload_n 0, 1) := by decide +kernel
theorem dX12_init_32 : decode cX12_init 32 = .ok (.sipush 200, 3) := by decide +kernel
theorem dX12_init_35 : decode cX12_init 35 = .ok (.newarray .int, 2) := by decide +kernel
theorem dX12_init_37 : decode cX12_init 37 = .ok (.putfield 19, 3) := by decide +kernel
theorem dX12_init_40 : decode cX12_init 40 = .ok (.aload_n 0, 1) := by decide +kernel
theorem dX12_init_41 : decode cX12_init 41 = .ok (.sipush 200, 3) := by decide +kernel
theorem dX12_init_44 : decode cX12_init 44 = .ok (.newarray .int, 2) := by decide +kernel
theorem dX12_init_46 : decode cX12_init 46 = .ok (.putfield 22, 3) := by decide +kernel
theorem dX12_init_49 : decode cX12_init 49 = .ok (.aload_n 0, 1) := by decide +kernel
theorem dX12_init_50 : decode cX12_init 50 = .ok (.sipush 200, 3) := by decide +kernel
theorem dX12_init_53 : decode cX12_init 53 = .ok (.newarray .int, 2) := by decide +kernel
theorem dX12_init_55 : decode cX12_init 55 = .ok (.putfield 25, 3) := by decide +kernel
theorem dX12_init_58 : decode cX12_init 58 = .ok (.aload_n 0, 1) := by decide +kernel
theorem dX12_init_59 : decode cX12_init 59 = .ok (.sipush 200, 3) := by decide +kernel
theorem dX12_init_62 : decode cX12_init 62 = .ok (.newarray .boolean, 2) := by decide +kernel
theorem dX12_init_64 : decode cX12_init 64 = .ok (.putfield 28, 3) := by decide +kernel
theorem dX12_init_67 : decode cX12_init 67 = .ok (.aload_n 0, 1) := by decide +kernel
theorem dX12_init_68 : decode cX12_init 68 = .ok (.sipush 200, 3) := by decide +kernel
theorem dX12_init_71 : decode cX12_init 71 = .ok (.newarray .int, 2) := by decide +kernel
theorem dX12_init_73 : decode cX12_init 73 = .ok (.putfield 32, 3) := by decide +kernel
theorem dX12_init_76 : decode cX12_init 76 = .ok (.aload_n 0, 1) := by decide +kernel
theorem dX12_init_77 : decode cX12_init 77 = .ok (.sipush 200, 3) := by decide +kernel
theorem dX12_init_80 : decode cX12_init 80 = .ok (.newarray .int, 2) := by decide +kernel
theorem dX12_init_82 : decode cX12_init 82 = .ok (.putfield 35, 3) := by decide +kernel
theorem dX12_init_85 : decode cX12_init 85 = .ok (.aload_n 0, 1) := by decide +kernel
theorem dX12_init_86 : decode cX12_init 86 = .ok (.bipush 16, 2) := by decide +kernel
theorem dX12_init_88 : decode cX12_init 88 = .ok (.putfield 38, 3) := by decide +kernel
theorem dX12_init_91 : decode cX12_init 91 = .ok (.aload_n 0, 1) := by decide +kernel
theorem dX12_init_92 : decode cX12_init 92 = .ok (.sipush 200, 3) := by decide +kernel
theorem dX12_init_95 : decode cX12_init 95 = .ok (.newarray .int, 2) := by decide +kernel
theorem dX12_init_97 : decode cX12_init 97 = .ok (.putfield 42, 3) := by decide +kernel
theorem dX12_init_100 : decode cX12_init 100 = .ok (.aload_n 0, 1) := by decide +kernel
theorem dX12_init_101 : decode cX12_init 101 = .ok (.sipush 200, 3) := by decide +kernel
theorem dX12_init_104 : decode cX12_init 104 = .ok (.newarray .int, 2) := by decide +kernel
theorem dX12_init_106 : decode cX12_init 106 = .ok (.putfield 45, 3) := by decide +kernel
theorem dX12_init_109 : decode cX12_init 109 = .ok (.aload_n 0, 1) := by decide +kernel
theorem dX12_init_110 : decode cX12_init 110 = .ok (.sipush 200, 3) := by decide +kernel
theorem dX12_init_113 : decode cX12_init 113 = .ok (.newarray .int, 2) := by decide +kernel
theorem dX12_init_115 : decode cX12_init 115 = .ok (.putfield 48, 3) := by decide +kernel
theorem dX12_init_118 : decode cX12_init 118 = .ok (.aload_n 0, 1) := by decide +kernel
theorem dX12_init_119 : decode cX12_init 119 = .ok (.sipush 200, 3) := by decide +kernel
theorem dX12_init_122 : decode cX12_init 122 = .ok (.newarray .int, 2) := by decide +kernel
theorem dX12_init_124 : decode cX12_init 124 = .ok (.putfield 51, 3) := by decide +kernel
theorem dX12_init_127 : decode cX12_init 127 = .ok (.aload_n 0, 1) := by decide +kernel
theorem dX12_init_128 : decode cX12_init 128 = .ok (.sipush 200, 3) := by decide +kernel
theorem dX12_init_131 : decode cX12_init 131 = .ok (.newarray .int, 2) := by decide +kernel
theorem dX12_init_133 : decode cX12_init 133 = .ok (.putfield 54, 3) := by decide +kernel
theorem dX12_init_136 : decode cX12_init 136 = .ok (.aload_n 0, 1) := by decide +kernel
theorem dX12_init_137 : decode cX12_init 137 = .ok (.sipush 600, 3) := by decide +kernel
theorem dX12_init_140 : decode cX12_init 140 = .ok (.newarray .int, 2) := by decide +kernel
theorem dX12_init_142 : decode cX12_init 142 = .ok (.putfield 57, 3) := by decide +kernel
theorem dX12_init_145 : decode cX12_init 145 = .ok (.aload_n 0, 1) := by decide +kernel
theorem dX12_init_146 : decode cX12_init 146 = .ok (.sipush 600, 3) := by decide +kernel
theorem dX12_init_149 : decode cX12_init 149 = .ok (.newarray .int, 2) := by decide +kernel
theorem dX12_init_151 : decode cX12_init 151 = .ok (.putfield 60, 3) := by decide +kernel
theorem dX12_init_154 : decode cX12_init 154 = .ok (.aload_n 0, 1) := by decide +kernel
theorem dX12_init_155 : decode cX12_init 155 = .ok (.sipush 1200, 3) := by decide +kernel
theorem dX12_init_158 : decode cX12_init 158 = .ok (.newarray .int, 2) := by decide +kernel
theorem dX12_init_160 : decode cX12_init 160 = .ok (.putfield 63, 3) := by decide +kernel
theorem dX12_init_163 : decode cX12_init 163 = .ok (.aload_n 0, 1) := by decide +kernel
theorem dX12_init_164 : decode cX12_init 164 = .ok (.bipush 8, 2) := by decide +kernel
theorem dX12_init_166 : decode cX12_init 166 = .ok (.newarray .int, 2) := by decide +kernel
theorem dX12_init_168 : decode cX12_init 168 = .ok (.putfield 66, 3) := by decide +kernel
theorem dX12_init_171 : decode cX12_init 171 = .ok (.aload_n 0, 1) := by decide +kernel
theorem dX12_init_172 : decode cX12_init 172 = .ok (.bipush 8, 2) := by decide +kernel
theorem dX12_init_174 : decode cX12_init 174 = .ok (.newarray .int, 2) := by decide +kernel
theorem dX12_init_176 : decode cX12_init 176 = .ok (.putfield 69, 3) := by decide +kernel
theorem dX12_init_179 : decode cX12_init 179 = .ok (.aload_n 0, 1) := by decide +kernel
theorem dX12_init_180 : decode cX12_init 180 = .ok (.bipush 8, 2) := by decide +kernel
theorem dX12_init_182 : decode cX12_init 182 = .ok (.newarray .int, 2) := by decide +kernel
theorem dX12_init_184 : decode cX12_init 184 = .ok (.putfield 72, 3) := by decide +kernel
theorem dX12_init_187 : decode cX12_init 187 = .ok (.aload_n 0, 1) := by decide +kernel
theorem dX12_init_188 : decode cX12_init 188 = .ok (.bipush 8, 2) := by decide +kernel
theorem dX12_init_190 : decode cX12_init 190 = .ok (.newarray .int, 2) := by decide +kernel
theorem dX12_init_192 : decode cX12_init 192 = .ok (.putfield 75, 3) := by decide +kernel
theorem dX12_init_195 : decode cX12_init 195 = .ok (.aload_n 0, 1) := by decide +kernel
theorem dX12_init_196 : decode cX12_init 196 = .ok (.bipush 6, 2) := by decide +kernel
theorem dX12_init_198 : decode cX12_init 198 = .ok (.newarray .int, 2) := by decide +kernel
theorem dX12_init_200 : decode cX12_init 200 = .ok (.putfield 78, 3) := by decide +kernel
theorem dX12_init_203 : decode cX12_init 203 = .ok (.aload_n 0, 1) := by decide +kernel
theorem dX12_init_204 : decode cX12_init 204 = .ok (.bipush 18, 2) := by decide +kernel
theorem dX12_init_206 : decode cX12_init 206 = .ok (.newarray .int, 2) := by decide +kernel
theorem dX12_init_208 : decode cX12_init 208 = .ok (.putfield 81, 3) := by decide +kernel
theorem dX12_init_211 : decode cX12_init 211 = .ok (.aload_n 0, 1) := by decide +kernel
theorem dX12_init_212 : decode cX12_init 212 = .ok (.bipush 6, 2) := by decide +kernel
theorem dX12_init_214 : decode cX12_init 214 = .ok (.newarray .int, 2) := by decide +kernel
theorem dX12_init_216 : decode cX12_init 216 = .ok (.putfield 84, 3) := by decide +kernel
theorem dX12_init_219 : decode cX12_init 219 = .ok (.aload_n 0, 1) := by decide +kernel
theorem dX12_init_220 : decode cX12_init 220 = .ok (.bipush 48, 2) := by decide +kernel
theorem dX12_init_222 : decode cX12_init 222 = .ok (.newarray .int, 2) := by decide +kernel
theorem dX12_init_224 : decode cX12_init 224 = .ok (.putfield 87, 3) := by decide +kernel
theorem dX12_init_227 : decode cX12_init 227 = .ok (.aload_n 0, 1) := by decide +kernel
theorem dX12_init_228 : decode cX12_init 228 = .ok (.bipush 48, 2) := by decide +kernel
theorem dX12_init_230 : decode cX12_init 230 = .ok (.newarray .int, 2) := by decide +kernel
theorem dX12_init_232 : decode cX12_init 232 = .ok (.putfield 90, 3) := by decide +kernel
theorem dX12_init_235 : decode cX12_init 235 = .ok (.aload_n 0, 1) := by decide +kernel
theorem dX12_init_236 : decode cX12_init 236 = .ok (.bipush 6, 2) := by decide +kernel
theorem dX12_init_238 : decode cX12_init 238 = .ok (.newarray .int, 2) := by decide +kernel
theorem dX12_init_240 : decode cX12_init 240 = .ok (.putfield 93, 3) := by decide +kernel
theorem dX12_init_243 : decode cX12_init 243 = .ok (.aload_n 0, 1) := by decide +kernel
theorem dX12_init_244 : decode cX12_init 244 = .ok (.bipush 8, 2) := by decide +kernel
theorem dX12_init_246 : decode cX12_init 246 = .ok (.newarray .int, 2) := by decide +kernel
theorem dX12_init_248 : decode cX12_init 248 = .ok (.putfield 96, 3) := by decide +kernel
theorem dX12_init_251 : decode cX12_init 251 = .ok (.aload_n 0, 1) := by decide +kernel
theorem dX12_init_252 : decode cX12_init 252 = .ok (.iconst 1, 1) := by decide +kernel
theorem dX12_init_253 : decode cX12_init 253 = .ok (.putfield 99, 3) := by decide +kernel
theorem dX12_init_256 : decode cX12_init 256 = .ok (.aload_n 0, 1) := by decide +kernel
theorem dX12_init_257 : decode cX12_init 257 = .ok (.iconst 1, 1) := by decide +kernel
theorem dX12_init_258 : decode cX12_init 258 = .ok (.putfield 102, 3) := by decide +kernel
theorem dX12_init_261 : decode cX12_init 261 = .ok (.aload_n 0, 1) := by decide +kernel
theorem dX12_init_262 : decode cX12_init 262 = .ok (.bipush 12, 2) := by decide +kernel
theorem dX12_init_264 : decode cX12_init 264 = .ok (.putfield 105, 3) := by decide +kernel
theorem dX12_init_267 : decode cX12_init 267 = .ok (.aload_n 0, 1) := by decide +kernel
theorem dX12_init_268 : decode cX12_init 268 = .ok (.bipush 100, 2) := by decide +kernel
theorem dX12_init_270 : decode cX12_init 270 = .ok (.putfield 108, 3) := by decide +kernel
theorem dX12_init_273 : decode cX12_init 273 = .ok (.aload_n 0, 1) := by decide +kernel
theorem dX12_init_274 : decode cX12_init 274 = .ok (.bipush 100, 2) := by decide +kernel
theorem dX12_init_276 : decode cX12_init 276 = .ok (.putfield 111, 3) := by decide +kernel
theorem dX12_init_279 : decode cX12_init 279 = .ok (.aload_n 0, 1) := by decide +kernel
theorem dX12_init_280 : decode cX12_init 280 = .ok (.bipush 10, 2) := by decide +kernel
theorem dX12_init_282 : decode cX12_init 282 = .ok (.newarray .int, 2) := by decide +kernel
theorem dX12_init_284 : decode cX12_init 284 = .ok (.putfield 114, 3) := by decide +kernel
theorem dX12_init_287 : decode cX12_init 287 = .ok (.aload_n 0, 1) := by decide +kernel
theorem dX12_init_288 : decode cX12_init 288 = .ok (.bipush 10, 2) := by decide +kernel
theorem dX12_init_290 : decode cX12_init 290 = .ok (.newarray .int, 2) := by decide +kernel
theorem dX12_init_292 : decode cX12_init 292 = .ok (.putfield 117, 3) := by decide +kernel
theorem dX12_init_295 : decode cX12_init 295 = .ok (.return_, 1) := by decide +kernel
theorem dX12_in_0 : decode cX12_in 0 = .ok (.lload_n 0, 1) := by decide +kernel
theorem dX12_in_1 : decode cX12_in 1 = .ok (.lload_n 2, 1) := by decide +kernel
theorem dX12_in_2 : decode cX12_in 2 = .ok (.lcmp, 1) := by decide +kernel
theorem dX12_in_3 : decode cX12_in 3 = .ok (.ifCond .lt 14, 3) := by decide +kernel
theorem dX12_in_6 : decode cX12_in 6 = .ok (.lload_n 0, 1) := by decide +kernel
theorem dX12_in_7 : decode cX12_in 7 = .ok (.lload 4, 2) := by decide +kernel
theorem dX12_in_9 : decode cX12_in 9 = .ok (.lcmp, 1) := by decide +kernel
theorem dX12_in_10 : decode cX12_in 10 = .ok (.ifCond .gt 7, 3) := by decide +kernel
theorem dX12_in_13 : decode cX12_in 13 = .ok (.iconst 1, 1) := by decide +kernel
theorem dX12_in_14 : decode cX12_in 14 = .ok (.goto 4, 3) := by decide +kernel
theorem dX12_in_17 : decode cX12_in 17 = .ok (.iconst 0, 1) := by decide +kernel
theorem dX12_in_18 : decode cX12_in 18 = .ok (.ireturn, 1) := by decide +kernel
set_option maxRecDepth 20000 in
theorem ggX12_isBaker_X12_in : GoodIn wsX12_isBaker wsX12_in := goodIn_r _ [5] (by decide +kernel) (by decide +kernel)
set_option maxRecDepth 20000 in
theorem gX12_isBaker_X12_in : GoodIn wsX12_isBaker (va_wsS RX12 123 yX12_in wsX12_in) := goodIn_app (goodIn_of _ (by decide +kernel)) ggX12_isBaker_X12_in
theorem dX12_isBaker_0 : decode cX12_isBaker 0 = .ok (.iload_n 1, 1) := by decide +kernel
theorem dX12_isBaker_1 : decode cX12_isBaker 1 = .ok (.i2l, 1) := by decide +kernel
theorem dX12_isBaker_2 : decode cX12_isBaker 2 = .ok (.lconst 0, 1) := by decide +kernel
theorem dX12_isBaker_3 : decode cX12_isBaker 3 = .ok (.aload_n 0, 1) := by decide +kernel
theorem dX12_isBaker_4 : decode cX12_isBaker 4 = .ok (.getfield 120, 3) := by decide +kernel
theorem dX12_isBaker_7 : decode cX12_isBaker 7 = .ok (.iconst 1, 1) := by decide +kernel
theorem dX12_isBaker_8 : decode cX12_isBaker 8 = .ok (.isub, 1) := by decide +kernel
theorem dX12_isBaker_9 : decode cX12_isBaker 9 = .ok (.i2l, 1) := by decide +kernel
theorem dX12_isBaker_10 : decode cX12_isBaker 10 = .ok (.invokestatic 123, 3) := by decide +kernel
theorem dX12_isBaker_13 : decode cX12_isBaker 13 = .ok (.ireturn, 1) := by decide +kernel
set_option maxRecDepth 20000 in
theorem ggX12_isRecord_X12_in : GoodIn wsX12_isRecord wsX12_in := goodIn_r _ [5] (by decide +kernel) (by decide +kernel)
set_option maxRecDepth 20000 in
theorem gX12_isRecord_X12_in : GoodIn wsX12_isRecord (va_wsS RX12 123 yX12_in wsX12_in) := goodIn_app (goodIn_of _ (by decide +kernel)) ggX12_isRecord_X12_in
theorem dX12_isRecord_0 : decode cX12_isRecord 0 = .ok (.iload_n 1, 1) := by decide +kernel
theorem dX12_isRecord_1 : decode cX12_isRecord 1 = .ok (.i2l, 1) := by decide +kernel
theorem dX12_isRecord_2 : decode cX12_isRecord 2 = .ok (.lconst 0, 1) := by decide +kernel
theorem dX12_isRecord_3 : decode cX12_isRecord 3 = .ok (.aload_n 0, 1) := by decide +kernel
theorem dX12_isRecord_4 : decode cX12_isRecord 4 = .ok (.getfield 127, 3) := by decide +kernel
theorem dX12_isRecord_7 : decode cX12_isRecord 7 = .ok (.iconst 1, 1) := by decide +kernel
theorem dX12_isRecord_8 : decode cX12_isRecord 8 = .ok (.isub, 1) := by decide +kernel
theorem dX12_isRecord_9 : decode cX12_isRecord 9 = .ok (.i2l, 1) := by decide +kernel
theorem dX12_isRecord_10 : decode cX12_isRecord 10 = .ok (.invokestatic 123, 3) := by decide +kernel
theorem dX12_isRecord_13 : decode cX12_isRecord 13 = .ok (.ireturn, 1) := by decide +kernel
theorem dX12_enter_0 : decode cX12_enter 0 = .ok (.aload_n 0, 1) := by decide +kernel
theorem dX12_enter_1 : decode cX12_enter 1 = .ok (.getfield 7, 3) := by decide +kernel
theorem dX12_enter_4 : decode cX12_enter 4 = .ok (.aload_n 0, 1) := by decide +kernel
theorem dX12_enter_5 : decode cX12_enter 5 = .ok (.getfield 127, 3) := by decide +kernel
theorem dX12_enter_8 : decode cX12_enter 8 = .ok (.iload_n 1, 1) := by decide +kernel
theorem dX12_enter_9 : decode cX12_enter 9 = .ok (.iastore, 1) := by decide +kernel
theorem dX12_enter_10 : decode cX12_enter 10 = .ok (.aload_n 0, 1) := by decide +kernel
theorem dX12_enter_11 : decode cX12_enter 11 = .ok (.getfield 13, 3) := by decide +kernel
theorem dX12_enter_14 : decode cX12_enter 14 = .ok (.aload_n 0, 1) := by decide +kernel
theorem dX12_enter_15 : decode cX12_enter 15 = .ok (.getfield 127, 3) := by decide +kernel
theorem dX12_enter_18 : decode cX12_enter 18 = .ok (.aload_n 0, 1) := by decide +kernel
theorem dX12_enter_19 : decode cX12_enter 19 = .ok (.getfield 130, 3) := by decide +kernel
theorem dX12_enter_22 : decode cX12_enter 22 = .ok (.iastore, 1) := by decide +kernel
theorem dX12_enter_23 : decode cX12_enter 23 = .ok (.aload_n 0, 1) := by decide +kernel
theorem dX12_enter_24 : decode cX12_enter 24 = .ok (.getfield 16, 3) := by decide +kernel
theorem dX12_enter_27 : decode cX12_enter 27 = .ok (.aload_n 0, 1) := by decide +kernel
theorem dX12_enter_28 : decode cX12_enter 28 = .ok (.getfield 127, 3) := by decide +kernel
theorem dX12_enter_31 : decode cX12_enter 31 = .ok (.aload_n 0, 1) := by decide +kernel
theorem dX12_enter_32 : decode cX12_enter 32 = .ok (.getfield 133, 3) := by decide +kernel
theorem dX12_enter_35 : decode cX12_enter 35 = .ok (.iastore, 1) := by decide +kernel
theorem dX12_enter_36 : decode cX12_enter 36 = .ok (.aload_n 0, 1) := by decide +kernel
theorem dX12_enter_37 : decode cX12_enter 37 = .ok (.getfield 19, 3) := by decide +kernel
theorem dX12_enter_40 : decode cX12_enter 40 = .ok (.aload_n 0, 1) := by decide +kernel
theorem dX12_enter_41 : decode cX12_enter 41 = .ok (.getfield 127, 3) := by decide +kernel
theorem dX12_enter_44 : decode cX12_enter 44 = .ok (.iload_n 2, 1) := by decide +kernel
theorem dX12_enter_45 : decode cX12_enter 45 = .ok (.iastore, 1) := by decide +kernel
theorem dX12_enter_46 : decode cX12_enter 46 = .ok (.aload_n 0, 1) := by decide +kernel
theorem dX12_enter_47 : decode cX12_enter 47 = .ok (.dup, 1) := by decide +kernel
theorem dX12_enter_48 : decode cX12_enter 48 = .ok (.getfield 127, 3) := by decide +kernel
theorem dX12_enter_51 : decode cX12_enter 51 = .ok (.iconst 1, 1) := by decide +kernel
theorem dX12_enter_52 : decode cX12_enter 52 = .ok (.iadd, 1) := by decide +kernel
theorem dX12_enter_53 : decode cX12_enter 53 = .ok (.putfield 127, 3) := by decide +kernel
theorem dX12_enter_56 : decode cX12_enter 56 = .ok (.aload_n 0, 1) := by decide +kernel
theorem dX12_enter_57 : decode cX12_enter 57 = .ok (.getfield 127, 3) := by decide +kernel
theorem dX12_enter_60 : decode cX12_enter 60 = .ok (.iconst 1, 1) := by decide +kernel
theorem dX12_enter_61 : decode cX12_enter 61 = .ok (.isub, 1) := by decide +kernel
theorem dX12_enter_62 : decode cX12_enter 62 = .ok (.ireturn, 1) := by decide +kernel
set_option maxRecDepth 20000 in
theorem ggX12_endWeek_X12_needOf : GoodIn wsX12_endWeek wsX12_needOf := goodIn_r _ [14, 15, 16, 17, 18, 19, 20, 21, 22, 23, 24, 25, 26, 27, 28, 29, 30, 31, 32, 33, 34, 35, 36, 37, 38, 39, 40, 41, 42, 43, 44, 45, 46, 47, 48, 49, 50, 51, 52, 53, 54, 55, 56, 57, 58, 59, 60, 61, 62, 63, 64, 65, 66, 67] (by decide +kernel) (by decide +kernel)
set_option maxRecDepth 20000 in
theorem gX12_endWeek_X12_needOf : GoodIn wsX12_endWeek (wsV RX12 136 RX12 yX12_needOf wsX12_needOf) := goodIn_app (goodIn_of _ (by decide +kernel)) ggX12_endWeek_X12_needOf
theorem dX12_endWeek_0 : decode cX12_endWeek 0 = .ok (.aload_n 0, 1) := by decide +kernel
theorem dX12_endWeek_1 : decode cX12_endWeek 1 = .ok (.aload_n 0, 1) := by decide +kernel
theorem dX12_endWeek_2 : decode cX12_endWeek 2 = .ok (.getfield 111, 3) := by decide +kernel
theorem dX12_endWeek_5 : decode cX12_endWeek 5 = .ok (.invokevirtual 136, 3) := by decide +kernel
theorem dX12_endWeek_8 : decode cX12_endWeek 8 = .ok (.istore_n 1, 1) := by decide +kernel
theorem dX12_endWeek_9 : decode cX12_endWeek 9 = .ok (.aload_n 0, 1) := by decide +kernel
theorem dX12_endWeek_10 : decode cX12_endWeek 10 = .ok (.dup, 1) := by decide +kernel
theorem dX12_endWeek_11 : decode cX12_endWeek 11 = .ok (.getfield 140, 3) := by decide +kernel
theorem dX12_endWeek_14 : decode cX12_endWeek 14 = .ok (.aload_n 0, 1) := by decide +kernel
theorem dX12_endWeek_15 : decode cX12_endWeek 15 = .ok (.getfield 143, 3) := by decide +kernel
theorem dX12_endWeek_18 : decode cX12_endWeek 18 = .ok (.iload_n 1, 1) := by decide +kernel
theorem dX12_endWeek_19 : decode cX12_endWeek 19 = .ok (.if_icmp .ge 7, 3) := by decide +kernel
theorem dX12_endWeek_22 : decode cX12_endWeek 22 = .ok (.iconst 1, 1) := by decide +kernel
theorem dX12_endWeek_23 : decode cX12_endWeek 23 = .ok (.goto 4, 3) := by decide +kernel
theorem dX12_endWeek_26 : decode cX12_endWeek 26 = .ok (.iconst 0, 1) := by decide +kernel
theorem dX12_endWeek_27 : decode cX12_endWeek 27 = .ok (.iadd, 1) := by decide +kernel
theorem dX12_endWeek_28 : decode cX12_endWeek 28 = .ok (.putfield 140, 3) := by decide +kernel
theorem dX12_endWeek_31 : decode cX12_endWeek 31 = .ok (.aload_n 0, 1) := by decide +kernel
theorem dX12_endWeek_32 : decode cX12_endWeek 32 = .ok (.dup, 1) := by decide +kernel
theorem dX12_endWeek_33 : decode cX12_endWeek 33 = .ok (.getfield 143, 3) := by decide +kernel
theorem dX12_endWeek_36 : decode cX12_endWeek 36 = .ok (.aload_n 0, 1) := by decide +kernel
theorem dX12_endWeek_37 : decode cX12_endWeek 37 = .ok (.getfield 143, 3) := by decide +kernel
theorem dX12_endWeek_40 : decode cX12_endWeek 40 = .ok (.iload_n 1, 1) := by decide +kernel
theorem dX12_endWeek_41 : decode cX12_endWeek 41 = .ok (.if_icmp .ge 10, 3) := by decide +kernel
theorem dX12_endWeek_44 : decode cX12_endWeek 44 = .ok (.aload_n 0, 1) := by decide +kernel
theorem dX12_endWeek_45 : decode cX12_endWeek 45 = .ok (.getfield 143, 3) := by decide +kernel
theorem dX12_endWeek_48 : decode cX12_endWeek 48 = .ok (.goto 4, 3) := by decide +kernel
theorem dX12_endWeek_51 : decode cX12_endWeek 51 = .ok (.iload_n 1, 1) := by decide +kernel
theorem dX12_endWeek_52 : decode cX12_endWeek 52 = .ok (.isub, 1) := by decide +kernel
theorem dX12_endWeek_53 : decode cX12_endWeek 53 = .ok (.putfield 143, 3) := by decide +kernel
theorem dX12_endWeek_56 : decode cX12_endWeek 56 = .ok (.aload_n 0, 1) := by decide +kernel
theorem dX12_endWeek_57 : decode cX12_endWeek 57 = .ok (.dup, 1) := by decide +kernel
theorem dX12_endWeek_58 : decode cX12_endWeek 58 = .ok (.getfield 130, 3) := by decide +kernel
theorem dX12_endWeek_61 : decode cX12_endWeek 61 = .ok (.iconst 1, 1) := by decide +kernel
theorem dX12_endWeek_62 : decode cX12_endWeek 62 = .ok (.iadd, 1) := by decide +kernel
theorem dX12_endWeek_63 : decode cX12_endWeek 63 = .ok (.putfield 130, 3) := by decide +kernel
theorem dX12_endWeek_66 : decode cX12_endWeek 66 = .ok (.aload_n 0, 1) := by decide +kernel
theorem dX12_endWeek_67 : decode cX12_endWeek 67 = .ok (.iconst 0, 1) := by decide +kernel
theorem dX12_endWeek_68 : decode cX12_endWeek 68 = .ok (.putfield 133, 3) := by decide +kernel
theorem dX12_endWeek_71 : decode cX12_endWeek 71 = .ok (.iconst 0, 1) := by decide +kernel
theorem dX12_endWeek_72 : decode cX12_endWeek 72 = .ok (.istore_n 2, 1) := by decide +kernel
theorem dX12_endWeek_73 : decode cX12_endWeek 73 = .ok (.iconst 0, 1) := by decide +kernel
theorem dX12_endWeek_74 : decode cX12_endWeek 74 = .ok (.istore_n 3, 1) := by decide +kernel
theorem dX12_endWeek_75 : decode cX12_endWeek 75 = .ok (.iload_n 3, 1) := by decide +kernel
theorem dX12_endWeek_76 : decode cX12_endWeek 76 = .ok (.aload_n 0, 1) := by decide +kernel
theorem dX12_endWeek_77 : decode cX12_endWeek 77 = .ok (.getfield 146, 3) := by decide +kernel
theorem dX12_endWeek_80 : decode cX12_endWeek 80 = .ok (.if_icmp .ge 88, 3) := by decide +kernel
theorem dX12_endWeek_83 : decode cX12_endWeek 83 = .ok (.aload_n 0, 1) := by decide +kernel
theorem dX12_endWeek_84 : decode cX12_endWeek 84 = .ok (.getfield 114, 3) := by decide +kernel
theorem dX12_endWeek_87 : decode cX12_endWeek 87 = .ok (.iload_n 3, 1) := by decide +kernel
theorem dX12_endWeek_88 : decode cX12_endWeek 88 = .ok (.iaload, 1) := by decide +kernel
theorem dX12_endWeek_89 : decode cX12_endWeek 89 = .ok (.aload_n 0, 1) := by decide +kernel
theorem dX12_endWeek_90 : decode cX12_endWeek 90 = .ok (.getfield 130, 3) := by decide +kernel
theorem dX12_endWeek_93 : decode cX12_endWeek 93 = .ok (.if_icmp .ne 42, 3) := by decide +kernel
theorem dX12_endWeek_96 : decode cX12_endWeek 96 = .ok (.aload_n 0, 1) := by decide +kernel
theorem dX12_endWeek_97 : decode cX12_endWeek 97 = .ok (.aload_n 0, 1) := by decide +kernel
theorem dX12_endWeek_98 : decode cX12_endWeek 98 = .ok (.getfield 143, 3) := by decide +kernel
theorem dX12_endWeek_101 : decode cX12_endWeek 101 = .ok (.aload_n 0, 1) := by decide +kernel
theorem dX12_endWeek_102 : decode cX12_endWeek 102 = .ok (.getfield 117, 3) := by decide +kernel
theorem dX12_endWeek_105 : decode cX12_endWeek 105 = .ok (.iload_n 3, 1) := by decide +kernel
theorem dX12_endWeek_106 : decode cX12_endWeek 106 = .ok (.iaload, 1) := by decide +kernel
theorem dX12_endWeek_107 : decode cX12_endWeek 107 = .ok (.iadd, 1) := by decide +kernel
theorem dX12_endWeek_108 : decode cX12_endWeek 108 = .ok (.ldc 149, 2) := by decide +kernel
theorem dX12_endWeek_110 : decode cX12_endWeek 110 = .ok (.if_icmp .le 8, 3) := by decide +kernel
theorem dX12_endWeek_113 : decode cX12_endWeek 113 = .ok (.ldc 149, 2) := by decide +kernel
theorem dX12_endWeek_115 : decode cX12_endWeek 115 = .ok (.goto 14, 3) := by decide +kernel
theorem dX12_endWeek_118 : decode cX12_endWeek 118 = .ok (.aload_n 0, 1) := by decide +kernel
theorem dX12_endWeek_119 : decode cX12_endWeek 119 = .ok (.getfield 143, 3) := by decide +kernel
theorem dX12_endWeek_122 : decode cX12_endWeek 122 = .ok (.aload_n 0, 1) := by decide +kernel
theorem dX12_endWeek_123 : decode cX12_endWeek 123 = .ok (.getfield 117, 3) := by decide +kernel
theorem dX12_endWeek_126 : decode cX12_endWeek 126 = .ok (.iload_n 3, 1) := by decide +kernel
theorem dX12_endWeek_127 : decode cX12_endWeek 127 = .ok (.iaload, 1) := by decide +kernel
theorem dX12_endWeek_128 : decode cX12_endWeek 128 = .ok (.iadd, 1) := by decide +kernel
theorem dX12_endWeek_129 : decode cX12_endWeek 129 = .ok (.putfield 143, 3) := by decide +kernel
theorem dX12_endWeek_132 : decode cX12_endWeek 132 = .ok (.goto 30, 3) := by decide +kernel
theorem dX12_endWeek_135 : decode cX12_endWeek 135 = .ok (.aload_n 0, 1) := by decide +kernel
theorem dX12_endWeek_136 : decode cX12_endWeek 136 = .ok (.getfield 114, 3) := by decide +kernel
theorem dX12_endWeek_139 : decode cX12_endWeek 139 = .ok (.iload_n 2, 1) := by decide +kernel
theorem dX12_endWeek_140 : decode cX12_endWeek 140 = .ok (.aload_n 0, 1) := by decide +kernel
theorem dX12_endWeek_141 : decode cX12_endWeek 141 = .ok (.getfield 114, 3) := by decide +kernel
theorem dX12_endWeek_144 : decode cX12_endWeek 144 = .ok (.iload_n 3, 1) := by decide +kernel
theorem dX12_endWeek_145 : decode cX12_endWeek 145 = .ok (.iaload, 1) := by decide +kernel
theorem dX12_endWeek_146 : decode cX12_endWeek 146 = .ok (.iastore, 1) := by decide +kernel
theorem dX12_endWeek_147 : decode cX12_endWeek 147 = .ok (.aload_n 0, 1) := by decide +kernel
theorem dX12_endWeek_148 : decode cX12_endWeek 148 = .ok (.getfield 117, 3) := by decide +kernel
theorem dX12_endWeek_151 : decode cX12_endWeek 151 = .ok (.iload_n 2, 1) := by decide +kernel
theorem dX12_endWeek_152 : decode cX12_endWeek 152 = .ok (.aload_n 0, 1) := by decide +kernel
theorem dX12_endWeek_153 : decode cX12_endWeek 153 = .ok (.getfield 117, 3) := by decide +kernel
theorem dX12_endWeek_156 : decode cX12_endWeek 156 = .ok (.iload_n 3, 1) := by decide +kernel
theorem dX12_endWeek_157 : decode cX12_endWeek 157 = .ok (.iaload, 1) := by decide +kernel
theorem dX12_endWeek_158 : decode cX12_endWeek 158 = .ok (.iastore, 1) := by decide +kernel
theorem dX12_endWeek_159 : decode cX12_endWeek 159 = .ok (.iinc 2 1, 3) := by decide +kernel
theorem dX12_endWeek_162 : decode cX12_endWeek 162 = .ok (.iinc 3 1, 3) := by decide +kernel
theorem dX12_endWeek_165 : decode cX12_endWeek 165 = .ok (.goto (-90), 3) := by decide +kernel
theorem dX12_endWeek_168 : decode cX12_endWeek 168 = .ok (.aload_n 0, 1) := by decide +kernel
theorem dX12_endWeek_169 : decode cX12_endWeek 169 = .ok (.iload_n 2, 1) := by decide +kernel
theorem dX12_endWeek_170 : decode cX12_endWeek 170 = .ok (.putfield 146, 3) := by decide +kernel
theorem dX12_endWeek_173 : decode cX12_endWeek 173 = .ok (.return_, 1) := by decide +kernel
set_option maxRecDepth 20000 in
theorem ggX12_go_X12_in : GoodIn wsX12_go wsX12_in := goodIn_r _ [8] (by decide +kernel) (by decide +kernel)
set_option maxRecDepth 20000 in
theorem gX12_go_X12_in : GoodIn wsX12_go (va_wsS RX12 123 yX12_in wsX12_in) := goodIn_app (goodIn_of _ (by decide +kernel)) ggX12_go_X12_in
set_option maxRecDepth 20000 in
theorem ggX12_go_X12_endWeek : GoodIn wsX12_go wsX12_endWeek := goodIn_r _ [12, 13, 14, 15, 2, 3, 16, 17, 18, 19, 20, 21, 22, 7, 23, 24, 25, 26, 27, 28, 29, 30, 31, 32, 33, 34, 35, 36, 37, 38, 39, 40, 41, 42, 43, 44, 45, 46, 47, 48, 49, 50, 51, 52, 53, 54, 55, 56, 57, 58, 59, 60, 61, 62, 63, 64, 65, 66, 67, 68, 69, 70, 71, 72, 73, 74, 75, 76] (by decide +kernel) (by decide +kernel)
set_option maxRecDepth 20000 in
theorem gX12_go_X12_endWeek : GoodIn wsX12_go (wsV RX12 153 RX12 yX12_endWeek wsX12_endWeek) := goodIn_app (goodIn_of _ (by decide +kernel)) ggX12_go_X12_endWeek
theorem dX12_go_0 : decode cX12_go 0 = .ok (.iload_n 1, 1) := by decide +kernel
theorem dX12_go_1 : decode cX12_go 1 = .ok (.i2l, 1) := by decide +kernel
theorem dX12_go_2 : decode cX12_go 2 = .ok (.lconst 1, 1) := by decide +kernel
theorem dX12_go_3 : decode cX12_go 3 = .ok (.ldc2_w 150, 3) := by decide +kernel
theorem dX12_go_6 : decode cX12_go 6 = .ok (.invokestatic 123, 3) := by decide +kernel
theorem dX12_go_9 : decode cX12_go 9 = .ok (.ifCond .ne 6, 3) := by decide +kernel
theorem dX12_go_12 : decode cX12_go 12 = .ok (.bipush (-2), 2) := by decide +kernel
theorem dX12_go_14 : decode cX12_go 14 = .ok (.ireturn, 1) := by decide +kernel
theorem dX12_go_15 : decode cX12_go 15 = .ok (.sipush 168, 3) := by decide +kernel
theorem dX12_go_18 : decode cX12_go 18 = .ok (.aload_n 0, 1) := by decide +kernel
theorem dX12_go_19 : decode cX12_go 19 = .ok (.getfield 130, 3) := by decide +kernel
theorem dX12_go_22 : decode cX12_go 22 = .ok (.imul, 1) := by decide +kernel
theorem dX12_go_23 : decode cX12_go 23 = .ok (.aload_n 0, 1) := by decide +kernel
theorem dX12_go_24 : decode cX12_go 24 = .ok (.getfield 133, 3) := by decide +kernel
theorem dX12_go_27 : decode cX12_go 27 = .ok (.iadd, 1) := by decide +kernel
theorem dX12_go_28 : decode cX12_go 28 = .ok (.iload_n 1, 1) := by decide +kernel
theorem dX12_go_29 : decode cX12_go 29 = .ok (.iadd, 1) := by decide +kernel
theorem dX12_go_30 : decode cX12_go 30 = .ok (.ldc 152, 2) := by decide +kernel
theorem dX12_go_32 : decode cX12_go 32 = .ok (.if_icmp .le 6, 3) := by decide +kernel
theorem dX12_go_35 : decode cX12_go 35 = .ok (.bipush (-3), 2) := by decide +kernel
theorem dX12_go_37 : decode cX12_go 37 = .ok (.ireturn, 1) := by decide +kernel
theorem dX12_go_38 : decode cX12_go 38 = .ok (.iconst 0, 1) := by decide +kernel
theorem dX12_go_39 : decode cX12_go 39 = .ok (.istore_n 2, 1) := by decide +kernel
theorem dX12_go_40 : decode cX12_go 40 = .ok (.iload_n 2, 1) := by decide +kernel
theorem dX12_go_41 : decode cX12_go 41 = .ok (.iload_n 1, 1) := by decide +kernel
theorem dX12_go_42 : decode cX12_go 42 = .ok (.if_icmp .ge 33, 3) := by decide +kernel
theorem dX12_go_45 : decode cX12_go 45 = .ok (.aload_n 0, 1) := by decide +kernel
theorem dX12_go_46 : decode cX12_go 46 = .ok (.dup, 1) := by decide +kernel
theorem dX12_go_47 : decode cX12_go 47 = .ok (.getfield 133, 3) := by decide +kernel
theorem dX12_go_50 : decode cX12_go 50 = .ok (.iconst 1, 1) := by decide +kernel
theorem dX12_go_51 : decode cX12_go 51 = .ok (.iadd, 1) := by decide +kernel
theorem dX12_go_52 : decode cX12_go 52 = .ok (.putfield 133, 3) := by decide +kernel
theorem dX12_go_55 : decode cX12_go 55 = .ok (.aload_n 0, 1) := by decide +kernel
theorem dX12_go_56 : decode cX12_go 56 = .ok (.getfield 133, 3) := by decide +kernel
theorem dX12_go_59 : decode cX12_go 59 = .ok (.sipush 168, 3) := by decide +kernel
theorem dX12_go_62 : decode cX12_go 62 = .ok (.if_icmp .ne 7, 3) := by decide +kernel
theorem dX12_go_65 : decode cX12_go 65 = .ok (.aload_n 0, 1) := by decide +kernel
theorem dX12_go_66 : decode cX12_go 66 = .ok (.invokevirtual 153, 3) := by decide +kernel
theorem dX12_go_69 : decode cX12_go 69 = .ok (.iinc 2 1, 3) := by decide +kernel
theorem dX12_go_72 : decode cX12_go 72 = .ok (.goto (-32), 3) := by decide +kernel
theorem dX12_go_75 : decode cX12_go 75 = .ok (.aload_n 0, 1) := by decide +kernel
theorem dX12_go_76 : decode cX12_go 76 = .ok (.getfield 130, 3) := by decide +kernel
theorem dX12_go_79 : decode cX12_go 79 = .ok (.ireturn, 1) := by decide +kernel
theorem dX12_baker_0 : decode cX12_baker 0 = .ok (.aload_n 0, 1) := by decide +kernel
theorem dX12_baker_1 : decode cX12_baker 1 = .ok (.getfield 120, 3) := by decide +kernel
theorem dX12_baker_4 : decode cX12_baker 4 = .ok (.bipush 8, 2) := by decide +kernel
theorem dX12_baker_6 : decode cX12_baker 6 = .ok (.if_icmp .ne 6, 3) := by decide +kernel
theorem dX12_baker_9 : decode cX12_baker 9 = .ok (.bipush (-4), 2) := by decide +kernel
theorem dX12_baker_11 : decode cX12_baker 11 = .ok (.ireturn, 1) := by decide +kernel
theorem dX12_baker_12 : decode cX12_baker 12 = .ok (.aload_n 0, 1) := by decide +kernel
theorem dX12_baker_13 : decode cX12_baker 13 = .ok (.getfield 75, 3) := by decide +kernel
theorem dX12_baker_16 : decode cX12_baker 16 = .ok (.aload_n 0, 1) := by decide +kernel
theorem dX12_baker_17 : decode cX12_baker 17 = .ok (.getfield 120, 3) := by decide +kernel
theorem dX12_baker_20 : decode cX12_baker 20 = .ok (.bipush (-6), 2) := by decide +kernel
theorem dX12_baker_22 : decode cX12_baker 22 = .ok (.iastore, 1) := by decide +kernel
theorem dX12_baker_23 : decode cX12_baker 23 = .ok (.aload_n 0, 1) := by decide +kernel
theorem dX12_baker_24 : decode cX12_baker 24 = .ok (.dup, 1) := by decide +kernel
theorem dX12_baker_25 : decode cX12_baker 25 = .ok (.getfield 120, 3) := by decide +kernel
theorem dX12_baker_28 : decode cX12_baker 28 = .ok (.iconst 1, 1) := by decide +kernel
theorem dX12_baker_29 : decode cX12_baker 29 = .ok (.iadd, 1) := by decide +kernel
theorem dX12_baker_30 : decode cX12_baker 30 = .ok (.putfield 120, 3) := by decide +kernel
theorem dX12_baker_33 : decode cX12_baker 33 = .ok (.aload_n 0, 1) := by decide +kernel
theorem dX12_baker_34 : decode cX12_baker 34 = .ok (.iconst 0, 1) := by decide +kernel
theorem dX12_baker_35 : decode cX12_baker 35 = .ok (.putfield 156, 3) := by decide +kernel
theorem dX12_baker_38 : decode cX12_baker 38 = .ok (.aload_n 0, 1) := by decide +kernel
theorem dX12_baker_39 : decode cX12_baker 39 = .ok (.getfield 120, 3) := by decide +kernel
theorem dX12_baker_42 : decode cX12_baker 42 = .ok (.iconst 1, 1) := by decide +kernel
theorem dX12_baker_43 : decode cX12_baker 43 = .ok (.isub, 1) := by decide +kernel
theorem dX12_baker_44 : decode cX12_baker 44 = .ok (.ireturn, 1) := by decide +kernel
set_option maxRecDepth 20000 in
theorem ggX12_buy_X12_isBaker : GoodIn wsX12_buy wsX12_isBaker := goodIn_r _ [10, 11, 12, 13, 9, 14, 25, 26, 27, 28, 29, 30, 31, 32, 33, 34, 35, 36, 37, 38, 39, 40, 41, 42, 43, 44, 45, 46, 47, 48, 49, 50, 51, 52, 53, 54, 55, 56, 57, 58, 59, 60, 61, 62, 63, 64, 65, 66, 67, 68, 69, 70, 71, 72, 73, 74] (by decide +kernel) (by decide +kernel)
set_option maxRecDepth 20000 in
theorem gX12_buy_X12_isBaker : GoodIn wsX12_buy (wsV RX12 159 RX12 yX12_isBaker wsX12_isBaker) := goodIn_app (goodIn_of _ (by decide +kernel)) ggX12_buy_X12_isBaker
set_option maxRecDepth 20000 in
theorem ggX12_buy_X12_in : GoodIn wsX12_buy wsX12_in := goodIn_r _ [14] (by decide +kernel) (by decide +kernel)
set_option maxRecDepth 20000 in
theorem gX12_buy_X12_in : GoodIn wsX12_buy (va_wsS RX12 123 yX12_in wsX12_in) := goodIn_app (goodIn_of _ (by decide +kernel)) ggX12_buy_X12_in
set_option maxRecDepth 20000 in
theorem ggX12_buy_X12_enter : GoodIn wsX12_buy wsX12_enter := goodIn_r _ [18, 19, 3, 20, 21, 22, 23, 24, 25, 26, 27, 28, 29, 30, 31, 32, 33, 34, 35, 36, 37, 38, 39, 40, 41, 42, 43, 44, 45, 46, 47, 48, 49, 50, 51, 52, 53, 54, 55, 56, 57, 58, 59, 60, 61, 62, 63, 64, 65, 66, 67, 68, 69, 70, 71, 72, 73, 74] (by decide +kernel) (by decide +kernel)
set_option maxRecDepth 20000 in
theorem gX12_buy_X12_enter : GoodIn wsX12_buy (wsV RX12 167 RX12 yX12_enter wsX12_enter) := goodIn_app (goodIn_of _ (by decide +kernel)) ggX12_buy_X12_enter
theorem dX12_buy_0 : decode cX12_buy 0 = .ok (.aload_n 0, 1) := by decide +kernel
theorem dX12_buy_1 : decode cX12_buy 1 = .ok (.iload_n 1, 1) := by decide +kernel
theorem dX12_buy_2 : decode cX12_buy 2 = .ok (.invokevirtual 159, 3) := by decide +kernel
theorem dX12_buy_5 : decode cX12_buy 5 = .ok (.ifCond .ne 5, 3) := by decide +kernel
theorem dX12_buy_8 : decode cX12_buy 8 = .ok (.iconst (-1), 1) := by decide +kernel
theorem dX12_buy_9 : decode cX12_buy 9 = .ok (.ireturn, 1) := by decide +kernel
theorem dX12_buy_10 : decode cX12_buy 10 = .ok (.iload_n 2, 1) := by decide +kernel
theorem dX12_buy_11 : decode cX12_buy 11 = .ok (.i2l, 1) := by decide +kernel
theorem dX12_buy_12 : decode cX12_buy 12 = .ok (.lconst 1, 1) := by decide +kernel
theorem dX12_buy_13 : decode cX12_buy 13 = .ok (.ldc2_w 163, 3) := by decide +kernel
end
section
theorem dX12_buy_16 : decode cX12_buy 16 = .ok (.invokestatic 123, 3) := by decide +kernel
theorem dX12_buy_19 : decode cX12_buy 19 = .ok (.ifCond .eq 15, 3) := by decide +kernel
theorem dX12_buy_22 : decode cX12_buy 22 = .ok (.iload_n 3, 1) := by decide +kernel
theorem dX12_buy_23 : decode cX12_buy 23 = .ok (.i2l, 1) := by decide +kernel
theorem dX12_buy_24 : decode cX12_buy 24 = .ok (.lconst 1, 1) := by decide +kernel
theorem dX12_buy_25 : decode cX12_buy 25 = .ok (.ldc2_w 165, 3) := by decide +kernel
theorem dX12_buy_28 : decode cX12_buy 28 = .ok (.invokestatic 123, 3) := by decide +kernel
theorem dX12_buy_31 : decode cX12_buy 31 = .ok (.ifCond .ne 6, 3) := by decide +kernel
theorem dX12_buy_34 : decode cX12_buy 34 = .ok (.bipush (-2), 2) := by decide +kernel
theorem dX12_buy_36 : decode cX12_buy 36 = .ok (.ireturn, 1) := by decide +kernel
theorem dX12_buy_37 : decode cX12_buy 37 = .ok (.aload_n 0, 1) := by decide +kernel
theorem dX12_buy_38 : decode cX12_buy 38 = .ok (.getfield 127, 3) := by decide +kernel
theorem dX12_buy_41 : decode cX12_buy 41 = .ok (.sipush 200, 3) := by decide +kernel
theorem dX12_buy_44 : decode cX12_buy 44 = .ok (.if_icmp .ne 6, 3) := by decide +kernel
theorem dX12_buy_47 : decode cX12_buy 47 = .ok (.bipush (-4), 2) := by decide +kernel
theorem dX12_buy_49 : decode cX12_buy 49 = .ok (.ireturn, 1) := by decide +kernel
theorem dX12_buy_50 : decode cX12_buy 50 = .ok (.aload_n 0, 1) := by decide +kernel
theorem dX12_buy_51 : decode cX12_buy 51 = .ok (.getfield 22, 3) := by decide +kernel
theorem dX12_buy_54 : decode cX12_buy 54 = .ok (.aload_n 0, 1) := by decide +kernel
theorem dX12_buy_55 : decode cX12_buy 55 = .ok (.getfield 127, 3) := by decide +kernel
theorem dX12_buy_58 : decode cX12_buy 58 = .ok (.iload_n 2, 1) := by decide +kernel
theorem dX12_buy_59 : decode cX12_buy 59 = .ok (.iastore, 1) := by decide +kernel
theorem dX12_buy_60 : decode cX12_buy 60 = .ok (.aload_n 0, 1) := by decide +kernel
theorem dX12_buy_61 : decode cX12_buy 61 = .ok (.getfield 25, 3) := by decide +kernel
theorem dX12_buy_64 : decode cX12_buy 64 = .ok (.aload_n 0, 1) := by decide +kernel
theorem dX12_buy_65 : decode cX12_buy 65 = .ok (.getfield 127, 3) := by decide +kernel
theorem dX12_buy_68 : decode cX12_buy 68 = .ok (.iload_n 3, 1) := by decide +kernel
theorem dX12_buy_69 : decode cX12_buy 69 = .ok (.iastore, 1) := by decide +kernel
theorem dX12_buy_70 : decode cX12_buy 70 = .ok (.aload_n 0, 1) := by decide +kernel
theorem dX12_buy_71 : decode cX12_buy 71 = .ok (.iconst 1, 1) := by decide +kernel
theorem dX12_buy_72 : decode cX12_buy 72 = .ok (.iload_n 1, 1) := by decide +kernel
theorem dX12_buy_73 : decode cX12_buy 73 = .ok (.invokevirtual 167, 3) := by decide +kernel
theorem dX12_buy_76 : decode cX12_buy 76 = .ok (.ireturn, 1) := by decide +kernel
set_option maxRecDepth 20000 in
theorem ggX12_grind_X12_isRecord : GoodIn wsX12_grind wsX12_isRecord := goodIn_r _ [13, 14, 15, 16, 12, 17, 18, 19, 20, 21, 22, 23, 24, 25, 26, 27, 28, 29, 30, 31, 32, 33, 34, 35, 36, 37, 38, 39, 40, 41, 42, 43, 44, 45, 46, 47, 48, 49, 50, 51, 52, 53, 54, 55, 56, 57, 58, 59, 60, 61, 62, 63, 64, 65, 66, 67] (by decide +kernel) (by decide +kernel)
set_option maxRecDepth 20000 in
theorem gX12_grind_X12_isRecord : GoodIn wsX12_grind (wsV RX12 171 RX12 yX12_isRecord wsX12_isRecord) := goodIn_app (goodIn_of _ (by decide +kernel)) ggX12_grind_X12_isRecord
theorem dX12_grind_0 : decode cX12_grind 0 = .ok (.aload_n 0, 1) := by decide +kernel
theorem dX12_grind_1 : decode cX12_grind 1 = .ok (.iload_n 1, 1) := by decide +kernel
theorem dX12_grind_2 : decode cX12_grind 2 = .ok (.invokevirtual 171, 3) := by decide +kernel
theorem dX12_grind_5 : decode cX12_grind 5 = .ok (.ifCond .ne 5, 3) := by decide +kernel
theorem dX12_grind_8 : decode cX12_grind 8 = .ok (.iconst (-1), 1) := by decide +kernel
theorem dX12_grind_9 : decode cX12_grind 9 = .ok (.ireturn, 1) := by decide +kernel
theorem dX12_grind_10 : decode cX12_grind 10 = .ok (.aload_n 0, 1) := by decide +kernel
theorem dX12_grind_11 : decode cX12_grind 11 = .ok (.getfield 7, 3) := by decide +kernel
theorem dX12_grind_14 : decode cX12_grind 14 = .ok (.iload_n 1, 1) := by decide +kernel
theorem dX12_grind_15 : decode cX12_grind 15 = .ok (.iaload, 1) := by decide +kernel
theorem dX12_grind_16 : decode cX12_grind 16 = .ok (.iconst 1, 1) := by decide +kernel
theorem dX12_grind_17 : decode cX12_grind 17 = .ok (.if_icmp .eq 6, 3) := by decide +kernel
theorem dX12_grind_20 : decode cX12_grind 20 = .ok (.bipush (-5), 2) := by decide +kernel
theorem dX12_grind_22 : decode cX12_grind 22 = .ok (.ireturn, 1) := by decide +kernel
theorem dX12_grind_23 : decode cX12_grind 23 = .ok (.aload_n 0, 1) := by decide +kernel
theorem dX12_grind_24 : decode cX12_grind 24 = .ok (.getfield 28, 3) := by decide +kernel
theorem dX12_grind_27 : decode cX12_grind 27 = .ok (.iload_n 1, 1) := by decide +kernel
theorem dX12_grind_28 : decode cX12_grind 28 = .ok (.baload, 1) := by decide +kernel
theorem dX12_grind_29 : decode cX12_grind 29 = .ok (.ifCond .eq 6, 3) := by decide +kernel
theorem dX12_grind_32 : decode cX12_grind 32 = .ok (.bipush (-3), 2) := by decide +kernel
theorem dX12_grind_34 : decode cX12_grind 34 = .ok (.ireturn, 1) := by decide +kernel
theorem dX12_grind_35 : decode cX12_grind 35 = .ok (.aload_n 0, 1) := by decide +kernel
theorem dX12_grind_36 : decode cX12_grind 36 = .ok (.getfield 22, 3) := by decide +kernel
theorem dX12_grind_39 : decode cX12_grind 39 = .ok (.iload_n 1, 1) := by decide +kernel
theorem dX12_grind_40 : decode cX12_grind 40 = .ok (.iaload, 1) := by decide +kernel
theorem dX12_grind_41 : decode cX12_grind 41 = .ok (.aload_n 0, 1) := by decide +kernel
theorem dX12_grind_42 : decode cX12_grind 42 = .ok (.getfield 38, 3) := by decide +kernel
theorem dX12_grind_45 : decode cX12_grind 45 = .ok (.idiv, 1) := by decide +kernel
theorem dX12_grind_46 : decode cX12_grind 46 = .ok (.istore_n 2, 1) := by decide +kernel
theorem dX12_grind_47 : decode cX12_grind 47 = .ok (.aload_n 0, 1) := by decide +kernel
theorem dX12_grind_48 : decode cX12_grind 48 = .ok (.getfield 28, 3) := by decide +kernel
theorem dX12_grind_51 : decode cX12_grind 51 = .ok (.iload_n 1, 1) := by decide +kernel
theorem dX12_grind_52 : decode cX12_grind 52 = .ok (.iconst 1, 1) := by decide +kernel
theorem dX12_grind_53 : decode cX12_grind 53 = .ok (.bastore, 1) := by decide +kernel
theorem dX12_grind_54 : decode cX12_grind 54 = .ok (.aload_n 0, 1) := by decide +kernel
theorem dX12_grind_55 : decode cX12_grind 55 = .ok (.getfield 32, 3) := by decide +kernel
theorem dX12_grind_58 : decode cX12_grind 58 = .ok (.iload_n 1, 1) := by decide +kernel
theorem dX12_grind_59 : decode cX12_grind 59 = .ok (.aload_n 0, 1) := by decide +kernel
theorem dX12_grind_60 : decode cX12_grind 60 = .ok (.getfield 22, 3) := by decide +kernel
theorem dX12_grind_63 : decode cX12_grind 63 = .ok (.iload_n 1, 1) := by decide +kernel
theorem dX12_grind_64 : decode cX12_grind 64 = .ok (.iaload, 1) := by decide +kernel
theorem dX12_grind_65 : decode cX12_grind 65 = .ok (.iload_n 2, 1) := by decide +kernel
theorem dX12_grind_66 : decode cX12_grind 66 = .ok (.isub, 1) := by decide +kernel
theorem dX12_grind_67 : decode cX12_grind 67 = .ok (.iastore, 1) := by decide +kernel
theorem dX12_grind_68 : decode cX12_grind 68 = .ok (.aload_n 0, 1) := by decide +kernel
theorem dX12_grind_69 : decode cX12_grind 69 = .ok (.getfield 35, 3) := by decide +kernel
theorem dX12_grind_72 : decode cX12_grind 72 = .ok (.aload_n 0, 1) := by decide +kernel
theorem dX12_grind_73 : decode cX12_grind 73 = .ok (.getfield 174, 3) := by decide +kernel
theorem dX12_grind_76 : decode cX12_grind 76 = .ok (.iload_n 1, 1) := by decide +kernel
theorem dX12_grind_77 : decode cX12_grind 77 = .ok (.iastore, 1) := by decide +kernel
theorem dX12_grind_78 : decode cX12_grind 78 = .ok (.aload_n 0, 1) := by decide +kernel
theorem dX12_grind_79 : decode cX12_grind 79 = .ok (.dup, 1) := by decide +kernel
theorem dX12_grind_80 : decode cX12_grind 80 = .ok (.getfield 174, 3) := by decide +kernel
theorem dX12_grind_83 : decode cX12_grind 83 = .ok (.iconst 1, 1) := by decide +kernel
theorem dX12_grind_84 : decode cX12_grind 84 = .ok (.iadd, 1) := by decide +kernel
theorem dX12_grind_85 : decode cX12_grind 85 = .ok (.putfield 174, 3) := by decide +kernel
theorem dX12_grind_88 : decode cX12_grind 88 = .ok (.aload_n 0, 1) := by decide +kernel
theorem dX12_grind_89 : decode cX12_grind 89 = .ok (.dup, 1) := by decide +kernel
theorem dX12_grind_90 : decode cX12_grind 90 = .ok (.getfield 177, 3) := by decide +kernel
theorem dX12_grind_93 : decode cX12_grind 93 = .ok (.iload_n 2, 1) := by decide +kernel
theorem dX12_grind_94 : decode cX12_grind 94 = .ok (.iadd, 1) := by decide +kernel
theorem dX12_grind_95 : decode cX12_grind 95 = .ok (.putfield 177, 3) := by decide +kernel
theorem dX12_grind_98 : decode cX12_grind 98 = .ok (.iload_n 2, 1) := by decide +kernel
theorem dX12_grind_99 : decode cX12_grind 99 = .ok (.ireturn, 1) := by decide +kernel
set_option maxRecDepth 20000 in
theorem ggX12_dish_X12_in : GoodIn wsX12_dish wsX12_in := goodIn_r _ [7] (by decide +kernel) (by decide +kernel)
set_option maxRecDepth 20000 in
theorem gX12_dish_X12_in : GoodIn wsX12_dish (va_wsS RX12 123 yX12_in wsX12_in) := goodIn_app (goodIn_of _ (by decide +kernel)) ggX12_dish_X12_in
theorem dX12_dish_0 : decode cX12_dish 0 = .ok (.iload_n 1, 1) := by decide +kernel
theorem dX12_dish_1 : decode cX12_dish 1 = .ok (.i2l, 1) := by decide +kernel
theorem dX12_dish_2 : decode cX12_dish 2 = .ok (.ldc2_w 180, 3) := by decide +kernel
theorem dX12_dish_5 : decode cX12_dish 5 = .ok (.ldc2_w 182, 3) := by decide +kernel
theorem dX12_dish_8 : decode cX12_dish 8 = .ok (.invokestatic 123, 3) := by decide +kernel
theorem dX12_dish_11 : decode cX12_dish 11 = .ok (.ifCond .ne 6, 3) := by decide +kernel
theorem dX12_dish_14 : decode cX12_dish 14 = .ok (.bipush (-2), 2) := by decide +kernel
theorem dX12_dish_16 : decode cX12_dish 16 = .ok (.ireturn, 1) := by decide +kernel
theorem dX12_dish_17 : decode cX12_dish 17 = .ok (.aload_n 0, 1) := by decide +kernel
theorem dX12_dish_18 : decode cX12_dish 18 = .ok (.getfield 38, 3) := by decide +kernel
theorem dX12_dish_21 : decode cX12_dish 21 = .ok (.istore_n 2, 1) := by decide +kernel
theorem dX12_dish_22 : decode cX12_dish 22 = .ok (.aload_n 0, 1) := by decide +kernel
theorem dX12_dish_23 : decode cX12_dish 23 = .ok (.iload_n 1, 1) := by decide +kernel
theorem dX12_dish_24 : decode cX12_dish 24 = .ok (.putfield 38, 3) := by decide +kernel
theorem dX12_dish_27 : decode cX12_dish 27 = .ok (.iload_n 2, 1) := by decide +kernel
theorem dX12_dish_28 : decode cX12_dish 28 = .ok (.ireturn, 1) := by decide +kernel
theorem dX12_priceIn_0 : decode cX12_priceIn 0 = .ok (.iload_n 1, 1) := by decide +kernel
theorem dX12_priceIn_1 : decode cX12_priceIn 1 = .ok (.istore_n 2, 1) := by decide +kernel
theorem dX12_priceIn_2 : decode cX12_priceIn 2 = .ok (.iload_n 2, 1) := by decide +kernel
theorem dX12_priceIn_3 : decode cX12_priceIn 3 = .ok (.ifCond .lt 100, 3) := by decide +kernel
theorem dX12_priceIn_6 : decode cX12_priceIn 6 = .ok (.lconst 0, 1) := by decide +kernel
theorem dX12_priceIn_7 : decode cX12_priceIn 7 = .ok (.lstore_n 3, 1) := by decide +kernel
theorem dX12_priceIn_8 : decode cX12_priceIn 8 = .ok (.lconst 0, 1) := by decide +kernel
theorem dX12_priceIn_9 : decode cX12_priceIn 9 = .ok (.lstore 5, 2) := by decide +kernel
theorem dX12_priceIn_11 : decode cX12_priceIn 11 = .ok (.iconst 0, 1) := by decide +kernel
theorem dX12_priceIn_12 : decode cX12_priceIn 12 = .ok (.istore 7, 2) := by decide +kernel
theorem dX12_priceIn_14 : decode cX12_priceIn 14 = .ok (.iload 7, 2) := by decide +kernel
theorem dX12_priceIn_16 : decode cX12_priceIn 16 = .ok (.aload_n 0, 1) := by decide +kernel
theorem dX12_priceIn_17 : decode cX12_priceIn 17 = .ok (.getfield 127, 3) := by decide +kernel
theorem dX12_priceIn_20 : decode cX12_priceIn 20 = .ok (.if_icmp .ge 64, 3) := by decide +kernel
theorem dX12_priceIn_23 : decode cX12_priceIn 23 = .ok (.aload_n 0, 1) := by decide +kernel
theorem dX12_priceIn_24 : decode cX12_priceIn 24 = .ok (.getfield 7, 3) := by decide +kernel
theorem dX12_priceIn_27 : decode cX12_priceIn 27 = .ok (.iload 7, 2) := by decide +kernel
theorem dX12_priceIn_29 : decode cX12_priceIn 29 = .ok (.iaload, 1) := by decide +kernel
theorem dX12_priceIn_30 : decode cX12_priceIn 30 = .ok (.iconst 1, 1) := by decide +kernel
theorem dX12_priceIn_31 : decode cX12_priceIn 31 = .ok (.if_icmp .ne 47, 3) := by decide +kernel
theorem dX12_priceIn_34 : decode cX12_priceIn 34 = .ok (.aload_n 0, 1) := by decide +kernel
theorem dX12_priceIn_35 : decode cX12_priceIn 35 = .ok (.getfield 13, 3) := by decide +kernel
theorem dX12_priceIn_38 : decode cX12_priceIn 38 = .ok (.iload 7, 2) := by decide +kernel
theorem dX12_priceIn_40 : decode cX12_priceIn 40 = .ok (.iaload, 1) := by decide +kernel
theorem dX12_priceIn_41 : decode cX12_priceIn 41 = .ok (.iload_n 2, 1) := by decide +kernel
theorem dX12_priceIn_42 : decode cX12_priceIn 42 = .ok (.if_icmp .ne 36, 3) := by decide +kernel
theorem dX12_priceIn_45 : decode cX12_priceIn 45 = .ok (.lload_n 3, 1) := by decide +kernel
theorem dX12_priceIn_46 : decode cX12_priceIn 46 = .ok (.aload_n 0, 1) := by decide +kernel
theorem dX12_priceIn_47 : decode cX12_priceIn 47 = .ok (.getfield 25, 3) := by decide +kernel
theorem dX12_priceIn_50 : decode cX12_priceIn 50 = .ok (.iload 7, 2) := by decide +kernel
theorem dX12_priceIn_52 : decode cX12_priceIn 52 = .ok (.iaload, 1) := by decide +kernel
theorem dX12_priceIn_53 : decode cX12_priceIn 53 = .ok (.i2l, 1) := by decide +kernel
theorem dX12_priceIn_54 : decode cX12_priceIn 54 = .ok (.aload_n 0, 1) := by decide +kernel
theorem dX12_priceIn_55 : decode cX12_priceIn 55 = .ok (.getfield 22, 3) := by decide +kernel
theorem dX12_priceIn_58 : decode cX12_priceIn 58 = .ok (.iload 7, 2) := by decide +kernel
theorem dX12_priceIn_60 : decode cX12_priceIn 60 = .ok (.iaload, 1) := by decide +kernel
theorem dX12_priceIn_61 : decode cX12_priceIn 61 = .ok (.i2l, 1) := by decide +kernel
theorem dX12_priceIn_62 : decode cX12_priceIn 62 = .ok (.lmul, 1) := by decide +kernel
theorem dX12_priceIn_63 : decode cX12_priceIn 63 = .ok (.ladd, 1) := by decide +kernel
theorem dX12_priceIn_64 : decode cX12_priceIn 64 = .ok (.lstore_n 3, 1) := by decide +kernel
theorem dX12_priceIn_65 : decode cX12_priceIn 65 = .ok (.lload 5, 2) := by decide +kernel
theorem dX12_priceIn_67 : decode cX12_priceIn 67 = .ok (.aload_n 0, 1) := by decide +kernel
theorem dX12_priceIn_68 : decode cX12_priceIn 68 = .ok (.getfield 22, 3) := by decide +kernel
theorem dX12_priceIn_71 : decode cX12_priceIn 71 = .ok (.iload 7, 2) := by decide +kernel
theorem dX12_priceIn_73 : decode cX12_priceIn 73 = .ok (.iaload, 1) := by decide +kernel
theorem dX12_priceIn_74 : decode cX12_priceIn 74 = .ok (.i2l, 1) := by decide +kernel
theorem dX12_priceIn_75 : decode cX12_priceIn 75 = .ok (.ladd, 1) := by decide +kernel
theorem dX12_priceIn_76 : decode cX12_priceIn 76 = .ok (.lstore 5, 2) := by decide +kernel
theorem dX12_priceIn_78 : decode cX12_priceIn 78 = .ok (.iinc 7 1, 3) := by decide +kernel
theorem dX12_priceIn_81 : decode cX12_priceIn 81 = .ok (.goto (-67), 3) := by decide +kernel
theorem dX12_priceIn_84 : decode cX12_priceIn 84 = .ok (.lload 5, 2) := by decide +kernel
theorem dX12_priceIn_86 : decode cX12_priceIn 86 = .ok (.lconst 0, 1) := by decide +kernel
theorem dX12_priceIn_87 : decode cX12_priceIn 87 = .ok (.lcmp, 1) := by decide +kernel
theorem dX12_priceIn_88 : decode cX12_priceIn 88 = .ok (.ifCond .le 9, 3) := by decide +kernel
theorem dX12_priceIn_91 : decode cX12_priceIn 91 = .ok (.lload_n 3, 1) := by decide +kernel
theorem dX12_priceIn_92 : decode cX12_priceIn 92 = .ok (.lload 5, 2) := by decide +kernel
theorem dX12_priceIn_94 : decode cX12_priceIn 94 = .ok (.ldiv, 1) := by decide +kernel
theorem dX12_priceIn_95 : decode cX12_priceIn 95 = .ok (.l2i, 1) := by decide +kernel
theorem dX12_priceIn_96 : decode cX12_priceIn 96 = .ok (.ireturn, 1) := by decide +kernel
theorem dX12_priceIn_97 : decode cX12_priceIn 97 = .ok (.iinc 2 (-1), 3) := by decide +kernel
theorem dX12_priceIn_100 : decode cX12_priceIn 100 = .ok (.goto (-98), 3) := by decide +kernel
theorem dX12_priceIn_103 : decode cX12_priceIn 103 = .ok (.bipush 100, 2) := by decide +kernel
theorem dX12_priceIn_105 : decode cX12_priceIn 105 = .ok (.ireturn, 1) := by decide +kernel
set_option maxRecDepth 20000 in
theorem ggX12_price_X12_in : GoodIn wsX12_price wsX12_in := goodIn_r _ [6] (by decide +kernel) (by decide +kernel)
set_option maxRecDepth 20000 in
theorem gX12_price_X12_in : GoodIn wsX12_price (va_wsS RX12 123 yX12_in wsX12_in) := goodIn_app (goodIn_of _ (by decide +kernel)) ggX12_price_X12_in
set_option maxRecDepth 20000 in
theorem ggX12_price_X12_priceIn : GoodIn wsX12_price wsX12_priceIn := goodIn_r _ [10, 11, 12, 13, 14, 15, 16, 17, 18, 19, 20, 21, 22, 23, 24, 25, 26, 27, 28, 29, 30, 31, 32, 33, 34, 35, 36, 37, 38, 39, 40, 41, 42, 43, 44, 45, 46, 47, 48, 49, 50, 51, 52, 53, 54, 55, 56, 57, 58, 59, 60, 61, 62, 63, 64, 65] (by decide +kernel) (by decide +kernel)
set_option maxRecDepth 20000 in
theorem gX12_price_X12_priceIn : GoodIn wsX12_price (wsV RX12 186 RX12 yX12_priceIn wsX12_priceIn) := goodIn_app (goodIn_of _ (by decide +kernel)) ggX12_price_X12_priceIn
theorem dX12_price_0 : decode cX12_price 0 = .ok (.iload_n 1, 1) := by decide +kernel
theorem dX12_price_1 : decode cX12_price 1 = .ok (.i2l, 1) := by decide +kernel
theorem dX12_price_2 : decode cX12_price 2 = .ok (.ldc2_w 184, 3) := by decide +kernel
theorem dX12_price_5 : decode cX12_price 5 = .ok (.aload_n 0, 1) := by decide +kernel
theorem dX12_price_6 : decode cX12_price 6 = .ok (.getfield 130, 3) := by decide +kernel
theorem dX12_price_9 : decode cX12_price 9 = .ok (.i2l, 1) := by decide +kernel
theorem dX12_price_10 : decode cX12_price 10 = .ok (.invokestatic 123, 3) := by decide +kernel
theorem dX12_price_13 : decode cX12_price 13 = .ok (.ifCond .eq 11, 3) := by decide +kernel
theorem dX12_price_16 : decode cX12_price 16 = .ok (.aload_n 0, 1) := by decide +kernel
theorem dX12_price_17 : decode cX12_price 17 = .ok (.iload_n 1, 1) := by decide +kernel
theorem dX12_price_18 : decode cX12_price 18 = .ok (.invokevirtual 186, 3) := by decide +kernel
theorem dX12_price_21 : decode cX12_price 21 = .ok (.goto 4, 3) := by decide +kernel
theorem dX12_price_24 : decode cX12_price 24 = .ok (.iconst (-1), 1) := by decide +kernel
theorem dX12_price_25 : decode cX12_price 25 = .ok (.ireturn, 1) := by decide +kernel
set_option maxRecDepth 20000 in
theorem ggX12_text_X12_in : GoodIn wsX12_text wsX12_in := goodIn_r _ [12] (by decide +kernel) (by decide +kernel)
set_option maxRecDepth 20000 in
theorem gX12_text_X12_in : GoodIn wsX12_text (va_wsS RX12 123 yX12_in wsX12_in) := goodIn_app (goodIn_of _ (by decide +kernel)) ggX12_text_X12_in
theorem dX12_text_0 : decode cX12_text 0 = .ok (.iload_n 1, 1) := by decide +kernel
theorem dX12_text_1 : decode cX12_text 1 = .ok (.i2l, 1) := by decide +kernel
theorem dX12_text_2 : decode cX12_text 2 = .ok (.lconst 0, 1) := by decide +kernel
theorem dX12_text_3 : decode cX12_text 3 = .ok (.ldc2_w 189, 3) := by decide +kernel
theorem dX12_text_6 : decode cX12_text 6 = .ok (.invokestatic 123, 3) := by decide +kernel
theorem dX12_text_9 : decode cX12_text 9 = .ok (.ifCond .eq 59, 3) := by decide +kernel
theorem dX12_text_12 : decode cX12_text 12 = .ok (.iload_n 2, 1) := by decide +kernel
theorem dX12_text_13 : decode cX12_text 13 = .ok (.i2l, 1) := by decide +kernel
theorem dX12_text_14 : decode cX12_text 14 = .ok (.ldc2_w 191, 3) := by decide +kernel
theorem dX12_text_17 : decode cX12_text 17 = .ok (.ldc2_w 193, 3) := by decide +kernel
theorem dX12_text_20 : decode cX12_text 20 = .ok (.invokestatic 123, 3) := by decide +kernel
theorem dX12_text_23 : decode cX12_text 23 = .ok (.ifCond .eq 45, 3) := by decide +kernel
theorem dX12_text_26 : decode cX12_text 26 = .ok (.iload_n 3, 1) := by decide +kernel
theorem dX12_text_27 : decode cX12_text 27 = .ok (.i2l, 1) := by decide +kernel
theorem dX12_text_28 : decode cX12_text 28 = .ok (.ldc2_w 191, 3) := by decide +kernel
theorem dX12_text_31 : decode cX12_text 31 = .ok (.ldc2_w 193, 3) := by decide +kernel
theorem dX12_text_34 : decode cX12_text 34 = .ok (.invokestatic 123, 3) := by decide +kernel
theorem dX12_text_37 : decode cX12_text 37 = .ok (.ifCond .eq 31, 3) := by decide +kernel
theorem dX12_text_40 : decode cX12_text 40 = .ok (.iload 4, 2) := by decide +kernel
theorem dX12_text_42 : decode cX12_text 42 = .ok (.i2l, 1) := by decide +kernel
theorem dX12_text_43 : decode cX12_text 43 = .ok (.ldc2_w 191, 3) := by decide +kernel
theorem dX12_text_46 : decode cX12_text 46 = .ok (.ldc2_w 193, 3) := by decide +kernel
theorem dX12_text_49 : decode cX12_text 49 = .ok (.invokestatic 123, 3) := by decide +kernel
theorem dX12_text_52 : decode cX12_text 52 = .ok (.ifCond .eq 16, 3) := by decide +kernel
theorem dX12_text_55 : decode cX12_text 55 = .ok (.iload 5, 2) := by decide +kernel
theorem dX12_text_57 : decode cX12_text 57 = .ok (.i2l, 1) := by decide +kernel
theorem dX12_text_58 : decode cX12_text 58 = .ok (.lconst 0, 1) := by decide +kernel
theorem dX12_text_59 : decode cX12_text 59 = .ok (.ldc2_w 195, 3) := by decide +kernel
theorem dX12_text_62 : decode cX12_text 62 = .ok (.invokestatic 123, 3) := by decide +kernel
theorem dX12_text_65 : decode cX12_text 65 = .ok (.ifCond .ne 6, 3) := by decide +kernel
theorem dX12_text_68 : decode cX12_text 68 = .ok (.bipush (-2), 2) := by decide +kernel
theorem dX12_text_70 : decode cX12_text 70 = .ok (.ireturn, 1) := by decide +kernel
theorem dX12_text_71 : decode cX12_text 71 = .ok (.aload_n 0, 1) := by decide +kernel
theorem dX12_text_72 : decode cX12_text 72 = .ok (.getfield 197, 3) := by decide +kernel
theorem dX12_text_75 : decode cX12_text 75 = .ok (.bipush 6, 2) := by decide +kernel
theorem dX12_text_77 : decode cX12_text 77 = .ok (.if_icmp .ne 6, 3) := by decide +kernel
theorem dX12_text_80 : decode cX12_text 80 = .ok (.bipush (-4), 2) := by decide +kernel
theorem dX12_text_82 : decode cX12_text 82 = .ok (.ireturn, 1) := by decide +kernel
theorem dX12_text_83 : decode cX12_text 83 = .ok (.aload_n 0, 1) := by decide +kernel
theorem dX12_text_84 : decode cX12_text 84 = .ok (.getfield 78, 3) := by decide +kernel
theorem dX12_text_87 : decode cX12_text 87 = .ok (.aload_n 0, 1) := by decide +kernel
theorem dX12_text_88 : decode cX12_text 88 = .ok (.getfield 197, 3) := by decide +kernel
theorem dX12_text_91 : decode cX12_text 91 = .ok (.iload_n 1, 1) := by decide +kernel
theorem dX12_text_92 : decode cX12_text 92 = .ok (.iastore, 1) := by decide +kernel
theorem dX12_text_93 : decode cX12_text 93 = .ok (.aload_n 0, 1) := by decide +kernel
theorem dX12_text_94 : decode cX12_text 94 = .ok (.getfield 81, 3) := by decide +kernel
theorem dX12_text_97 : decode cX12_text 97 = .ok (.iconst 3, 1) := by decide +kernel
theorem dX12_text_98 : decode cX12_text 98 = .ok (.aload_n 0, 1) := by decide +kernel
theorem dX12_text_99 : decode cX12_text 99 = .ok (.getfield 197, 3) := by decide +kernel
theorem dX12_text_102 : decode cX12_text 102 = .ok (.imul, 1) := by decide +kernel
theorem dX12_text_103 : decode cX12_text 103 = .ok (.iload_n 2, 1) := by decide +kernel
theorem dX12_text_104 : decode cX12_text 104 = .ok (.iastore, 1) := by decide +kernel
theorem dX12_text_105 : decode cX12_text 105 = .ok (.aload_n 0, 1) := by decide +kernel
theorem dX12_text_106 : decode cX12_text 106 = .ok (.getfield 81, 3) := by decide +kernel
theorem dX12_text_109 : decode cX12_text 109 = .ok (.iconst 3, 1) := by decide +kernel
theorem dX12_text_110 : decode cX12_text 110 = .ok (.aload_n 0, 1) := by decide +kernel
theorem dX12_text_111 : decode cX12_text 111 = .ok (.getfield 197, 3) := by decide +kernel
theorem dX12_text_114 : decode cX12_text 114 = .ok (.imul, 1) := by decide +kernel
theorem dX12_text_115 : decode cX12_text 115 = .ok (.iconst 1, 1) := by decide +kernel
theorem dX12_text_116 : decode cX12_text 116 = .ok (.iadd, 1) := by decide +kernel
theorem dX12_text_117 : decode cX12_text 117 = .ok (.iload_n 3, 1) := by decide +kernel
theorem dX12_text_118 : decode cX12_text 118 = .ok (.iastore, 1) := by decide +kernel
theorem dX12_text_119 : decode cX12_text 119 = .ok (.aload_n 0, 1) := by decide +kernel
theorem dX12_text_120 : decode cX12_text 120 = .ok (.getfield 81, 3) := by decide +kernel
theorem dX12_text_123 : decode cX12_text 123 = .ok (.iconst 3, 1) := by decide +kernel
theorem dX12_text_124 : decode cX12_text 124 = .ok (.aload_n 0, 1) := by decide +kernel
theorem dX12_text_125 : decode cX12_text 125 = .ok (.getfield 197, 3) := by decide +kernel
theorem dX12_text_128 : decode cX12_text 128 = .ok (.imul, 1) := by decide +kernel
theorem dX12_text_129 : decode cX12_text 129 = .ok (.iconst 2, 1) := by decide +kernel
theorem dX12_text_130 : decode cX12_text 130 = .ok (.iadd, 1) := by decide +kernel
theorem dX12_text_131 : decode cX12_text 131 = .ok (.iload 4, 2) := by decide +kernel
theorem dX12_text_133 : decode cX12_text 133 = .ok (.iastore, 1) := by decide +kernel
theorem dX12_text_134 : decode cX12_text 134 = .ok (.aload_n 0, 1) := by decide +kernel
theorem dX12_text_135 : decode cX12_text 135 = .ok (.getfield 84, 3) := by decide +kernel
theorem dX12_text_138 : decode cX12_text 138 = .ok (.aload_n 0, 1) := by decide +kernel
theorem dX12_text_139 : decode cX12_text 139 = .ok (.getfield 197, 3) := by decide +kernel
theorem dX12_text_142 : decode cX12_text 142 = .ok (.iload 5, 2) := by decide +kernel
theorem dX12_text_144 : decode cX12_text 144 = .ok (.iastore, 1) := by decide +kernel
theorem dX12_text_145 : decode cX12_text 145 = .ok (.aload_n 0, 1) := by decide +kernel
theorem dX12_text_146 : decode cX12_text 146 = .ok (.dup, 1) := by decide +kernel
theorem dX12_text_147 : decode cX12_text 147 = .ok (.getfield 197, 3) := by decide +kernel
theorem dX12_text_150 : decode cX12_text 150 = .ok (.iconst 1, 1) := by decide +kernel
theorem dX12_text_151 : decode cX12_text 151 = .ok (.iadd, 1) := by decide +kernel
theorem dX12_text_152 : decode cX12_text 152 = .ok (.putfield 197, 3) := by decide +kernel
theorem dX12_text_155 : decode cX12_text 155 = .ok (.aload_n 0, 1) := by decide +kernel
theorem dX12_text_156 : decode cX12_text 156 = .ok (.getfield 197, 3) := by decide +kernel
theorem dX12_text_159 : decode cX12_text 159 = .ok (.iconst 1, 1) := by decide +kernel
theorem dX12_text_160 : decode cX12_text 160 = .ok (.isub, 1) := by decide +kernel
theorem dX12_text_161 : decode cX12_text 161 = .ok (.ireturn, 1) := by decide +kernel
set_option maxRecDepth 20000 in
theorem ggX12_step_X12_in : GoodIn wsX12_step wsX12_in := goodIn_r _ [9] (by decide +kernel) (by decide +kernel)
set_option maxRecDepth 20000 in
theorem gX12_step_X12_in : GoodIn wsX12_step (va_wsS RX12 123 yX12_in wsX12_in) := goodIn_app (goodIn_of _ (by decide +kernel)) ggX12_step_X12_in
theorem dX12_step_0 : decode cX12_step 0 = .ok (.iload_n 1, 1) := by decide +kernel
theorem dX12_step_1 : decode cX12_step 1 = .ok (.i2l, 1) := by decide +kernel
theorem dX12_step_2 : decode cX12_step 2 = .ok (.lconst 0, 1) := by decide +kernel
theorem dX12_step_3 : decode cX12_step 3 = .ok (.aload_n 0, 1) := by decide +kernel
theorem dX12_step_4 : decode cX12_step 4 = .ok (.getfield 197, 3) := by decide +kernel
theorem dX12_step_7 : decode cX12_step 7 = .ok (.iconst 1, 1) := by decide +kernel
theorem dX12_step_8 : decode cX12_step 8 = .ok (.isub, 1) := by decide +kernel
theorem dX12_step_9 : decode cX12_step 9 = .ok (.i2l, 1) := by decide +kernel
theorem dX12_step_10 : decode cX12_step 10 = .ok (.invokestatic 123, 3) := by decide +kernel
theorem dX12_step_13 : decode cX12_step 13 = .ok (.ifCond .ne 5, 3) := by decide +kernel
theorem dX12_step_16 : decode cX12_step 16 = .ok (.iconst (-1), 1) := by decide +kernel
theorem dX12_step_17 : decode cX12_step 17 = .ok (.ireturn, 1) := by decide +kernel
theorem dX12_step_18 : decode cX12_step 18 = .ok (.iload_n 2, 1) := by decide +kernel
theorem dX12_step_19 : decode cX12_step 19 = .ok (.i2l, 1) := by decide +kernel
theorem dX12_step_20 : decode cX12_step 20 = .ok (.lconst 0, 1) := by decide +kernel
theorem dX12_step_21 : decode cX12_step 21 = .ok (.ldc2_w 165, 3) := by decide +kernel
theorem dX12_step_24 : decode cX12_step 24 = .ok (.invokestatic 123, 3) := by decide +kernel
theorem dX12_step_27 : decode cX12_step 27 = .ok (.ifCond .eq 15, 3) := by decide +kernel
theorem dX12_step_30 : decode cX12_step 30 = .ok (.iload_n 3, 1) := by decide +kernel
theorem dX12_step_31 : decode cX12_step 31 = .ok (.i2l, 1) := by decide +kernel
theorem dX12_step_32 : decode cX12_step 32 = .ok (.lconst 1, 1) := by decide +kernel
theorem dX12_step_33 : decode cX12_step 33 = .ok (.ldc2_w 165, 3) := by decide +kernel
theorem dX12_step_36 : decode cX12_step 36 = .ok (.invokestatic 123, 3) := by decide +kernel
theorem dX12_step_39 : decode cX12_step 39 = .ok (.ifCond .ne 6, 3) := by decide +kernel
theorem dX12_step_42 : decode cX12_step 42 = .ok (.bipush (-2), 2) := by decide +kernel
theorem dX12_step_44 : decode cX12_step 44 = .ok (.ireturn, 1) := by decide +kernel
theorem dX12_step_45 : decode cX12_step 45 = .ok (.aload_n 0, 1) := by decide +kernel
theorem dX12_step_46 : decode cX12_step 46 = .ok (.getfield 93, 3) := by decide +kernel
theorem dX12_step_49 : decode cX12_step 49 = .ok (.iload_n 1, 1) := by decide +kernel
theorem dX12_step_50 : decode cX12_step 50 = .ok (.iaload, 1) := by decide +kernel
theorem dX12_step_51 : decode cX12_step 51 = .ok (.bipush 8, 2) := by decide +kernel
theorem dX12_step_53 : decode cX12_step 53 = .ok (.if_icmp .ne 6, 3) := by decide +kernel
theorem dX12_step_56 : decode cX12_step 56 = .ok (.bipush (-4), 2) := by decide +kernel
theorem dX12_step_58 : decode cX12_step 58 = .ok (.ireturn, 1) := by decide +kernel
theorem dX12_step_59 : decode cX12_step 59 = .ok (.aload_n 0, 1) := by decide +kernel
theorem dX12_step_60 : decode cX12_step 60 = .ok (.getfield 87, 3) := by decide +kernel
theorem dX12_step_63 : decode cX12_step 63 = .ok (.bipush 8, 2) := by decide +kernel
theorem dX12_step_65 : decode cX12_step 65 = .ok (.iload_n 1, 1) := by decide +kernel
theorem dX12_step_66 : decode cX12_step 66 = .ok (.imul, 1) := by decide +kernel
theorem dX12_step_67 : decode cX12_step 67 = .ok (.aload_n 0, 1) := by decide +kernel
theorem dX12_step_68 : decode cX12_step 68 = .ok (.getfield 93, 3) := by decide +kernel
theorem dX12_step_71 : decode cX12_step 71 = .ok (.iload_n 1, 1) := by decide +kernel
theorem dX12_step_72 : decode cX12_step 72 = .ok (.iaload, 1) := by decide +kernel
theorem dX12_step_73 : decode cX12_step 73 = .ok (.iadd, 1) := by decide +kernel
theorem dX12_step_74 : decode cX12_step 74 = .ok (.iload_n 2, 1) := by decide +kernel
theorem dX12_step_75 : decode cX12_step 75 = .ok (.iastore, 1) := by decide +kernel
theorem dX12_step_76 : decode cX12_step 76 = .ok (.aload_n 0, 1) := by decide +kernel
theorem dX12_step_77 : decode cX12_step 77 = .ok (.getfield 90, 3) := by decide +kernel
theorem dX12_step_80 : decode cX12_step 80 = .ok (.bipush 8, 2) := by decide +kernel
theorem dX12_step_82 : decode cX12_step 82 = .ok (.iload_n 1, 1) := by decide +kernel
theorem dX12_step_83 : decode cX12_step 83 = .ok (.imul, 1) := by decide +kernel
theorem dX12_step_84 : decode cX12_step 84 = .ok (.aload_n 0, 1) := by decide +kernel
theorem dX12_step_85 : decode cX12_step 85 = .ok (.getfield 93, 3) := by decide +kernel
theorem dX12_step_88 : decode cX12_step 88 = .ok (.iload_n 1, 1) := by decide +kernel
theorem dX12_step_89 : decode cX12_step 89 = .ok (.iaload, 1) := by decide +kernel
theorem dX12_step_90 : decode cX12_step 90 = .ok (.iadd, 1) := by decide +kernel
theorem dX12_step_91 : decode cX12_step 91 = .ok (.iload_n 3, 1) := by decide +kernel
theorem dX12_step_92 : decode cX12_step 92 = .ok (.iastore, 1) := by decide +kernel
theorem dX12_step_93 : decode cX12_step 93 = .ok (.aload_n 0, 1) := by decide +kernel
theorem dX12_step_94 : decode cX12_step 94 = .ok (.getfield 93, 3) := by decide +kernel
theorem dX12_step_97 : decode cX12_step 97 = .ok (.iload_n 1, 1) := by decide +kernel
theorem dX12_step_98 : decode cX12_step 98 = .ok (.dup2, 1) := by decide +kernel
theorem dX12_step_99 : decode cX12_step 99 = .ok (.iaload, 1) := by decide +kernel
theorem dX12_step_100 : decode cX12_step 100 = .ok (.iconst 1, 1) := by decide +kernel
theorem dX12_step_101 : decode cX12_step 101 = .ok (.iadd, 1) := by decide +kernel
theorem dX12_step_102 : decode cX12_step 102 = .ok (.iastore, 1) := by decide +kernel
theorem dX12_step_103 : decode cX12_step 103 = .ok (.aload_n 0, 1) := by decide +kernel
theorem dX12_step_104 : decode cX12_step 104 = .ok (.getfield 93, 3) := by decide +kernel
theorem dX12_step_107 : decode cX12_step 107 = .ok (.iload_n 1, 1) := by decide +kernel
theorem dX12_step_108 : decode cX12_step 108 = .ok (.iaload, 1) := by decide +kernel
theorem dX12_step_109 : decode cX12_step 109 = .ok (.ireturn, 1) := by decide +kernel
theorem dX12_textIn_0 : decode cX12_textIn 0 = .ok (.bipush (-6), 2) := by decide +kernel
theorem dX12_textIn_2 : decode cX12_textIn 2 = .ok (.istore_n 2, 1) := by decide +kernel
theorem dX12_textIn_3 : decode cX12_textIn 3 = .ok (.iconst 0, 1) := by decide +kernel
theorem dX12_textIn_4 : decode cX12_textIn 4 = .ok (.istore_n 3, 1) := by decide +kernel
theorem dX12_textIn_5 : decode cX12_textIn 5 = .ok (.iload_n 3, 1) := by decide +kernel
theorem dX12_textIn_6 : decode cX12_textIn 6 = .ok (.aload_n 0, 1) := by decide +kernel
theorem dX12_textIn_7 : decode cX12_textIn 7 = .ok (.getfield 197, 3) := by decide +kernel
theorem dX12_textIn_10 : decode cX12_textIn 10 = .ok (.if_icmp .ge 40, 3) := by decide +kernel
theorem dX12_textIn_13 : decode cX12_textIn 13 = .ok (.aload_n 0, 1) := by decide +kernel
theorem dX12_textIn_14 : decode cX12_textIn 14 = .ok (.getfield 78, 3) := by decide +kernel
theorem dX12_textIn_17 : decode cX12_textIn 17 = .ok (.iload_n 3, 1) := by decide +kernel
theorem dX12_textIn_18 : decode cX12_textIn 18 = .ok (.iaload, 1) := by decide +kernel
theorem dX12_textIn_19 : decode cX12_textIn 19 = .ok (.iload_n 1, 1) := by decide +kernel
theorem dX12_textIn_20 : decode cX12_textIn 20 = .ok (.if_icmp .gt 24, 3) := by decide +kernel
theorem dX12_textIn_23 : decode cX12_textIn 23 = .ok (.iload_n 2, 1) := by decide +kernel
theorem dX12_textIn_24 : decode cX12_textIn 24 = .ok (.ifCond .lt 18, 3) := by decide +kernel
theorem dX12_textIn_27 : decode cX12_textIn 27 = .ok (.aload_n 0, 1) := by decide +kernel
theorem dX12_textIn_28 : decode cX12_textIn 28 = .ok (.getfield 78, 3) := by decide +kernel
theorem dX12_textIn_31 : decode cX12_textIn 31 = .ok (.iload_n 3, 1) := by decide +kernel
theorem dX12_textIn_32 : decode cX12_textIn 32 = .ok (.iaload, 1) := by decide +kernel
theorem dX12_textIn_33 : decode cX12_textIn 33 = .ok (.aload_n 0, 1) := by decide +kernel
theorem dX12_textIn_34 : decode cX12_textIn 34 = .ok (.getfield 78, 3) := by decide +kernel
theorem dX12_textIn_37 : decode cX12_textIn 37 = .ok (.iload_n 2, 1) := by decide +kernel
theorem dX12_textIn_38 : decode cX12_textIn 38 = .ok (.iaload, 1) := by decide +kernel
theorem dX12_textIn_39 : decode cX12_textIn 39 = .ok (.if_icmp .lt 5, 3) := by decide +kernel
theorem dX12_textIn_42 : decode cX12_textIn 42 = .ok (.iload_n 3, 1) := by decide +kernel
theorem dX12_textIn_43 : decode cX12_textIn 43 = .ok (.istore_n 2, 1) := by decide +kernel
theorem dX12_textIn_44 : decode cX12_textIn 44 = .ok (.iinc 3 1, 3) := by decide +kernel
theorem dX12_textIn_47 : decode cX12_textIn 47 = .ok (.goto (-42), 3) := by decide +kernel
theorem dX12_textIn_50 : decode cX12_textIn 50 = .ok (.iload_n 2, 1) := by decide +kernel
theorem dX12_textIn_51 : decode cX12_textIn 51 = .ok (.ireturn, 1) := by decide +kernel
set_option maxRecDepth 20000 in
theorem ggX12_inForce_X12_in : GoodIn wsX12_inForce wsX12_in := goodIn_r _ [5] (by decide +kernel) (by decide +kernel)
set_option maxRecDepth 20000 in
theorem gX12_inForce_X12_in : GoodIn wsX12_inForce (va_wsS RX12 123 yX12_in wsX12_in) := goodIn_app (goodIn_of _ (by decide +kernel)) ggX12_inForce_X12_in
set_option maxRecDepth 20000 in
theorem ggX12_inForce_X12_textIn : GoodIn wsX12_inForce wsX12_textIn := goodIn_r _ [9, 10, 11, 12, 13, 14, 15, 16, 17, 18, 19, 20, 21, 22, 23, 24, 25, 26, 27, 28, 29, 30, 31, 32, 33, 34, 35, 36, 37, 38, 39, 40, 41, 42, 43, 44, 45, 46, 47, 48, 49, 50, 51, 52, 53, 54, 55, 56, 57, 58, 59, 60, 61] (by decide +kernel) (by decide +kernel)
set_option maxRecDepth 20000 in
theorem gX12_inForce_X12_textIn : GoodIn wsX12_inForce (wsV RX12 200 RX12 yX12_textIn wsX12_textIn) := goodIn_app (goodIn_of _ (by decide +kernel)) ggX12_inForce_X12_textIn
theorem dX12_inForce_0 : decode cX12_inForce 0 = .ok (.iload_n 1, 1) := by decide +kernel
theorem dX12_inForce_1 : decode cX12_inForce 1 = .ok (.i2l, 1) := by decide +kernel
theorem dX12_inForce_2 : decode cX12_inForce 2 = .ok (.lconst 0, 1) := by decide +kernel
theorem dX12_inForce_3 : decode cX12_inForce 3 = .ok (.ldc2_w 189, 3) := by decide +kernel
theorem dX12_inForce_6 : decode cX12_inForce 6 = .ok (.invokestatic 123, 3) := by decide +kernel
theorem dX12_inForce_9 : decode cX12_inForce 9 = .ok (.ifCond .eq 11, 3) := by decide +kernel
theorem dX12_inForce_12 : decode cX12_inForce 12 = .ok (.aload_n 0, 1) := by decide +kernel
theorem dX12_inForce_13 : decode cX12_inForce 13 = .ok (.iload_n 1, 1) := by decide +kernel
theorem dX12_inForce_14 : decode cX12_inForce 14 = .ok (.invokevirtual 200, 3) := by decide +kernel
theorem dX12_inForce_17 : decode cX12_inForce 17 = .ok (.goto 4, 3) := by decide +kernel
theorem dX12_inForce_20 : decode cX12_inForce 20 = .ok (.iconst (-1), 1) := by decide +kernel
theorem dX12_inForce_21 : decode cX12_inForce 21 = .ok (.ireturn, 1) := by decide +kernel
set_option maxRecDepth 20000 in
theorem ggX12_dueIn_X12_textIn : GoodIn wsX12_dueIn wsX12_textIn := goodIn_r _ [9, 10, 11, 21, 22, 23, 24, 25, 26, 27, 28, 29, 30, 31, 32, 33, 34, 35, 36, 37, 38, 39, 40, 41, 42, 43, 44, 45, 46, 47, 48, 49, 50, 51, 52, 53, 54, 55, 56, 57, 58, 59, 60, 61, 62, 63, 64, 65, 66, 67, 68, 69, 70] (by decide +kernel) (by decide +kernel)
set_option maxRecDepth 20000 in
theorem gX12_dueIn_X12_textIn : GoodIn wsX12_dueIn (wsV RX12 200 RX12 yX12_textIn wsX12_textIn) := goodIn_app (goodIn_of _ (by decide +kernel)) ggX12_dueIn_X12_textIn
set_option maxRecDepth 20000 in
theorem ggX12_dueIn_X12_priceIn : GoodIn wsX12_dueIn wsX12_priceIn := goodIn_r _ [15, 16, 17, 18, 19, 20, 21, 22, 23, 24, 25, 26, 27, 28, 29, 30, 31, 32, 33, 34, 35, 36, 37, 38, 39, 40, 41, 42, 43, 44, 45, 46, 47, 48, 49, 50, 51, 52, 53, 54, 55, 56, 57, 58, 59, 60, 61, 62, 63, 64, 65, 66, 67, 68, 69, 70] (by decide +kernel) (by decide +kernel)
set_option maxRecDepth 20000 in
theorem gX12_dueIn_X12_priceIn : GoodIn wsX12_dueIn (wsV RX12 186 RX12 yX12_priceIn wsX12_priceIn) := goodIn_app (goodIn_of _ (by decide +kernel)) ggX12_dueIn_X12_priceIn
theorem dX12_dueIn_0 : decode cX12_dueIn 0 = .ok (.aload_n 0, 1) := by decide +kernel
theorem dX12_dueIn_1 : decode cX12_dueIn 1 = .ok (.iload_n 2, 1) := by decide +kernel
theorem dX12_dueIn_2 : decode cX12_dueIn 2 = .ok (.invokevirtual 200, 3) := by decide +kernel
theorem dX12_dueIn_5 : decode cX12_dueIn 5 = .ok (.istore_n 3, 1) := by decide +kernel
theorem dX12_dueIn_6 : decode cX12_dueIn 6 = .ok (.iload_n 3, 1) := by decide +kernel
theorem dX12_dueIn_7 : decode cX12_dueIn 7 = .ok (.ifCond .ge 5, 3) := by decide +kernel
theorem dX12_dueIn_10 : decode cX12_dueIn 10 = .ok (.iconst 0, 1) := by decide +kernel
theorem dX12_dueIn_11 : decode cX12_dueIn 11 = .ok (.ireturn, 1) := by decide +kernel
theorem dX12_dueIn_12 : decode cX12_dueIn 12 = .ok (.aload_n 0, 1) := by decide +kernel
theorem dX12_dueIn_13 : decode cX12_dueIn 13 = .ok (.iload_n 2, 1) := by decide +kernel
theorem dX12_dueIn_14 : decode cX12_dueIn 14 = .ok (.iconst 1, 1) := by decide +kernel
theorem dX12_dueIn_15 : decode cX12_dueIn 15 = .ok (.isub, 1) := by decide +kernel
theorem dX12_dueIn_16 : decode cX12_dueIn 16 = .ok (.invokevirtual 186, 3) := by decide +kernel
theorem dX12_dueIn_19 : decode cX12_dueIn 19 = .ok (.istore 4, 2) := by decide +kernel
theorem dX12_dueIn_21 : decode cX12_dueIn 21 = .ok (.iconst (-1), 1) := by decide +kernel
theorem dX12_dueIn_22 : decode cX12_dueIn 22 = .ok (.istore 5, 2) := by decide +kernel
theorem dX12_dueIn_24 : decode cX12_dueIn 24 = .ok (.bipush 8, 2) := by decide +kernel
theorem dX12_dueIn_26 : decode cX12_dueIn 26 = .ok (.iload_n 3, 1) := by decide +kernel
theorem dX12_dueIn_27 : decode cX12_dueIn 27 = .ok (.imul, 1) := by decide +kernel
theorem dX12_dueIn_28 : decode cX12_dueIn 28 = .ok (.istore 6, 2) := by decide +kernel
theorem dX12_dueIn_30 : decode cX12_dueIn 30 = .ok (.iload 6, 2) := by decide +kernel
theorem dX12_dueIn_32 : decode cX12_dueIn 32 = .ok (.bipush 8, 2) := by decide +kernel
theorem dX12_dueIn_34 : decode cX12_dueIn 34 = .ok (.iload_n 3, 1) := by decide +kernel
theorem dX12_dueIn_35 : decode cX12_dueIn 35 = .ok (.imul, 1) := by decide +kernel
theorem dX12_dueIn_36 : decode cX12_dueIn 36 = .ok (.aload_n 0, 1) := by decide +kernel
theorem dX12_dueIn_37 : decode cX12_dueIn 37 = .ok (.getfield 93, 3) := by decide +kernel
theorem dX12_dueIn_40 : decode cX12_dueIn 40 = .ok (.iload_n 3, 1) := by decide +kernel
theorem dX12_dueIn_41 : decode cX12_dueIn 41 = .ok (.iaload, 1) := by decide +kernel
theorem dX12_dueIn_42 : decode cX12_dueIn 42 = .ok (.iadd, 1) := by decide +kernel
theorem dX12_dueIn_43 : decode cX12_dueIn 43 = .ok (.if_icmp .ge 47, 3) := by decide +kernel
theorem dX12_dueIn_46 : decode cX12_dueIn 46 = .ok (.aload_n 0, 1) := by decide +kernel
theorem dX12_dueIn_47 : decode cX12_dueIn 47 = .ok (.getfield 87, 3) := by decide +kernel
theorem dX12_dueIn_50 : decode cX12_dueIn 50 = .ok (.iload 6, 2) := by decide +kernel
theorem dX12_dueIn_52 : decode cX12_dueIn 52 = .ok (.iaload, 1) := by decide +kernel
theorem dX12_dueIn_53 : decode cX12_dueIn 53 = .ok (.iload 4, 2) := by decide +kernel
theorem dX12_dueIn_55 : decode cX12_dueIn 55 = .ok (.if_icmp .gt 29, 3) := by decide +kernel
theorem dX12_dueIn_58 : decode cX12_dueIn 58 = .ok (.iload 5, 2) := by decide +kernel
theorem dX12_dueIn_60 : decode cX12_dueIn 60 = .ok (.ifCond .lt 20, 3) := by decide +kernel
theorem dX12_dueIn_63 : decode cX12_dueIn 63 = .ok (.aload_n 0, 1) := by decide +kernel
theorem dX12_dueIn_64 : decode cX12_dueIn 64 = .ok (.getfield 87, 3) := by decide +kernel
theorem dX12_dueIn_67 : decode cX12_dueIn 67 = .ok (.iload 6, 2) := by decide +kernel
theorem dX12_dueIn_69 : decode cX12_dueIn 69 = .ok (.iaload, 1) := by decide +kernel
theorem dX12_dueIn_70 : decode cX12_dueIn 70 = .ok (.aload_n 0, 1) := by decide +kernel
theorem dX12_dueIn_71 : decode cX12_dueIn 71 = .ok (.getfield 87, 3) := by decide +kernel
theorem dX12_dueIn_74 : decode cX12_dueIn 74 = .ok (.iload 5, 2) := by decide +kernel
theorem dX12_dueIn_76 : decode cX12_dueIn 76 = .ok (.iaload, 1) := by decide +kernel
theorem dX12_dueIn_77 : decode cX12_dueIn 77 = .ok (.if_icmp .lt 7, 3) := by decide +kernel
theorem dX12_dueIn_80 : decode cX12_dueIn 80 = .ok (.iload 6, 2) := by decide +kernel
theorem dX12_dueIn_82 : decode cX12_dueIn 82 = .ok (.istore 5, 2) := by decide +kernel
theorem dX12_dueIn_84 : decode cX12_dueIn 84 = .ok (.iinc 6 1, 3) := by decide +kernel
theorem dX12_dueIn_87 : decode cX12_dueIn 87 = .ok (.goto (-57), 3) := by decide +kernel
theorem dX12_dueIn_90 : decode cX12_dueIn 90 = .ok (.iload 5, 2) := by decide +kernel
theorem dX12_dueIn_92 : decode cX12_dueIn 92 = .ok (.ifCond .ge 7, 3) := by decide +kernel
theorem dX12_dueIn_95 : decode cX12_dueIn 95 = .ok (.iconst 0, 1) := by decide +kernel
theorem dX12_dueIn_96 : decode cX12_dueIn 96 = .ok (.goto 24, 3) := by decide +kernel
theorem dX12_dueIn_99 : decode cX12_dueIn 99 = .ok (.aload_n 0, 1) := by decide +kernel
theorem dX12_dueIn_100 : decode cX12_dueIn 100 = .ok (.getfield 90, 3) := by decide +kernel
theorem dX12_dueIn_103 : decode cX12_dueIn 103 = .ok (.iload 5, 2) := by decide +kernel
theorem dX12_dueIn_105 : decode cX12_dueIn 105 = .ok (.iaload, 1) := by decide +kernel
theorem dX12_dueIn_106 : decode cX12_dueIn 106 = .ok (.aload_n 0, 1) := by decide +kernel
theorem dX12_dueIn_107 : decode cX12_dueIn 107 = .ok (.getfield 81, 3) := by decide +kernel
theorem dX12_dueIn_110 : decode cX12_dueIn 110 = .ok (.iconst 3, 1) := by decide +kernel
theorem dX12_dueIn_111 : decode cX12_dueIn 111 = .ok (.iload_n 3, 1) := by decide +kernel
theorem dX12_dueIn_112 : decode cX12_dueIn 112 = .ok (.imul, 1) := by decide +kernel
theorem dX12_dueIn_113 : decode cX12_dueIn 113 = .ok (.iload_n 1, 1) := by decide +kernel
theorem dX12_dueIn_114 : decode cX12_dueIn 114 = .ok (.iadd, 1) := by decide +kernel
theorem dX12_dueIn_115 : decode cX12_dueIn 115 = .ok (.iaload, 1) := by decide +kernel
theorem dX12_dueIn_116 : decode cX12_dueIn 116 = .ok (.imul, 1) := by decide +kernel
theorem dX12_dueIn_117 : decode cX12_dueIn 117 = .ok (.bipush 100, 2) := by decide +kernel
theorem dX12_dueIn_119 : decode cX12_dueIn 119 = .ok (.idiv, 1) := by decide +kernel
theorem dX12_dueIn_120 : decode cX12_dueIn 120 = .ok (.ireturn, 1) := by decide +kernel
set_option maxRecDepth 20000 in
theorem ggX12_due_X12_in : GoodIn wsX12_due wsX12_in := goodIn_r _ [6] (by decide +kernel) (by decide +kernel)
set_option maxRecDepth 20000 in
theorem gX12_due_X12_in : GoodIn wsX12_due (va_wsS RX12 123 yX12_in wsX12_in) := goodIn_app (goodIn_of _ (by decide +kernel)) ggX12_due_X12_in
set_option maxRecDepth 20000 in
theorem ggX12_due_X12_dueIn : GoodIn wsX12_due wsX12_dueIn := goodIn_r _ [10, 11, 12, 13, 14, 15, 16, 17, 5, 18, 19, 20, 21, 22, 23, 24, 25, 26, 27, 28, 29, 30, 31, 32, 33, 34, 35, 36, 37, 38, 39, 40, 41, 42, 43, 44, 45, 46, 47, 48, 49, 50, 51, 52, 53, 54, 55, 56, 57, 58, 59, 60, 61, 62, 63, 64, 65, 66, 67, 68, 69, 70, 71, 72, 73, 74, 75, 76, 77, 78, 79] (by decide +kernel) (by decide +kernel)
set_option maxRecDepth 20000 in
theorem gX12_due_X12_dueIn : GoodIn wsX12_due (wsV RX12 203 RX12 yX12_dueIn wsX12_dueIn) := goodIn_app (goodIn_of _ (by decide +kernel)) ggX12_due_X12_dueIn
theorem dX12_due_0 : decode cX12_due 0 = .ok (.iload_n 2, 1) := by decide +kernel
theorem dX12_due_1 : decode cX12_due 1 = .ok (.i2l, 1) := by decide +kernel
theorem dX12_due_2 : decode cX12_due 2 = .ok (.lconst 0, 1) := by decide +kernel
theorem dX12_due_3 : decode cX12_due 3 = .ok (.aload_n 0, 1) := by decide +kernel
theorem dX12_due_4 : decode cX12_due 4 = .ok (.getfield 130, 3) := by decide +kernel
theorem dX12_due_7 : decode cX12_due 7 = .ok (.i2l, 1) := by decide +kernel
theorem dX12_due_8 : decode cX12_due 8 = .ok (.invokestatic 123, 3) := by decide +kernel
theorem dX12_due_11 : decode cX12_due 11 = .ok (.ifCond .ne 5, 3) := by decide +kernel
theorem dX12_due_14 : decode cX12_due 14 = .ok (.iconst (-1), 1) := by decide +kernel
theorem dX12_due_15 : decode cX12_due 15 = .ok (.ireturn, 1) := by decide +kernel
theorem dX12_due_16 : decode cX12_due 16 = .ok (.iload_n 1, 1) := by decide +kernel
theorem dX12_due_17 : decode cX12_due 17 = .ok (.i2l, 1) := by decide +kernel
theorem dX12_due_18 : decode cX12_due 18 = .ok (.lconst 0, 1) := by decide +kernel
theorem dX12_due_19 : decode cX12_due 19 = .ok (.ldc2_w 180, 3) := by decide +kernel
theorem dX12_due_22 : decode cX12_due 22 = .ok (.invokestatic 123, 3) := by decide +kernel
theorem dX12_due_25 : decode cX12_due 25 = .ok (.ifCond .eq 12, 3) := by decide +kernel
theorem dX12_due_28 : decode cX12_due 28 = .ok (.aload_n 0, 1) := by decide +kernel
theorem dX12_due_29 : decode cX12_due 29 = .ok (.iload_n 1, 1) := by decide +kernel
theorem dX12_due_30 : decode cX12_due 30 = .ok (.iload_n 2, 1) := by decide +kernel
theorem dX12_due_31 : decode cX12_due 31 = .ok (.invokevirtual 203, 3) := by decide +kernel
theorem dX12_due_34 : decode cX12_due 34 = .ok (.goto 5, 3) := by decide +kernel
theorem dX12_due_37 : decode cX12_due 37 = .ok (.bipush (-2), 2) := by decide +kernel
theorem dX12_due_39 : decode cX12_due 39 = .ok (.ireturn, 1) := by decide +kernel
theorem dX12_flourOf_0 : decode cX12_flourOf 0 = .ok (.iconst 0, 1) := by decide +kernel
theorem dX12_flourOf_1 : decode cX12_flourOf 1 = .ok (.istore_n 2, 1) := by decide +kernel
theorem dX12_flourOf_2 : decode cX12_flourOf 2 = .ok (.iconst 0, 1) := by decide +kernel
theorem dX12_flourOf_3 : decode cX12_flourOf 3 = .ok (.istore_n 3, 1) := by decide +kernel
theorem dX12_flourOf_4 : decode cX12_flourOf 4 = .ok (.iload_n 3, 1) := by decide +kernel
theorem dX12_flourOf_5 : decode cX12_flourOf 5 = .ok (.aload_n 0, 1) := by decide +kernel
theorem dX12_flourOf_6 : decode cX12_flourOf 6 = .ok (.getfield 127, 3) := by decide +kernel
theorem dX12_flourOf_9 : decode cX12_flourOf 9 = .ok (.if_icmp .ge 42, 3) := by decide +kernel
theorem dX12_flourOf_12 : decode cX12_flourOf 12 = .ok (.iload_n 2, 1) := by decide +kernel
theorem dX12_flourOf_13 : decode cX12_flourOf 13 = .ok (.aload_n 0, 1) := by decide +kernel
theorem dX12_flourOf_14 : decode cX12_flourOf 14 = .ok (.getfield 7, 3) := by decide +kernel
theorem dX12_flourOf_17 : decode cX12_flourOf 17 = .ok (.iload_n 3, 1) := by decide +kernel
theorem dX12_flourOf_18 : decode cX12_flourOf 18 = .ok (.iaload, 1) := by decide +kernel
theorem dX12_flourOf_19 : decode cX12_flourOf 19 = .ok (.iconst 1, 1) := by decide +kernel
theorem dX12_flourOf_20 : decode cX12_flourOf 20 = .ok (.if_icmp .ne 22, 3) := by decide +kernel
theorem dX12_flourOf_23 : decode cX12_flourOf 23 = .ok (.aload_n 0, 1) := by decide +kernel
theorem dX12_flourOf_24 : decode cX12_flourOf 24 = .ok (.getfield 19, 3) := by decide +kernel
theorem dX12_flourOf_27 : decode cX12_flourOf 27 = .ok (.iload_n 3, 1) := by decide +kernel
theorem dX12_flourOf_28 : decode cX12_flourOf 28 = .ok (.iaload, 1) := by decide +kernel
theorem dX12_flourOf_29 : decode cX12_flourOf 29 = .ok (.iload_n 1, 1) := by decide +kernel
theorem dX12_flourOf_30 : decode cX12_flourOf 30 = .ok (.if_icmp .ne 12, 3) := by decide +kernel
theorem dX12_flourOf_33 : decode cX12_flourOf 33 = .ok (.aload_n 0, 1) := by decide +kernel
theorem dX12_flourOf_34 : decode cX12_flourOf 34 = .ok (.getfield 32, 3) := by decide +kernel
theorem dX12_flourOf_37 : decode cX12_flourOf 37 = .ok (.iload_n 3, 1) := by decide +kernel
theorem dX12_flourOf_38 : decode cX12_flourOf 38 = .ok (.iaload, 1) := by decide +kernel
theorem dX12_flourOf_39 : decode cX12_flourOf 39 = .ok (.goto 4, 3) := by decide +kernel
theorem dX12_flourOf_42 : decode cX12_flourOf 42 = .ok (.iconst 0, 1) := by decide +kernel
theorem dX12_flourOf_43 : decode cX12_flourOf 43 = .ok (.iadd, 1) := by decide +kernel
theorem dX12_flourOf_44 : decode cX12_flourOf 44 = .ok (.istore_n 2, 1) := by decide +kernel
theorem dX12_flourOf_45 : decode cX12_flourOf 45 = .ok (.iinc 3 1, 3) := by decide +kernel
theorem dX12_flourOf_48 : decode cX12_flourOf 48 = .ok (.goto (-44), 3) := by decide +kernel
theorem dX12_flourOf_51 : decode cX12_flourOf 51 = .ok (.iload_n 2, 1) := by decide +kernel
theorem dX12_flourOf_52 : decode cX12_flourOf 52 = .ok (.ireturn, 1) := by decide +kernel
set_option maxRecDepth 20000 in
theorem ggX12_bake_X12_isBaker : GoodIn wsX12_bake wsX12_isBaker := goodIn_r _ [24, 25, 26, 27, 23, 28, 41, 42, 43, 44, 45, 46, 47, 48, 49, 50, 51, 52, 53, 54, 55, 56, 57, 58, 59, 60, 61, 62, 63, 64, 65, 66, 67, 68, 69, 70, 71, 72, 73, 74, 75, 76, 77, 78, 79, 80, 81, 82, 83, 84, 85, 86, 87, 88, 89, 90] (by decide +kernel) (by decide +kernel)
set_option maxRecDepth 20000 in
theorem gX12_bake_X12_isBaker : GoodIn wsX12_bake (wsV RX12 159 RX12 yX12_isBaker wsX12_isBaker) := goodIn_app (goodIn_of _ (by decide +kernel)) ggX12_bake_X12_isBaker
set_option maxRecDepth 20000 in
theorem ggX12_bake_X12_in : GoodIn wsX12_bake wsX12_in := goodIn_r _ [28] (by decide +kernel) (by decide +kernel)
set_option maxRecDepth 20000 in
theorem gX12_bake_X12_in : GoodIn wsX12_bake (va_wsS RX12 123 yX12_in wsX12_in) := goodIn_app (goodIn_of _ (by decide +kernel)) ggX12_bake_X12_in
set_option maxRecDepth 20000 in
theorem ggX12_bake_X12_flourOf : GoodIn wsX12_bake wsX12_flourOf := goodIn_r _ [32, 6, 33, 14, 15, 41, 42, 43, 44, 45, 46, 47, 48, 49, 50, 51, 52, 53, 54, 55, 56, 57, 58, 59, 60, 61, 62, 63, 64, 65, 66, 67, 68, 69, 70, 71, 72, 73, 74, 75, 76, 77, 78, 79, 80, 81, 82, 83, 84, 85, 86, 87, 88, 89, 90] (by decide +kernel) (by decide +kernel)
set_option maxRecDepth 20000 in
theorem gX12_bake_X12_flourOf : GoodIn wsX12_bake (wsV RX12 210 RX12 yX12_flourOf wsX12_flourOf) := goodIn_app (goodIn_of _ (by decide +kernel)) ggX12_bake_X12_flourOf
set_option maxRecDepth 20000 in
theorem ggX12_bake_X12_enter : GoodIn wsX12_bake wsX12_enter := goodIn_r _ [37, 33, 6, 38, 4, 39, 40, 14, 41, 42, 43, 44, 45, 46, 47, 48, 49, 50, 51, 52, 53, 54, 55, 56, 57, 58, 59, 60, 61, 62, 63, 64, 65, 66, 67, 68, 69, 70, 71, 72, 73, 74, 75, 76, 77, 78, 79, 80, 81, 82, 83, 84, 85, 86, 87, 88, 89, 90] (by decide +kernel) (by decide +kernel)
set_option maxRecDepth 20000 in
theorem gX12_bake_X12_enter : GoodIn wsX12_bake (wsV RX12 167 RX12 yX12_enter wsX12_enter) := goodIn_app (goodIn_of _ (by decide +kernel)) ggX12_bake_X12_enter
theorem dX12_bake_0 : decode cX12_bake 0 = .ok (.aload_n 0, 1) := by decide +kernel
theorem dX12_bake_1 : decode cX12_bake 1 = .ok (.iload_n 1, 1) := by decide +kernel
theorem dX12_bake_2 : decode cX12_bake 2 = .ok (.invokevirtual 159, 3) := by decide +kernel
theorem dX12_bake_5 : decode cX12_bake 5 = .ok (.ifCond .ne 5, 3) := by decide +kernel
theorem dX12_bake_8 : decode cX12_bake 8 = .ok (.iconst (-1), 1) := by decide +kernel
theorem dX12_bake_9 : decode cX12_bake 9 = .ok (.ireturn, 1) := by decide +kernel
theorem dX12_bake_10 : decode cX12_bake 10 = .ok (.iload_n 2, 1) := by decide +kernel
theorem dX12_bake_11 : decode cX12_bake 11 = .ok (.i2l, 1) := by decide +kernel
theorem dX12_bake_12 : decode cX12_bake 12 = .ok (.lconst 0, 1) := by decide +kernel
theorem dX12_bake_13 : decode cX12_bake 13 = .ok (.ldc2_w 180, 3) := by decide +kernel
theorem dX12_bake_16 : decode cX12_bake 16 = .ok (.invokestatic 123, 3) := by decide +kernel
theorem dX12_bake_19 : decode cX12_bake 19 = .ok (.ifCond .eq 28, 3) := by decide +kernel
theorem dX12_bake_22 : decode cX12_bake 22 = .ok (.iload_n 3, 1) := by decide +kernel
theorem dX12_bake_23 : decode cX12_bake 23 = .ok (.i2l, 1) := by decide +kernel
theorem dX12_bake_24 : decode cX12_bake 24 = .ok (.lconst 1, 1) := by decide +kernel
theorem dX12_bake_25 : decode cX12_bake 25 = .ok (.ldc2_w 206, 3) := by decide +kernel
theorem dX12_bake_28 : decode cX12_bake 28 = .ok (.invokestatic 123, 3) := by decide +kernel
theorem dX12_bake_31 : decode cX12_bake 31 = .ok (.ifCond .eq 16, 3) := by decide +kernel
theorem dX12_bake_34 : decode cX12_bake 34 = .ok (.iload 4, 2) := by decide +kernel
theorem dX12_bake_36 : decode cX12_bake 36 = .ok (.i2l, 1) := by decide +kernel
theorem dX12_bake_37 : decode cX12_bake 37 = .ok (.lconst 1, 1) := by decide +kernel
theorem dX12_bake_38 : decode cX12_bake 38 = .ok (.ldc2_w 208, 3) := by decide +kernel
theorem dX12_bake_41 : decode cX12_bake 41 = .ok (.invokestatic 123, 3) := by decide +kernel
theorem dX12_bake_44 : decode cX12_bake 44 = .ok (.ifCond .ne 6, 3) := by decide +kernel
theorem dX12_bake_47 : decode cX12_bake 47 = .ok (.bipush (-2), 2) := by decide +kernel
theorem dX12_bake_49 : decode cX12_bake 49 = .ok (.ireturn, 1) := by decide +kernel
theorem dX12_bake_50 : decode cX12_bake 50 = .ok (.aload_n 0, 1) := by decide +kernel
theorem dX12_bake_51 : decode cX12_bake 51 = .ok (.getfield 130, 3) := by decide +kernel
theorem dX12_bake_54 : decode cX12_bake 54 = .ok (.aload_n 0, 1) := by decide +kernel
theorem dX12_bake_55 : decode cX12_bake 55 = .ok (.getfield 72, 3) := by decide +kernel
theorem dX12_bake_58 : decode cX12_bake 58 = .ok (.iload_n 1, 1) := by decide +kernel
theorem dX12_bake_59 : decode cX12_bake 59 = .ok (.iaload, 1) := by decide +kernel
theorem dX12_bake_60 : decode cX12_bake 60 = .ok (.if_icmp .ge 6, 3) := by decide +kernel
theorem dX12_bake_63 : decode cX12_bake 63 = .ok (.bipush (-3), 2) := by decide +kernel
theorem dX12_bake_65 : decode cX12_bake 65 = .ok (.ireturn, 1) := by decide +kernel
theorem dX12_bake_66 : decode cX12_bake 66 = .ok (.aload_n 0, 1) := by decide +kernel
theorem dX12_bake_67 : decode cX12_bake 67 = .ok (.getfield 127, 3) := by decide +kernel
theorem dX12_bake_70 : decode cX12_bake 70 = .ok (.sipush 200, 3) := by decide +kernel
theorem dX12_bake_73 : decode cX12_bake 73 = .ok (.if_icmp .ne 6, 3) := by decide +kernel
theorem dX12_bake_76 : decode cX12_bake 76 = .ok (.bipush (-4), 2) := by decide +kernel
theorem dX12_bake_78 : decode cX12_bake 78 = .ok (.ireturn, 1) := by decide +kernel
theorem dX12_bake_79 : decode cX12_bake 79 = .ok (.iload_n 3, 1) := by decide +kernel
theorem dX12_bake_80 : decode cX12_bake 80 = .ok (.iload 4, 2) := by decide +kernel
theorem dX12_bake_82 : decode cX12_bake 82 = .ok (.imul, 1) := by decide +kernel
theorem dX12_bake_83 : decode cX12_bake 83 = .ok (.istore 5, 2) := by decide +kernel
theorem dX12_bake_85 : decode cX12_bake 85 = .ok (.aload_n 0, 1) := by decide +kernel
theorem dX12_bake_86 : decode cX12_bake 86 = .ok (.iload_n 1, 1) := by decide +kernel
theorem dX12_bake_87 : decode cX12_bake 87 = .ok (.invokevirtual 210, 3) := by decide +kernel
theorem dX12_bake_90 : decode cX12_bake 90 = .ok (.iload 5, 2) := by decide +kernel
theorem dX12_bake_92 : decode cX12_bake 92 = .ok (.if_icmp .ge 6, 3) := by decide +kernel
theorem dX12_bake_95 : decode cX12_bake 95 = .ok (.bipush (-5), 2) := by decide +kernel
theorem dX12_bake_97 : decode cX12_bake 97 = .ok (.ireturn, 1) := by decide +kernel
theorem dX12_bake_98 : decode cX12_bake 98 = .ok (.aload_n 0, 1) := by decide +kernel
theorem dX12_bake_99 : decode cX12_bake 99 = .ok (.getfield 127, 3) := by decide +kernel
theorem dX12_bake_102 : decode cX12_bake 102 = .ok (.istore 6, 2) := by decide +kernel
theorem dX12_bake_104 : decode cX12_bake 104 = .ok (.aload_n 0, 1) := by decide +kernel
theorem dX12_bake_105 : decode cX12_bake 105 = .ok (.getfield 42, 3) := by decide +kernel
theorem dX12_bake_108 : decode cX12_bake 108 = .ok (.iload 6, 2) := by decide +kernel
theorem dX12_bake_110 : decode cX12_bake 110 = .ok (.iload_n 2, 1) := by decide +kernel
theorem dX12_bake_111 : decode cX12_bake 111 = .ok (.iastore, 1) := by decide +kernel
theorem dX12_bake_112 : decode cX12_bake 112 = .ok (.aload_n 0, 1) := by decide +kernel
theorem dX12_bake_113 : decode cX12_bake 113 = .ok (.getfield 45, 3) := by decide +kernel
theorem dX12_bake_116 : decode cX12_bake 116 = .ok (.iload 6, 2) := by decide +kernel
theorem dX12_bake_118 : decode cX12_bake 118 = .ok (.iload_n 3, 1) := by decide +kernel
theorem dX12_bake_119 : decode cX12_bake 119 = .ok (.iastore, 1) := by decide +kernel
theorem dX12_bake_120 : decode cX12_bake 120 = .ok (.aload_n 0, 1) := by decide +kernel
theorem dX12_bake_121 : decode cX12_bake 121 = .ok (.getfield 48, 3) := by decide +kernel
theorem dX12_bake_124 : decode cX12_bake 124 = .ok (.iload 6, 2) := by decide +kernel
theorem dX12_bake_126 : decode cX12_bake 126 = .ok (.iload 4, 2) := by decide +kernel
theorem dX12_bake_128 : decode cX12_bake 128 = .ok (.iastore, 1) := by decide +kernel
theorem dX12_bake_129 : decode cX12_bake 129 = .ok (.aload_n 0, 1) := by decide +kernel
theorem dX12_bake_130 : decode cX12_bake 130 = .ok (.getfield 51, 3) := by decide +kernel
theorem dX12_bake_133 : decode cX12_bake 133 = .ok (.iload 6, 2) := by decide +kernel
theorem dX12_bake_135 : decode cX12_bake 135 = .ok (.aload_n 0, 1) := by decide +kernel
theorem dX12_bake_136 : decode cX12_bake 136 = .ok (.getfield 213, 3) := by decide +kernel
theorem dX12_bake_139 : decode cX12_bake 139 = .ok (.iastore, 1) := by decide +kernel
theorem dX12_bake_140 : decode cX12_bake 140 = .ok (.iconst 0, 1) := by decide +kernel
theorem dX12_bake_141 : decode cX12_bake 141 = .ok (.istore 7, 2) := by decide +kernel
theorem dX12_bake_143 : decode cX12_bake 143 = .ok (.iload 7, 2) := by decide +kernel
theorem dX12_bake_145 : decode cX12_bake 145 = .ok (.aload_n 0, 1) := by decide +kernel
theorem dX12_bake_146 : decode cX12_bake 146 = .ok (.getfield 174, 3) := by decide +kernel
theorem dX12_bake_149 : decode cX12_bake 149 = .ok (.if_icmp .ge 121, 3) := by decide +kernel
theorem dX12_bake_152 : decode cX12_bake 152 = .ok (.iload 5, 2) := by decide +kernel
theorem dX12_bake_154 : decode cX12_bake 154 = .ok (.ifCond .le 116, 3) := by decide +kernel
theorem dX12_bake_157 : decode cX12_bake 157 = .ok (.aload_n 0, 1) := by decide +kernel
theorem dX12_bake_158 : decode cX12_bake 158 = .ok (.getfield 35, 3) := by decide +kernel
theorem dX12_bake_161 : decode cX12_bake 161 = .ok (.iload 7, 2) := by decide +kernel
theorem dX12_bake_163 : decode cX12_bake 163 = .ok (.iaload, 1) := by decide +kernel
theorem dX12_bake_164 : decode cX12_bake 164 = .ok (.istore 8, 2) := by decide +kernel
theorem dX12_bake_166 : decode cX12_bake 166 = .ok (.aload_n 0, 1) := by decide +kernel
theorem dX12_bake_167 : decode cX12_bake 167 = .ok (.getfield 19, 3) := by decide +kernel
theorem dX12_bake_170 : decode cX12_bake 170 = .ok (.iload 8, 2) := by decide +kernel
theorem dX12_bake_172 : decode cX12_bake 172 = .ok (.iaload, 1) := by decide +kernel
theorem dX12_bake_173 : decode cX12_bake 173 = .ok (.iload_n 1, 1) := by decide +kernel
theorem dX12_bake_174 : decode cX12_bake 174 = .ok (.if_icmp .ne 90, 3) := by decide +kernel
theorem dX12_bake_177 : decode cX12_bake 177 = .ok (.aload_n 0, 1) := by decide +kernel
theorem dX12_bake_178 : decode cX12_bake 178 = .ok (.getfield 32, 3) := by decide +kernel
theorem dX12_bake_181 : decode cX12_bake 181 = .ok (.iload 8, 2) := by decide +kernel
theorem dX12_bake_183 : decode cX12_bake 183 = .ok (.iaload, 1) := by decide +kernel
theorem dX12_bake_184 : decode cX12_bake 184 = .ok (.ifCond .le 80, 3) := by decide +kernel
theorem dX12_bake_187 : decode cX12_bake 187 = .ok (.aload_n 0, 1) := by decide +kernel
theorem dX12_bake_188 : decode cX12_bake 188 = .ok (.getfield 32, 3) := by decide +kernel
theorem dX12_bake_191 : decode cX12_bake 191 = .ok (.iload 8, 2) := by decide +kernel
theorem dX12_bake_193 : decode cX12_bake 193 = .ok (.iaload, 1) := by decide +kernel
theorem dX12_bake_194 : decode cX12_bake 194 = .ok (.iload 5, 2) := by decide +kernel
theorem dX12_bake_196 : decode cX12_bake 196 = .ok (.if_icmp .ge 13, 3) := by decide +kernel
theorem dX12_bake_199 : decode cX12_bake 199 = .ok (.aload_n 0, 1) := by decide +kernel
theorem dX12_bake_200 : decode cX12_bake 200 = .ok (.getfield 32, 3) := by decide +kernel
theorem dX12_bake_203 : decode cX12_bake 203 = .ok (.iload 8, 2) := by decide +kernel
theorem dX12_bake_205 : decode cX12_bake 205 = .ok (.iaload, 1) := by decide +kernel
theorem dX12_bake_206 : decode cX12_bake 206 = .ok (.goto 5, 3) := by decide +kernel
theorem dX12_bake_209 : decode cX12_bake 209 = .ok (.iload 5, 2) := by decide +kernel
theorem dX12_bake_211 : decode cX12_bake 211 = .ok (.istore 9, 2) := by decide +kernel
theorem dX12_bake_213 : decode cX12_bake 213 = .ok (.aload_n 0, 1) := by decide +kernel
theorem dX12_bake_214 : decode cX12_bake 214 = .ok (.getfield 32, 3) := by decide +kernel
theorem dX12_bake_217 : decode cX12_bake 217 = .ok (.iload 8, 2) := by decide +kernel
theorem dX12_bake_219 : decode cX12_bake 219 = .ok (.dup2, 1) := by decide +kernel
theorem dX12_bake_220 : decode cX12_bake 220 = .ok (.iaload, 1) := by decide +kernel
theorem dX12_bake_221 : decode cX12_bake 221 = .ok (.iload 9, 2) := by decide +kernel
theorem dX12_bake_223 : decode cX12_bake 223 = .ok (.isub, 1) := by decide +kernel
theorem dX12_bake_224 : decode cX12_bake 224 = .ok (.iastore, 1) := by decide +kernel
theorem dX12_bake_225 : decode cX12_bake 225 = .ok (.iload 5, 2) := by decide +kernel
theorem dX12_bake_227 : decode cX12_bake 227 = .ok (.iload 9, 2) := by decide +kernel
theorem dX12_bake_229 : decode cX12_bake 229 = .ok (.isub, 1) := by decide +kernel
theorem dX12_bake_230 : decode cX12_bake 230 = .ok (.istore 5, 2) := by decide +kernel
theorem dX12_bake_232 : decode cX12_bake 232 = .ok (.aload_n 0, 1) := by decide +kernel
theorem dX12_bake_233 : decode cX12_bake 233 = .ok (.getfield 57, 3) := by decide +kernel
theorem dX12_bake_236 : decode cX12_bake 236 = .ok (.aload_n 0, 1) := by decide +kernel
theorem dX12_bake_237 : decode cX12_bake 237 = .ok (.getfield 213, 3) := by decide +kernel
theorem dX12_bake_240 : decode cX12_bake 240 = .ok (.iload 8, 2) := by decide +kernel
theorem dX12_bake_242 : decode cX12_bake 242 = .ok (.iastore, 1) := by decide +kernel
theorem dX12_bake_243 : decode cX12_bake 243 = .ok (.aload_n 0, 1) := by decide +kernel
theorem dX12_bake_244 : decode cX12_bake 244 = .ok (.getfield 60, 3) := by decide +kernel
theorem dX12_bake_247 : decode cX12_bake 247 = .ok (.aload_n 0, 1) := by decide +kernel
theorem dX12_bake_248 : decode cX12_bake 248 = .ok (.getfield 213, 3) := by decide +kernel
theorem dX12_bake_251 : decode cX12_bake 251 = .ok (.iload 9, 2) := by decide +kernel
theorem dX12_bake_253 : decode cX12_bake 253 = .ok (.iastore, 1) := by decide +kernel
theorem dX12_bake_254 : decode cX12_bake 254 = .ok (.aload_n 0, 1) := by decide +kernel
theorem dX12_bake_255 : decode cX12_bake 255 = .ok (.dup, 1) := by decide +kernel
theorem dX12_bake_256 : decode cX12_bake 256 = .ok (.getfield 213, 3) := by decide +kernel
theorem dX12_bake_259 : decode cX12_bake 259 = .ok (.iconst 1, 1) := by decide +kernel
theorem dX12_bake_260 : decode cX12_bake 260 = .ok (.iadd, 1) := by decide +kernel
theorem dX12_bake_261 : decode cX12_bake 261 = .ok (.putfield 213, 3) := by decide +kernel
theorem dX12_bake_264 : decode cX12_bake 264 = .ok (.iinc 7 1, 3) := by decide +kernel
theorem dX12_bake_267 : decode cX12_bake 267 = .ok (.goto (-124), 3) := by decide +kernel
theorem dX12_bake_270 : decode cX12_bake 270 = .ok (.aload_n 0, 1) := by decide +kernel
theorem dX12_bake_271 : decode cX12_bake 271 = .ok (.getfield 54, 3) := by decide +kernel
theorem dX12_bake_274 : decode cX12_bake 274 = .ok (.iload 6, 2) := by decide +kernel
theorem dX12_bake_276 : decode cX12_bake 276 = .ok (.aload_n 0, 1) := by decide +kernel
theorem dX12_bake_277 : decode cX12_bake 277 = .ok (.getfield 213, 3) := by decide +kernel
theorem dX12_bake_280 : decode cX12_bake 280 = .ok (.aload_n 0, 1) := by decide +kernel
theorem dX12_bake_281 : decode cX12_bake 281 = .ok (.getfield 51, 3) := by decide +kernel
theorem dX12_bake_284 : decode cX12_bake 284 = .ok (.iload 6, 2) := by decide +kernel
theorem dX12_bake_286 : decode cX12_bake 286 = .ok (.iaload, 1) := by decide +kernel
theorem dX12_bake_287 : decode cX12_bake 287 = .ok (.isub, 1) := by decide +kernel
theorem dX12_bake_288 : decode cX12_bake 288 = .ok (.iastore, 1) := by decide +kernel
theorem dX12_bake_289 : decode cX12_bake 289 = .ok (.aload_n 0, 1) := by decide +kernel
theorem dX12_bake_290 : decode cX12_bake 290 = .ok (.getfield 75, 3) := by decide +kernel
theorem dX12_bake_293 : decode cX12_bake 293 = .ok (.iload_n 1, 1) := by decide +kernel
theorem dX12_bake_294 : decode cX12_bake 294 = .ok (.iload 6, 2) := by decide +kernel
theorem dX12_bake_296 : decode cX12_bake 296 = .ok (.iastore, 1) := by decide +kernel
theorem dX12_bake_297 : decode cX12_bake 297 = .ok (.aload_n 0, 1) := by decide +kernel
theorem dX12_bake_298 : decode cX12_bake 298 = .ok (.iconst 2, 1) := by decide +kernel
theorem dX12_bake_299 : decode cX12_bake 299 = .ok (.iload_n 1, 1) := by decide +kernel
theorem dX12_bake_300 : decode cX12_bake 300 = .ok (.invokevirtual 167, 3) := by decide +kernel
theorem dX12_bake_303 : decode cX12_bake 303 = .ok (.ireturn, 1) := by decide +kernel
theorem dX12_drawTurns_0 : decode cX12_drawTurns 0 = .ok (.aload_n 0, 1) := by decide +kernel
theorem dX12_drawTurns_1 : decode cX12_drawTurns 1 = .ok (.getfield 156, 3) := by decide +kernel
theorem dX12_drawTurns_4 : decode cX12_drawTurns 4 = .ok (.ifCond .le 4, 3) := by decide +kernel
theorem dX12_drawTurns_7 : decode cX12_drawTurns 7 = .ok (.return_, 1) := by decide +kernel
theorem dX12_drawTurns_8 : decode cX12_drawTurns 8 = .ok (.iconst 0, 1) := by decide +kernel
theorem dX12_drawTurns_9 : decode cX12_drawTurns 9 = .ok (.istore_n 1, 1) := by decide +kernel
theorem dX12_drawTurns_10 : decode cX12_drawTurns 10 = .ok (.iload_n 1, 1) := by decide +kernel
theorem dX12_drawTurns_11 : decode cX12_drawTurns 11 = .ok (.aload_n 0, 1) := by decide +kernel
theorem dX12_drawTurns_12 : decode cX12_drawTurns 12 = .ok (.getfield 120, 3) := by decide +kernel
theorem dX12_drawTurns_15 : decode cX12_drawTurns 15 = .ok (.if_icmp .ge 16, 3) := by decide +kernel
theorem dX12_drawTurns_18 : decode cX12_drawTurns 18 = .ok (.aload_n 0, 1) := by decide +kernel
theorem dX12_drawTurns_19 : decode cX12_drawTurns 19 = .ok (.getfield 96, 3) := by decide +kernel
theorem dX12_drawTurns_22 : decode cX12_drawTurns 22 = .ok (.iload_n 1, 1) := by decide +kernel
theorem dX12_drawTurns_23 : decode cX12_drawTurns 23 = .ok (.iload_n 1, 1) := by decide +kernel
theorem dX12_drawTurns_24 : decode cX12_drawTurns 24 = .ok (.iastore, 1) := by decide +kernel
theorem dX12_drawTurns_25 : decode cX12_drawTurns 25 = .ok (.iinc 1 1, 3) := by decide +kernel
theorem dX12_drawTurns_28 : decode cX12_drawTurns 28 = .ok (.goto (-18), 3) := by decide +kernel
theorem dX12_drawTurns_31 : decode cX12_drawTurns 31 = .ok (.aload_n 0, 1) := by decide +kernel
theorem dX12_drawTurns_32 : decode cX12_drawTurns 32 = .ok (.getfield 120, 3) := by decide +kernel
theorem dX12_drawTurns_35 : decode cX12_drawTurns 35 = .ok (.iconst 1, 1) := by decide +kernel
theorem dX12_drawTurns_36 : decode cX12_drawTurns 36 = .ok (.isub, 1) := by decide +kernel
theorem dX12_drawTurns_37 : decode cX12_drawTurns 37 = .ok (.istore_n 1, 1) := by decide +kernel
theorem dX12_drawTurns_38 : decode cX12_drawTurns 38 = .ok (.iload_n 1, 1) := by decide +kernel
theorem dX12_drawTurns_39 : decode cX12_drawTurns 39 = .ok (.ifCond .le 65, 3) := by decide +kernel
theorem dX12_drawTurns_42 : decode cX12_drawTurns 42 = .ok (.aload_n 0, 1) := by decide +kernel
theorem dX12_drawTurns_43 : decode cX12_drawTurns 43 = .ok (.aload_n 0, 1) := by decide +kernel
theorem dX12_drawTurns_44 : decode cX12_drawTurns 44 = .ok (.getfield 99, 3) := by decide +kernel
theorem dX12_drawTurns_47 : decode cX12_drawTurns 47 = .ok (.ldc 216, 2) := by decide +kernel
theorem dX12_drawTurns_49 : decode cX12_drawTurns 49 = .ok (.imul, 1) := by decide +kernel
theorem dX12_drawTurns_50 : decode cX12_drawTurns 50 = .ok (.sipush 12345, 3) := by decide +kernel
theorem dX12_drawTurns_53 : decode cX12_drawTurns 53 = .ok (.iadd, 1) := by decide +kernel
theorem dX12_drawTurns_54 : decode cX12_drawTurns 54 = .ok (.ldc 217, 2) := by decide +kernel
theorem dX12_drawTurns_56 : decode cX12_drawTurns 56 = .ok (.iand, 1) := by decide +kernel
theorem dX12_drawTurns_57 : decode cX12_drawTurns 57 = .ok (.putfield 99, 3) := by decide +kernel
theorem dX12_drawTurns_60 : decode cX12_drawTurns 60 = .ok (.aload_n 0, 1) := by decide +kernel
theorem dX12_drawTurns_61 : decode cX12_drawTurns 61 = .ok (.getfield 99, 3) := by decide +kernel
theorem dX12_drawTurns_64 : decode cX12_drawTurns 64 = .ok (.ldc 218, 2) := by decide +kernel
theorem dX12_drawTurns_66 : decode cX12_drawTurns 66 = .ok (.idiv, 1) := by decide +kernel
theorem dX12_drawTurns_67 : decode cX12_drawTurns 67 = .ok (.iload_n 1, 1) := by decide +kernel
theorem dX12_drawTurns_68 : decode cX12_drawTurns 68 = .ok (.iconst 1, 1) := by decide +kernel
theorem dX12_drawTurns_69 : decode cX12_drawTurns 69 = .ok (.iadd, 1) := by decide +kernel
theorem dX12_drawTurns_70 : decode cX12_drawTurns 70 = .ok (.irem, 1) := by decide +kernel
theorem dX12_drawTurns_71 : decode cX12_drawTurns 71 = .ok (.istore_n 2, 1) := by decide +kernel
theorem dX12_drawTurns_72 : decode cX12_drawTurns 72 = .ok (.aload_n 0, 1) := by decide +kernel
theorem dX12_drawTurns_73 : decode cX12_drawTurns 73 = .ok (.getfield 96, 3) := by decide +kernel
theorem dX12_drawTurns_76 : decode cX12_drawTurns 76 = .ok (.iload_n 1, 1) := by decide +kernel
theorem dX12_drawTurns_77 : decode cX12_drawTurns 77 = .ok (.iaload, 1) := by decide +kernel
theorem dX12_drawTurns_78 : decode cX12_drawTurns 78 = .ok (.istore_n 3, 1) := by decide +kernel
theorem dX12_drawTurns_79 : decode cX12_drawTurns 79 = .ok (.aload_n 0, 1) := by decide +kernel
theorem dX12_drawTurns_80 : decode cX12_drawTurns 80 = .ok (.getfield 96, 3) := by decide +kernel
theorem dX12_drawTurns_83 : decode cX12_drawTurns 83 = .ok (.iload_n 1, 1) := by decide +kernel
theorem dX12_drawTurns_84 : decode cX12_drawTurns 84 = .ok (.aload_n 0, 1) := by decide +kernel
theorem dX12_drawTurns_85 : decode cX12_drawTurns 85 = .ok (.getfield 96, 3) := by decide +kernel
theorem dX12_drawTurns_88 : decode cX12_drawTurns 88 = .ok (.iload_n 2, 1) := by decide +kernel
theorem dX12_drawTurns_89 : decode cX12_drawTurns 89 = .ok (.iaload, 1) := by decide +kernel
theorem dX12_drawTurns_90 : decode cX12_drawTurns 90 = .ok (.iastore, 1) := by decide +kernel
theorem dX12_drawTurns_91 : decode cX12_drawTurns 91 = .ok (.aload_n 0, 1) := by decide +kernel
theorem dX12_drawTurns_92 : decode cX12_drawTurns 92 = .ok (.getfield 96, 3) := by decide +kernel
theorem dX12_drawTurns_95 : decode cX12_drawTurns 95 = .ok (.iload_n 2, 1) := by decide +kernel
theorem dX12_drawTurns_96 : decode cX12_drawTurns 96 = .ok (.iload_n 3, 1) := by decide +kernel
theorem dX12_drawTurns_97 : decode cX12_drawTurns 97 = .ok (.iastore, 1) := by decide +kernel
theorem dX12_drawTurns_98 : decode cX12_drawTurns 98 = .ok (.iinc 1 (-1), 3) := by decide +kernel
theorem dX12_drawTurns_101 : decode cX12_drawTurns 101 = .ok (.goto (-63), 3) := by decide +kernel
theorem dX12_drawTurns_104 : decode cX12_drawTurns 104 = .ok (.aload_n 0, 1) := by decide +kernel
theorem dX12_drawTurns_105 : decode cX12_drawTurns 105 = .ok (.aload_n 0, 1) := by decide +kernel
theorem dX12_drawTurns_106 : decode cX12_drawTurns 106 = .ok (.getfield 120, 3) := by decide +kernel
theorem dX12_drawTurns_109 : decode cX12_drawTurns 109 = .ok (.putfield 156, 3) := by decide +kernel
theorem dX12_drawTurns_112 : decode cX12_drawTurns 112 = .ok (.aload_n 0, 1) := by decide +kernel
theorem dX12_drawTurns_113 : decode cX12_drawTurns 113 = .ok (.aload_n 0, 1) := by decide +kernel
theorem dX12_drawTurns_114 : decode cX12_drawTurns 114 = .ok (.getfield 120, 3) := by decide +kernel
theorem dX12_drawTurns_117 : decode cX12_drawTurns 117 = .ok (.putfield 219, 3) := by decide +kernel
theorem dX12_drawTurns_120 : decode cX12_drawTurns 120 = .ok (.return_, 1) := by decide +kernel
theorem dX12_lessBy_0 : decode cX12_lessBy 0 = .ok (.sipush 1000, 3) := by decide +kernel
theorem dX12_lessBy_3 : decode cX12_lessBy 3 = .ok (.iload_n 1, 1) := by decide +kernel
theorem dX12_lessBy_4 : decode cX12_lessBy 4 = .ok (.iload_n 2, 1) := by decide +kernel
theorem dX12_lessBy_5 : decode cX12_lessBy 5 = .ok (.imul, 1) := by decide +kernel
theorem dX12_lessBy_6 : decode cX12_lessBy 6 = .ok (.isub, 1) := by decide +kernel
theorem dX12_lessBy_7 : decode cX12_lessBy 7 = .ok (.istore_n 3, 1) := by decide +kernel
theorem dX12_lessBy_8 : decode cX12_lessBy 8 = .ok (.iload_n 3, 1) := by decide +kernel
theorem dX12_lessBy_9 : decode cX12_lessBy 9 = .ok (.ifCond .ge 7, 3) := by decide +kernel
theorem dX12_lessBy_12 : decode cX12_lessBy 12 = .ok (.iconst 0, 1) := by decide +kernel
theorem dX12_lessBy_13 : decode cX12_lessBy 13 = .ok (.goto 10, 3) := by decide +kernel
theorem dX12_lessBy_16 : decode cX12_lessBy 16 = .ok (.iload_n 0, 1) := by decide +kernel
theorem dX12_lessBy_17 : decode cX12_lessBy 17 = .ok (.iload_n 3, 1) := by decide +kernel
theorem dX12_lessBy_18 : decode cX12_lessBy 18 = .ok (.imul, 1) := by decide +kernel
theorem dX12_lessBy_19 : decode cX12_lessBy 19 = .ok (.sipush 1000, 3) := by decide +kernel
theorem dX12_lessBy_22 : decode cX12_lessBy 22 = .ok (.idiv, 1) := by decide +kernel
theorem dX12_lessBy_23 : decode cX12_lessBy 23 = .ok (.ireturn, 1) := by decide +kernel
set_option maxRecDepth 20000 in
theorem ggX12_search_X12_drawTurns : GoodIn wsX12_search wsX12_drawTurns := goodIn_r _ [24, 5, 1, 3, 25, 26, 27, 28, 4, 58, 59, 60, 61, 62, 63, 64, 65, 66, 67, 68, 69, 70, 71, 72, 73, 74, 75, 76, 77, 78, 79, 80, 81, 82, 83, 84, 85, 86, 87, 88, 89, 90, 91, 92, 93, 94, 95, 96, 97, 98, 99, 100, 101, 102, 103, 104, 105, 106, 107] (by decide +kernel) (by decide +kernel)
set_option maxRecDepth 20000 in
theorem gX12_search_X12_drawTurns : GoodIn wsX12_search (wsV RX12 222 RX12 yX12_drawTurns wsX12_drawTurns) := goodIn_app (goodIn_of _ (by decide +kernel)) ggX12_search_X12_drawTurns
set_option maxRecDepth 20000 in
theorem ggX12_search_X12_textIn : GoodIn wsX12_search wsX12_textIn := goodIn_r _ [32, 33, 34, 58, 59, 60, 61, 62, 63, 64, 65, 66, 67, 68, 69, 70, 71, 72, 73, 74, 75, 76, 77, 78, 79, 80, 81, 82, 83, 84, 85, 86, 87, 88, 89, 90, 91, 92, 93, 94, 95, 96, 97, 98, 99, 100, 101, 102, 103, 104, 105, 106, 107] (by decide +kernel) (by decide +kernel)
set_option maxRecDepth 20000 in
theorem gX12_search_X12_textIn : GoodIn wsX12_search (wsV RX12 200 RX12 yX12_textIn wsX12_textIn) := goodIn_app (goodIn_of _ (by decide +kernel)) ggX12_search_X12_textIn
set_option maxRecDepth 20000 in
theorem ggX12_search_X12_lessBy : GoodIn wsX12_search wsX12_lessBy := goodIn_r _ [37] (by decide +kernel) (by decide +kernel)
set_option maxRecDepth 20000 in
theorem gX12_search_X12_lessBy : GoodIn wsX12_search (va_wsS RX12 225 yX12_lessBy wsX12_lessBy) := goodIn_app (goodIn_of _ (by decide +kernel)) ggX12_search_X12_lessBy
set_option maxRecDepth 20000 in
theorem ggX12_search_X12_dueIn : GoodIn wsX12_search wsX12_dueIn := goodIn_r _ [41, 42, 43, 44, 45, 29, 30, 31, 23, 32, 33, 34, 46, 47, 48, 49, 2, 50, 9, 51, 52, 58, 59, 60, 61, 62, 63, 64, 65, 66, 67, 68, 69, 70, 71, 72, 73, 74, 75, 76, 77, 78, 79, 80, 81, 82, 83, 84, 85, 86, 87, 88, 89, 90, 91, 92, 93, 94, 95, 96, 97, 98, 99, 100, 101, 102, 103, 104, 105, 106, 107] (by decide +kernel) (by decide +kernel)
set_option maxRecDepth 20000 in
theorem gX12_search_X12_dueIn : GoodIn wsX12_search (wsV RX12 203 RX12 yX12_dueIn wsX12_dueIn) := goodIn_app (goodIn_of _ (by decide +kernel)) ggX12_search_X12_dueIn
set_option maxRecDepth 20000 in
theorem ggX12_search_X12_enter : GoodIn wsX12_search wsX12_enter := goodIn_r _ [56, 50, 2, 9, 8, 11, 10, 57, 58, 59, 60, 61, 62, 63, 64, 65, 66, 67, 68, 69, 70, 71, 72, 73, 74, 75, 76, 77, 78, 79, 80, 81, 82, 83, 84, 85, 86, 87, 88, 89, 90, 91, 92, 93, 94, 95, 96, 97, 98, 99, 100, 101, 102, 103, 104, 105, 106, 107] (by decide +kernel) (by decide +kernel)
set_option maxRecDepth 20000 in
theorem gX12_search_X12_enter : GoodIn wsX12_search (wsV RX12 167 RX12 yX12_enter wsX12_enter) := goodIn_app (goodIn_of _ (by decide +kernel)) ggX12_search_X12_enter
theorem dX12_search_0 : decode cX12_search 0 = .ok (.aload_n 0, 1) := by decide +kernel
theorem dX12_search_1 : decode cX12_search 1 = .ok (.getfield 120, 3) := by decide +kernel
theorem dX12_search_4 : decode cX12_search 4 = .ok (.ifCond .ne 6, 3) := by decide +kernel
theorem dX12_search_7 : decode cX12_search 7 = .ok (.bipush (-3), 2) := by decide +kernel
theorem dX12_search_9 : decode cX12_search 9 = .ok (.ireturn, 1) := by decide +kernel
theorem dX12_search_10 : decode cX12_search 10 = .ok (.aload_n 0, 1) := by decide +kernel
theorem dX12_search_11 : decode cX12_search 11 = .ok (.getfield 127, 3) := by decide +kernel
theorem dX12_search_14 : decode cX12_search 14 = .ok (.sipush 200, 3) := by decide +kernel
theorem dX12_search_17 : decode cX12_search 17 = .ok (.if_icmp .ne 6, 3) := by decide +kernel
theorem dX12_search_20 : decode cX12_search 20 = .ok (.bipush (-4), 2) := by decide +kernel
theorem dX12_search_22 : decode cX12_search 22 = .ok (.ireturn, 1) := by decide +kernel
theorem dX12_search_23 : decode cX12_search 23 = .ok (.aload_n 0, 1) := by decide +kernel
theorem dX12_search_24 : decode cX12_search 24 = .ok (.invokevirtual 222, 3) := by decide +kernel
theorem dX12_search_27 : decode cX12_search 27 = .ok (.aload_n 0, 1) := by decide +kernel
theorem dX12_search_28 : decode cX12_search 28 = .ok (.getfield 96, 3) := by decide +kernel
theorem dX12_search_31 : decode cX12_search 31 = .ok (.aload_n 0, 1) := by decide +kernel
theorem dX12_search_32 : decode cX12_search 32 = .ok (.getfield 219, 3) := by decide +kernel
theorem dX12_search_35 : decode cX12_search 35 = .ok (.aload_n 0, 1) := by decide +kernel
theorem dX12_search_36 : decode cX12_search 36 = .ok (.getfield 156, 3) := by decide +kernel
theorem dX12_search_39 : decode cX12_search 39 = .ok (.isub, 1) := by decide +kernel
theorem dX12_search_40 : decode cX12_search 40 = .ok (.iaload, 1) := by decide +kernel
theorem dX12_search_41 : decode cX12_search 41 = .ok (.istore_n 1, 1) := by decide +kernel
theorem dX12_search_42 : decode cX12_search 42 = .ok (.aload_n 0, 1) := by decide +kernel
theorem dX12_search_43 : decode cX12_search 43 = .ok (.dup, 1) := by decide +kernel
theorem dX12_search_44 : decode cX12_search 44 = .ok (.getfield 156, 3) := by decide +kernel
theorem dX12_search_47 : decode cX12_search 47 = .ok (.iconst 1, 1) := by decide +kernel
theorem dX12_search_48 : decode cX12_search 48 = .ok (.isub, 1) := by decide +kernel
theorem dX12_search_49 : decode cX12_search 49 = .ok (.putfield 156, 3) := by decide +kernel
theorem dX12_search_52 : decode cX12_search 52 = .ok (.bipush 6, 2) := by decide +kernel
theorem dX12_search_54 : decode cX12_search 54 = .ok (.aload_n 0, 1) := by decide +kernel
theorem dX12_search_55 : decode cX12_search 55 = .ok (.getfield 127, 3) := by decide +kernel
theorem dX12_search_58 : decode cX12_search 58 = .ok (.imul, 1) := by decide +kernel
theorem dX12_search_59 : decode cX12_search 59 = .ok (.istore_n 2, 1) := by decide +kernel
theorem dX12_search_60 : decode cX12_search 60 = .ok (.aload_n 0, 1) := by decide +kernel
theorem dX12_search_61 : decode cX12_search 61 = .ok (.getfield 75, 3) := by decide +kernel
theorem dX12_search_64 : decode cX12_search 64 = .ok (.iload_n 1, 1) := by decide +kernel
theorem dX12_search_65 : decode cX12_search 65 = .ok (.iaload, 1) := by decide +kernel
theorem dX12_search_66 : decode cX12_search 66 = .ok (.istore_n 3, 1) := by decide +kernel
theorem dX12_search_67 : decode cX12_search 67 = .ok (.aload_n 0, 1) := by decide +kernel
theorem dX12_search_68 : decode cX12_search 68 = .ok (.getfield 63, 3) := by decide +kernel
theorem dX12_search_71 : decode cX12_search 71 = .ok (.iload_n 2, 1) := by decide +kernel
theorem dX12_search_72 : decode cX12_search 72 = .ok (.iload_n 3, 1) := by decide +kernel
theorem dX12_search_73 : decode cX12_search 73 = .ok (.iastore, 1) := by decide +kernel
theorem dX12_search_74 : decode cX12_search 74 = .ok (.iconst 1, 1) := by decide +kernel
theorem dX12_search_75 : decode cX12_search 75 = .ok (.istore 4, 2) := by decide +kernel
theorem dX12_search_77 : decode cX12_search 77 = .ok (.iload 4, 2) := by decide +kernel
theorem dX12_search_79 : decode cX12_search 79 = .ok (.bipush 6, 2) := by decide +kernel
theorem dX12_search_81 : decode cX12_search 81 = .ok (.if_icmp .ge 19, 3) := by decide +kernel
theorem dX12_search_84 : decode cX12_search 84 = .ok (.aload_n 0, 1) := by decide +kernel
theorem dX12_search_85 : decode cX12_search 85 = .ok (.getfield 63, 3) := by decide +kernel
theorem dX12_search_88 : decode cX12_search 88 = .ok (.iload_n 2, 1) := by decide +kernel
theorem dX12_search_89 : decode cX12_search 89 = .ok (.iload 4, 2) := by decide +kernel
theorem dX12_search_91 : decode cX12_search 91 = .ok (.iadd, 1) := by decide +kernel
theorem dX12_search_92 : decode cX12_search 92 = .ok (.iconst 0, 1) := by decide +kernel
theorem dX12_search_93 : decode cX12_search 93 = .ok (.iastore, 1) := by decide +kernel
theorem dX12_search_94 : decode cX12_search 94 = .ok (.iinc 4 1, 3) := by decide +kernel
theorem dX12_search_97 : decode cX12_search 97 = .ok (.goto (-20), 3) := by decide +kernel
theorem dX12_search_100 : decode cX12_search 100 = .ok (.iload_n 3, 1) := by decide +kernel
theorem dX12_search_101 : decode cX12_search 101 = .ok (.ifCond .lt 240, 3) := by decide +kernel
theorem dX12_search_104 : decode cX12_search 104 = .ok (.sipush 168, 3) := by decide +kernel
theorem dX12_search_107 : decode cX12_search 107 = .ok (.aload_n 0, 1) := by decide +kernel
theorem dX12_search_108 : decode cX12_search 108 = .ok (.getfield 130, 3) := by decide +kernel
theorem dX12_search_111 : decode cX12_search 111 = .ok (.aload_n 0, 1) := by decide +kernel
theorem dX12_search_112 : decode cX12_search 112 = .ok (.getfield 13, 3) := by decide +kernel
theorem dX12_search_115 : decode cX12_search 115 = .ok (.iload_n 3, 1) := by decide +kernel
theorem dX12_search_116 : decode cX12_search 116 = .ok (.iaload, 1) := by decide +kernel
theorem dX12_search_117 : decode cX12_search 117 = .ok (.isub, 1) := by decide +kernel
theorem dX12_search_118 : decode cX12_search 118 = .ok (.imul, 1) := by decide +kernel
theorem dX12_search_119 : decode cX12_search 119 = .ok (.aload_n 0, 1) := by decide +kernel
theorem dX12_search_120 : decode cX12_search 120 = .ok (.getfield 133, 3) := by decide +kernel
theorem dX12_search_123 : decode cX12_search 123 = .ok (.iadd, 1) := by decide +kernel
theorem dX12_search_124 : decode cX12_search 124 = .ok (.aload_n 0, 1) := by decide +kernel
theorem dX12_search_125 : decode cX12_search 125 = .ok (.getfield 16, 3) := by decide +kernel
theorem dX12_search_128 : decode cX12_search 128 = .ok (.iload_n 3, 1) := by decide +kernel
theorem dX12_search_129 : decode cX12_search 129 = .ok (.iaload, 1) := by decide +kernel
theorem dX12_search_130 : decode cX12_search 130 = .ok (.isub, 1) := by decide +kernel
theorem dX12_search_131 : decode cX12_search 131 = .ok (.istore 4, 2) := by decide +kernel
theorem dX12_search_133 : decode cX12_search 133 = .ok (.aload_n 0, 1) := by decide +kernel
theorem dX12_search_134 : decode cX12_search 134 = .ok (.aload_n 0, 1) := by decide +kernel
theorem dX12_search_135 : decode cX12_search 135 = .ok (.getfield 13, 3) := by decide +kernel
theorem dX12_search_138 : decode cX12_search 138 = .ok (.iload_n 3, 1) := by decide +kernel
theorem dX12_search_139 : decode cX12_search 139 = .ok (.iaload, 1) := by decide +kernel
theorem dX12_search_140 : decode cX12_search 140 = .ok (.invokevirtual 200, 3) := by decide +kernel
theorem dX12_search_143 : decode cX12_search 143 = .ok (.istore 5, 2) := by decide +kernel
theorem dX12_search_145 : decode cX12_search 145 = .ok (.aload_n 0, 1) := by decide +kernel
theorem dX12_search_146 : decode cX12_search 146 = .ok (.getfield 48, 3) := by decide +kernel
theorem dX12_search_149 : decode cX12_search 149 = .ok (.iload_n 3, 1) := by decide +kernel
theorem dX12_search_150 : decode cX12_search 150 = .ok (.iaload, 1) := by decide +kernel
theorem dX12_search_151 : decode cX12_search 151 = .ok (.aload_n 0, 1) := by decide +kernel
theorem dX12_search_152 : decode cX12_search 152 = .ok (.getfield 102, 3) := by decide +kernel
theorem dX12_search_155 : decode cX12_search 155 = .ok (.iload 4, 2) := by decide +kernel
theorem dX12_search_157 : decode cX12_search 157 = .ok (.invokestatic 225, 3) := by decide +kernel
theorem dX12_search_160 : decode cX12_search 160 = .ok (.istore 6, 2) := by decide +kernel
theorem dX12_search_162 : decode cX12_search 162 = .ok (.aload_n 0, 1) := by decide +kernel
theorem dX12_search_163 : decode cX12_search 163 = .ok (.aload_n 0, 1) := by decide +kernel
theorem dX12_search_164 : decode cX12_search 164 = .ok (.getfield 42, 3) := by decide +kernel
theorem dX12_search_167 : decode cX12_search 167 = .ok (.iload_n 3, 1) := by decide +kernel
theorem dX12_search_168 : decode cX12_search 168 = .ok (.iaload, 1) := by decide +kernel
theorem dX12_search_169 : decode cX12_search 169 = .ok (.aload_n 0, 1) := by decide +kernel
theorem dX12_search_170 : decode cX12_search 170 = .ok (.getfield 13, 3) := by decide +kernel
theorem dX12_search_173 : decode cX12_search 173 = .ok (.iload_n 3, 1) := by decide +kernel
theorem dX12_search_174 : decode cX12_search 174 = .ok (.iaload, 1) := by decide +kernel
theorem dX12_search_175 : decode cX12_search 175 = .ok (.invokevirtual 203, 3) := by decide +kernel
theorem dX12_search_178 : decode cX12_search 178 = .ok (.iload 5, 2) := by decide +kernel
theorem dX12_search_180 : decode cX12_search 180 = .ok (.ifCond .ge 7, 3) := by decide +kernel
theorem dX12_search_183 : decode cX12_search 183 = .ok (.iconst 0, 1) := by decide +kernel
theorem dX12_search_184 : decode cX12_search 184 = .ok (.goto 10, 3) := by decide +kernel
theorem dX12_search_187 : decode cX12_search 187 = .ok (.aload_n 0, 1) := by decide +kernel
theorem dX12_search_188 : decode cX12_search 188 = .ok (.getfield 84, 3) := by decide +kernel
theorem dX12_search_191 : decode cX12_search 191 = .ok (.iload 5, 2) := by decide +kernel
theorem dX12_search_193 : decode cX12_search 193 = .ok (.iaload, 1) := by decide +kernel
theorem dX12_search_194 : decode cX12_search 194 = .ok (.iload 4, 2) := by decide +kernel
theorem dX12_search_196 : decode cX12_search 196 = .ok (.invokestatic 225, 3) := by decide +kernel
theorem dX12_search_199 : decode cX12_search 199 = .ok (.istore 7, 2) := by decide +kernel
theorem dX12_search_201 : decode cX12_search 201 = .ok (.aload_n 0, 1) := by decide +kernel
theorem dX12_search_202 : decode cX12_search 202 = .ok (.getfield 63, 3) := by decide +kernel
theorem dX12_search_205 : decode cX12_search 205 = .ok (.iload_n 2, 1) := by decide +kernel
theorem dX12_search_206 : decode cX12_search 206 = .ok (.iconst 1, 1) := by decide +kernel
theorem dX12_search_207 : decode cX12_search 207 = .ok (.iadd, 1) := by decide +kernel
theorem dX12_search_208 : decode cX12_search 208 = .ok (.iload 4, 2) := by decide +kernel
theorem dX12_search_210 : decode cX12_search 210 = .ok (.iastore, 1) := by decide +kernel
theorem dX12_search_211 : decode cX12_search 211 = .ok (.aload_n 0, 1) := by decide +kernel
theorem dX12_search_212 : decode cX12_search 212 = .ok (.getfield 63, 3) := by decide +kernel
theorem dX12_search_215 : decode cX12_search 215 = .ok (.iload_n 2, 1) := by decide +kernel
theorem dX12_search_216 : decode cX12_search 216 = .ok (.iconst 2, 1) := by decide +kernel
theorem dX12_search_217 : decode cX12_search 217 = .ok (.iadd, 1) := by decide +kernel
theorem dX12_search_218 : decode cX12_search 218 = .ok (.iload 6, 2) := by decide +kernel
theorem dX12_search_220 : decode cX12_search 220 = .ok (.iastore, 1) := by decide +kernel
theorem dX12_search_221 : decode cX12_search 221 = .ok (.aload_n 0, 1) := by decide +kernel
theorem dX12_search_222 : decode cX12_search 222 = .ok (.getfield 63, 3) := by decide +kernel
theorem dX12_search_225 : decode cX12_search 225 = .ok (.iload_n 2, 1) := by decide +kernel
theorem dX12_search_226 : decode cX12_search 226 = .ok (.iconst 3, 1) := by decide +kernel
theorem dX12_search_227 : decode cX12_search 227 = .ok (.iadd, 1) := by decide +kernel
theorem dX12_search_228 : decode cX12_search 228 = .ok (.iload 7, 2) := by decide +kernel
theorem dX12_search_230 : decode cX12_search 230 = .ok (.iastore, 1) := by decide +kernel
theorem dX12_search_231 : decode cX12_search 231 = .ok (.iload 6, 2) := by decide +kernel
theorem dX12_search_233 : decode cX12_search 233 = .ok (.iload 7, 2) := by decide +kernel
theorem dX12_search_235 : decode cX12_search 235 = .ok (.if_icmp .ge 106, 3) := by decide +kernel
theorem dX12_search_238 : decode cX12_search 238 = .ok (.aload_n 0, 1) := by decide +kernel
theorem dX12_search_239 : decode cX12_search 239 = .ok (.getfield 66, 3) := by decide +kernel
theorem dX12_search_242 : decode cX12_search 242 = .ok (.iload_n 1, 1) := by decide +kernel
theorem dX12_search_243 : decode cX12_search 243 = .ok (.dup2, 1) := by decide +kernel
theorem dX12_search_244 : decode cX12_search 244 = .ok (.iaload, 1) := by decide +kernel
theorem dX12_search_245 : decode cX12_search 245 = .ok (.iconst 1, 1) := by decide +kernel
theorem dX12_search_246 : decode cX12_search 246 = .ok (.iadd, 1) := by decide +kernel
theorem dX12_search_247 : decode cX12_search 247 = .ok (.iastore, 1) := by decide +kernel
theorem dX12_search_248 : decode cX12_search 248 = .ok (.aload_n 0, 1) := by decide +kernel
theorem dX12_search_249 : decode cX12_search 249 = .ok (.getfield 66, 3) := by decide +kernel
theorem dX12_search_252 : decode cX12_search 252 = .ok (.iload_n 1, 1) := by decide +kernel
theorem dX12_search_253 : decode cX12_search 253 = .ok (.iaload, 1) := by decide +kernel
theorem dX12_search_254 : decode cX12_search 254 = .ok (.iconst 4, 1) := by decide +kernel
theorem dX12_search_255 : decode cX12_search 255 = .ok (.if_icmp .le 7, 3) := by decide +kernel
theorem dX12_search_258 : decode cX12_search 258 = .ok (.iconst 4, 1) := by decide +kernel
theorem dX12_search_259 : decode cX12_search 259 = .ok (.goto 9, 3) := by decide +kernel
theorem dX12_search_262 : decode cX12_search 262 = .ok (.aload_n 0, 1) := by decide +kernel
theorem dX12_search_263 : decode cX12_search 263 = .ok (.getfield 66, 3) := by decide +kernel
theorem dX12_search_266 : decode cX12_search 266 = .ok (.iload_n 1, 1) := by decide +kernel
theorem dX12_search_267 : decode cX12_search 267 = .ok (.iaload, 1) := by decide +kernel
theorem dX12_search_268 : decode cX12_search 268 = .ok (.istore 8, 2) := by decide +kernel
theorem dX12_search_270 : decode cX12_search 270 = .ok (.aload_n 0, 1) := by decide +kernel
theorem dX12_search_271 : decode cX12_search 271 = .ok (.getfield 63, 3) := by decide +kernel
theorem dX12_search_274 : decode cX12_search 274 = .ok (.iload_n 2, 1) := by decide +kernel
theorem dX12_search_275 : decode cX12_search 275 = .ok (.iconst 4, 1) := by decide +kernel
theorem dX12_search_276 : decode cX12_search 276 = .ok (.iadd, 1) := by decide +kernel
theorem dX12_search_277 : decode cX12_search 277 = .ok (.iconst 1, 1) := by decide +kernel
theorem dX12_search_278 : decode cX12_search 278 = .ok (.iastore, 1) := by decide +kernel
theorem dX12_search_279 : decode cX12_search 279 = .ok (.aload_n 0, 1) := by decide +kernel
theorem dX12_search_280 : decode cX12_search 280 = .ok (.getfield 63, 3) := by decide +kernel
theorem dX12_search_283 : decode cX12_search 283 = .ok (.iload_n 2, 1) := by decide +kernel
theorem dX12_search_284 : decode cX12_search 284 = .ok (.iconst 5, 1) := by decide +kernel
theorem dX12_search_285 : decode cX12_search 285 = .ok (.iadd, 1) := by decide +kernel
theorem dX12_search_286 : decode cX12_search 286 = .ok (.aload_n 0, 1) := by decide +kernel
theorem dX12_search_287 : decode cX12_search 287 = .ok (.getfield 105, 3) := by decide +kernel
theorem dX12_search_290 : decode cX12_search 290 = .ok (.iload 8, 2) := by decide +kernel
theorem dX12_search_292 : decode cX12_search 292 = .ok (.imul, 1) := by decide +kernel
theorem dX12_search_293 : decode cX12_search 293 = .ok (.iastore, 1) := by decide +kernel
theorem dX12_search_294 : decode cX12_search 294 = .ok (.aload_n 0, 1) := by decide +kernel
theorem dX12_search_295 : decode cX12_search 295 = .ok (.getfield 69, 3) := by decide +kernel
theorem dX12_search_298 : decode cX12_search 298 = .ok (.iload_n 1, 1) := by decide +kernel
theorem dX12_search_299 : decode cX12_search 299 = .ok (.dup2, 1) := by decide +kernel
theorem dX12_search_300 : decode cX12_search 300 = .ok (.iaload, 1) := by decide +kernel
theorem dX12_search_301 : decode cX12_search 301 = .ok (.aload_n 0, 1) := by decide +kernel
theorem dX12_search_302 : decode cX12_search 302 = .ok (.getfield 105, 3) := by decide +kernel
theorem dX12_search_305 : decode cX12_search 305 = .ok (.iload 8, 2) := by decide +kernel
theorem dX12_search_307 : decode cX12_search 307 = .ok (.imul, 1) := by decide +kernel
theorem dX12_search_308 : decode cX12_search 308 = .ok (.iadd, 1) := by decide +kernel
theorem dX12_search_309 : decode cX12_search 309 = .ok (.iastore, 1) := by decide +kernel
theorem dX12_search_310 : decode cX12_search 310 = .ok (.aload_n 0, 1) := by decide +kernel
theorem dX12_search_311 : decode cX12_search 311 = .ok (.getfield 72, 3) := by decide +kernel
theorem dX12_search_314 : decode cX12_search 314 = .ok (.iload_n 1, 1) := by decide +kernel
theorem dX12_search_315 : decode cX12_search 315 = .ok (.aload_n 0, 1) := by decide +kernel
theorem dX12_search_316 : decode cX12_search 316 = .ok (.getfield 66, 3) := by decide +kernel
theorem dX12_search_319 : decode cX12_search 319 = .ok (.iload_n 1, 1) := by decide +kernel
theorem dX12_search_320 : decode cX12_search 320 = .ok (.iaload, 1) := by decide +kernel
theorem dX12_search_321 : decode cX12_search 321 = .ok (.iconst 4, 1) := by decide +kernel
theorem dX12_search_322 : decode cX12_search 322 = .ok (.if_icmp .lt 12, 3) := by decide +kernel
theorem dX12_search_325 : decode cX12_search 325 = .ok (.aload_n 0, 1) := by decide +kernel
theorem dX12_search_326 : decode cX12_search 326 = .ok (.getfield 130, 3) := by decide +kernel
theorem dX12_search_329 : decode cX12_search 329 = .ok (.iconst 2, 1) := by decide +kernel
theorem dX12_search_330 : decode cX12_search 330 = .ok (.iadd, 1) := by decide +kernel
theorem dX12_search_331 : decode cX12_search 331 = .ok (.goto 9, 3) := by decide +kernel
theorem dX12_search_334 : decode cX12_search 334 = .ok (.aload_n 0, 1) := by decide +kernel
theorem dX12_search_335 : decode cX12_search 335 = .ok (.getfield 72, 3) := by decide +kernel
theorem dX12_search_338 : decode cX12_search 338 = .ok (.iload_n 1, 1) := by decide +kernel
theorem dX12_search_339 : decode cX12_search 339 = .ok (.iaload, 1) := by decide +kernel
theorem dX12_search_340 : decode cX12_search 340 = .ok (.iastore, 1) := by decide +kernel
theorem dX12_search_341 : decode cX12_search 341 = .ok (.aload_n 0, 1) := by decide +kernel
theorem dX12_search_342 : decode cX12_search 342 = .ok (.iconst 3, 1) := by decide +kernel
theorem dX12_search_343 : decode cX12_search 343 = .ok (.iload_n 1, 1) := by decide +kernel
theorem dX12_search_344 : decode cX12_search 344 = .ok (.invokevirtual 167, 3) := by decide +kernel
theorem dX12_search_347 : decode cX12_search 347 = .ok (.ireturn, 1) := by decide +kernel
set_option maxRecDepth 20000 in
theorem ggX12_turn_X12_drawTurns : GoodIn wsX12_turn wsX12_drawTurns := goodIn_r _ [9, 4, 1, 2, 10, 11, 12, 13, 3, 14, 15, 16, 17, 18, 19, 20, 21, 22, 23, 24, 25, 26, 27, 28, 29, 30, 31, 32, 33, 34, 35, 36, 37, 38, 39, 40, 41, 42, 43, 44, 45, 46, 47, 48, 49, 50, 51, 52, 53, 54, 55, 56, 57, 58, 59, 60, 61, 62, 63] (by decide +kernel) (by decide +kernel)
set_option maxRecDepth 20000 in
theorem gX12_turn_X12_drawTurns : GoodIn wsX12_turn (wsV RX12 222 RX12 yX12_drawTurns wsX12_drawTurns) := goodIn_app (goodIn_of _ (by decide +kernel)) ggX12_turn_X12_drawTurns
theorem dX12_turn_0 : decode cX12_turn 0 = .ok (.aload_n 0, 1) := by decide +kernel
theorem dX12_turn_1 : decode cX12_turn 1 = .ok (.getfield 120, 3) := by decide +kernel
theorem dX12_turn_4 : decode cX12_turn 4 = .ok (.ifCond .ne 6, 3) := by decide +kernel
theorem dX12_turn_7 : decode cX12_turn 7 = .ok (.bipush (-3), 2) := by decide +kernel
theorem dX12_turn_9 : decode cX12_turn 9 = .ok (.ireturn, 1) := by decide +kernel
theorem dX12_turn_10 : decode cX12_turn 10 = .ok (.aload_n 0, 1) := by decide +kernel
theorem dX12_turn_11 : decode cX12_turn 11 = .ok (.invokevirtual 222, 3) := by decide +kernel
theorem dX12_turn_14 : decode cX12_turn 14 = .ok (.aload_n 0, 1) := by decide +kernel
theorem dX12_turn_15 : decode cX12_turn 15 = .ok (.getfield 96, 3) := by decide +kernel
theorem dX12_turn_18 : decode cX12_turn 18 = .ok (.aload_n 0, 1) := by decide +kernel
theorem dX12_turn_19 : decode cX12_turn 19 = .ok (.getfield 219, 3) := by decide +kernel
theorem dX12_turn_22 : decode cX12_turn 22 = .ok (.aload_n 0, 1) := by decide +kernel
theorem dX12_turn_23 : decode cX12_turn 23 = .ok (.getfield 156, 3) := by decide +kernel
theorem dX12_turn_26 : decode cX12_turn 26 = .ok (.isub, 1) := by decide +kernel
theorem dX12_turn_27 : decode cX12_turn 27 = .ok (.iaload, 1) := by decide +kernel
theorem dX12_turn_28 : decode cX12_turn 28 = .ok (.ireturn, 1) := by decide +kernel
set_option maxRecDepth 20000 in
theorem ggX12_rules_X12_in : GoodIn wsX12_rules wsX12_in := goodIn_r _ [8] (by decide +kernel) (by decide +kernel)
set_option maxRecDepth 20000 in
theorem gX12_rules_X12_in : GoodIn wsX12_rules (va_wsS RX12 123 yX12_in wsX12_in) := goodIn_app (goodIn_of _ (by decide +kernel)) ggX12_rules_X12_in
theorem dX12_rules_0 : decode cX12_rules 0 = .ok (.iload_n 1, 1) := by decide +kernel
theorem dX12_rules_1 : decode cX12_rules 1 = .ok (.i2l, 1) := by decide +kernel
theorem dX12_rules_2 : decode cX12_rules 2 = .ok (.lconst 0, 1) := by decide +kernel
theorem dX12_rules_3 : decode cX12_rules 3 = .ok (.ldc2_w 195, 3) := by decide +kernel
theorem dX12_rules_6 : decode cX12_rules 6 = .ok (.invokestatic 123, 3) := by decide +kernel
theorem dX12_rules_9 : decode cX12_rules 9 = .ok (.ifCond .eq 15, 3) := by decide +kernel
theorem dX12_rules_12 : decode cX12_rules 12 = .ok (.iload_n 2, 1) := by decide +kernel
theorem dX12_rules_13 : decode cX12_rules 13 = .ok (.i2l, 1) := by decide +kernel
theorem dX12_rules_14 : decode cX12_rules 14 = .ok (.lconst 0, 1) := by decide +kernel
theorem dX12_rules_15 : decode cX12_rules 15 = .ok (.ldc2_w 165, 3) := by decide +kernel
theorem dX12_rules_18 : decode cX12_rules 18 = .ok (.invokestatic 123, 3) := by decide +kernel
theorem dX12_rules_21 : decode cX12_rules 21 = .ok (.ifCond .ne 6, 3) := by decide +kernel
theorem dX12_rules_24 : decode cX12_rules 24 = .ok (.bipush (-2), 2) := by decide +kernel
theorem dX12_rules_26 : decode cX12_rules 26 = .ok (.ireturn, 1) := by decide +kernel
theorem dX12_rules_27 : decode cX12_rules 27 = .ok (.aload_n 0, 1) := by decide +kernel
theorem dX12_rules_28 : decode cX12_rules 28 = .ok (.iload_n 1, 1) := by decide +kernel
theorem dX12_rules_29 : decode cX12_rules 29 = .ok (.putfield 102, 3) := by decide +kernel
theorem dX12_rules_32 : decode cX12_rules 32 = .ok (.aload_n 0, 1) := by decide +kernel
theorem dX12_rules_33 : decode cX12_rules 33 = .ok (.iload_n 2, 1) := by decide +kernel
theorem dX12_rules_34 : decode cX12_rules 34 = .ok (.putfield 105, 3) := by decide +kernel
theorem dX12_rules_37 : decode cX12_rules 37 = .ok (.iconst 1, 1) := by decide +kernel
theorem dX12_rules_38 : decode cX12_rules 38 = .ok (.ireturn, 1) := by decide +kernel
set_option maxRecDepth 20000 in
theorem ggX12_record_X12_isRecord : GoodIn wsX12_record wsX12_isRecord := goodIn_r _ [9, 10, 11, 12, 8, 13, 14, 15, 16, 17, 18, 19, 20, 21, 22, 23, 24, 25, 26, 27, 28, 29, 30, 31, 32, 33, 34, 35, 36, 37, 38, 39, 40, 41, 42, 43, 44, 45, 46, 47, 48, 49, 50, 51, 52, 53, 54, 55, 56, 57, 58, 59, 60, 61, 62, 63] (by decide +kernel) (by decide +kernel)
set_option maxRecDepth 20000 in
theorem gX12_record_X12_isRecord : GoodIn wsX12_record (wsV RX12 171 RX12 yX12_isRecord wsX12_isRecord) := goodIn_app (goodIn_of _ (by decide +kernel)) ggX12_record_X12_isRecord
theorem dX12_record_0 : decode cX12_record 0 = .ok (.aload_n 0, 1) := by decide +kernel
theorem dX12_record_1 : decode cX12_record 1 = .ok (.iload_n 1, 1) := by decide +kernel
theorem dX12_record_2 : decode cX12_record 2 = .ok (.invokevirtual 171, 3) := by decide +kernel
theorem dX12_record_5 : decode cX12_record 5 = .ok (.ifCond .ne 5, 3) := by decide +kernel
theorem dX12_record_8 : decode cX12_record 8 = .ok (.iconst (-1), 1) := by decide +kernel
theorem dX12_record_9 : decode cX12_record 9 = .ok (.ireturn, 1) := by decide +kernel
theorem dX12_record_10 : decode cX12_record 10 = .ok (.iload_n 2, 1) := by decide +kernel
theorem dX12_record_11 : decode cX12_record 11 = .ok (.ifCond .ne 12, 3) := by decide +kernel
theorem dX12_record_14 : decode cX12_record 14 = .ok (.aload_n 0, 1) := by decide +kernel
theorem dX12_record_15 : decode cX12_record 15 = .ok (.getfield 7, 3) := by decide +kernel
theorem dX12_record_18 : decode cX12_record 18 = .ok (.iload_n 1, 1) := by decide +kernel
theorem dX12_record_19 : decode cX12_record 19 = .ok (.iaload, 1) := by decide +kernel
theorem dX12_record_20 : decode cX12_record 20 = .ok (.goto 47, 3) := by decide +kernel
theorem dX12_record_23 : decode cX12_record 23 = .ok (.iload_n 2, 1) := by decide +kernel
theorem dX12_record_24 : decode cX12_record 24 = .ok (.iconst 1, 1) := by decide +kernel
theorem dX12_record_25 : decode cX12_record 25 = .ok (.if_icmp .ne 12, 3) := by decide +kernel
theorem dX12_record_28 : decode cX12_record 28 = .ok (.aload_n 0, 1) := by decide +kernel
theorem dX12_record_29 : decode cX12_record 29 = .ok (.getfield 13, 3) := by decide +kernel
theorem dX12_record_32 : decode cX12_record 32 = .ok (.iload_n 1, 1) := by decide +kernel
theorem dX12_record_33 : decode cX12_record 33 = .ok (.iaload, 1) := by decide +kernel
theorem dX12_record_34 : decode cX12_record 34 = .ok (.goto 33, 3) := by decide +kernel
theorem dX12_record_37 : decode cX12_record 37 = .ok (.iload_n 2, 1) := by decide +kernel
theorem dX12_record_38 : decode cX12_record 38 = .ok (.iconst 2, 1) := by decide +kernel
theorem dX12_record_39 : decode cX12_record 39 = .ok (.if_icmp .ne 12, 3) := by decide +kernel
theorem dX12_record_42 : decode cX12_record 42 = .ok (.aload_n 0, 1) := by decide +kernel
theorem dX12_record_43 : decode cX12_record 43 = .ok (.getfield 16, 3) := by decide +kernel
theorem dX12_record_46 : decode cX12_record 46 = .ok (.iload_n 1, 1) := by decide +kernel
theorem dX12_record_47 : decode cX12_record 47 = .ok (.iaload, 1) := by decide +kernel
theorem dX12_record_48 : decode cX12_record 48 = .ok (.goto 19, 3) := by decide +kernel
theorem dX12_record_51 : decode cX12_record 51 = .ok (.iload_n 2, 1) := by decide +kernel
theorem dX12_record_52 : decode cX12_record 52 = .ok (.iconst 3, 1) := by decide +kernel
theorem dX12_record_53 : decode cX12_record 53 = .ok (.if_icmp .ne 12, 3) := by decide +kernel
theorem dX12_record_56 : decode cX12_record 56 = .ok (.aload_n 0, 1) := by decide +kernel
theorem dX12_record_57 : decode cX12_record 57 = .ok (.getfield 19, 3) := by decide +kernel
theorem dX12_record_60 : decode cX12_record 60 = .ok (.iload_n 1, 1) := by decide +kernel
theorem dX12_record_61 : decode cX12_record 61 = .ok (.iaload, 1) := by decide +kernel
theorem dX12_record_62 : decode cX12_record 62 = .ok (.goto 5, 3) := by decide +kernel
theorem dX12_record_65 : decode cX12_record 65 = .ok (.bipush (-2), 2) := by decide +kernel
theorem dX12_record_67 : decode cX12_record 67 = .ok (.ireturn, 1) := by decide +kernel
set_option maxRecDepth 20000 in
theorem ggX12_lot_X12_isRecord : GoodIn wsX12_lot wsX12_isRecord := goodIn_r _ [11, 12, 13, 14, 10, 15, 16, 17, 18, 19, 20, 21, 22, 23, 24, 25, 26, 27, 28, 29, 30, 31, 32, 33, 34, 35, 36, 37, 38, 39, 40, 41, 42, 43, 44, 45, 46, 47, 48, 49, 50, 51, 52, 53, 54, 55, 56, 57, 58, 59, 60, 61, 62, 63, 64, 65] (by decide +kernel) (by decide +kernel)
set_option maxRecDepth 20000 in
theorem gX12_lot_X12_isRecord : GoodIn wsX12_lot (wsV RX12 171 RX12 yX12_isRecord wsX12_isRecord) := goodIn_app (goodIn_of _ (by decide +kernel)) ggX12_lot_X12_isRecord
set_option maxRecDepth 20000 in
theorem ggX12_lot_X12_in : GoodIn wsX12_lot wsX12_in := goodIn_r _ [15] (by decide +kernel) (by decide +kernel)
set_option maxRecDepth 20000 in
theorem gX12_lot_X12_in : GoodIn wsX12_lot (va_wsS RX12 123 yX12_in wsX12_in) := goodIn_app (goodIn_of _ (by decide +kernel)) ggX12_lot_X12_in
theorem dX12_lot_0 : decode cX12_lot 0 = .ok (.aload_n 0, 1) := by decide +kernel
theorem dX12_lot_1 : decode cX12_lot 1 = .ok (.iload_n 1, 1) := by decide +kernel
theorem dX12_lot_2 : decode cX12_lot 2 = .ok (.invokevirtual 171, 3) := by decide +kernel
theorem dX12_lot_5 : decode cX12_lot 5 = .ok (.ifCond .ne 5, 3) := by decide +kernel
theorem dX12_lot_8 : decode cX12_lot 8 = .ok (.iconst (-1), 1) := by decide +kernel
theorem dX12_lot_9 : decode cX12_lot 9 = .ok (.ireturn, 1) := by decide +kernel
theorem dX12_lot_10 : decode cX12_lot 10 = .ok (.iload_n 2, 1) := by decide +kernel
theorem dX12_lot_11 : decode cX12_lot 11 = .ok (.i2l, 1) := by decide +kernel
theorem dX12_lot_12 : decode cX12_lot 12 = .ok (.lconst 0, 1) := by decide +kernel
theorem dX12_lot_13 : decode cX12_lot 13 = .ok (.ldc2_w 229, 3) := by decide +kernel
theorem dX12_lot_16 : decode cX12_lot 16 = .ok (.invokestatic 123, 3) := by decide +kernel
theorem dX12_lot_19 : decode cX12_lot 19 = .ok (.ifCond .ne 6, 3) := by decide +kernel
theorem dX12_lot_22 : decode cX12_lot 22 = .ok (.bipush (-2), 2) := by decide +kernel
theorem dX12_lot_24 : decode cX12_lot 24 = .ok (.ireturn, 1) := by decide +kernel
theorem dX12_lot_25 : decode cX12_lot 25 = .ok (.aload_n 0, 1) := by decide +kernel
theorem dX12_lot_26 : decode cX12_lot 26 = .ok (.getfield 7, 3) := by decide +kernel
theorem dX12_lot_29 : decode cX12_lot 29 = .ok (.iload_n 1, 1) := by decide +kernel
theorem dX12_lot_30 : decode cX12_lot 30 = .ok (.iaload, 1) := by decide +kernel
theorem dX12_lot_31 : decode cX12_lot 31 = .ok (.iconst 1, 1) := by decide +kernel
theorem dX12_lot_32 : decode cX12_lot 32 = .ok (.if_icmp .eq 6, 3) := by decide +kernel
theorem dX12_lot_35 : decode cX12_lot 35 = .ok (.bipush (-5), 2) := by decide +kernel
theorem dX12_lot_37 : decode cX12_lot 37 = .ok (.ireturn, 1) := by decide +kernel
theorem dX12_lot_38 : decode cX12_lot 38 = .ok (.iload_n 2, 1) := by decide +kernel
theorem dX12_lot_39 : decode cX12_lot 39 = .ok (.ifCond .ne 12, 3) := by decide +kernel
theorem dX12_lot_42 : decode cX12_lot 42 = .ok (.aload_n 0, 1) := by decide +kernel
theorem dX12_lot_43 : decode cX12_lot 43 = .ok (.getfield 22, 3) := by decide +kernel
theorem dX12_lot_46 : decode cX12_lot 46 = .ok (.iload_n 1, 1) := by decide +kernel
theorem dX12_lot_47 : decode cX12_lot 47 = .ok (.iaload, 1) := by decide +kernel
theorem dX12_lot_48 : decode cX12_lot 48 = .ok (.goto 45, 3) := by decide +kernel
theorem dX12_lot_51 : decode cX12_lot 51 = .ok (.iload_n 2, 1) := by decide +kernel
theorem dX12_lot_52 : decode cX12_lot 52 = .ok (.iconst 1, 1) := by decide +kernel
theorem dX12_lot_53 : decode cX12_lot 53 = .ok (.if_icmp .ne 12, 3) := by decide +kernel
theorem dX12_lot_56 : decode cX12_lot 56 = .ok (.aload_n 0, 1) := by decide +kernel
theorem dX12_lot_57 : decode cX12_lot 57 = .ok (.getfield 25, 3) := by decide +kernel
theorem dX12_lot_60 : decode cX12_lot 60 = .ok (.iload_n 1, 1) := by decide +kernel
theorem dX12_lot_61 : decode cX12_lot 61 = .ok (.iaload, 1) := by decide +kernel
theorem dX12_lot_62 : decode cX12_lot 62 = .ok (.goto 31, 3) := by decide +kernel
theorem dX12_lot_65 : decode cX12_lot 65 = .ok (.iload_n 2, 1) := by decide +kernel
theorem dX12_lot_66 : decode cX12_lot 66 = .ok (.iconst 2, 1) := by decide +kernel
theorem dX12_lot_67 : decode cX12_lot 67 = .ok (.if_icmp .ne 20, 3) := by decide +kernel
theorem dX12_lot_70 : decode cX12_lot 70 = .ok (.aload_n 0, 1) := by decide +kernel
theorem dX12_lot_71 : decode cX12_lot 71 = .ok (.getfield 28, 3) := by decide +kernel
theorem dX12_lot_74 : decode cX12_lot 74 = .ok (.iload_n 1, 1) := by decide +kernel
theorem dX12_lot_75 : decode cX12_lot 75 = .ok (.baload, 1) := by decide +kernel
theorem dX12_lot_76 : decode cX12_lot 76 = .ok (.ifCond .eq 7, 3) := by decide +kernel
theorem dX12_lot_79 : decode cX12_lot 79 = .ok (.iconst 1, 1) := by decide +kernel
theorem dX12_lot_80 : decode cX12_lot 80 = .ok (.goto 13, 3) := by decide +kernel
theorem dX12_lot_83 : decode cX12_lot 83 = .ok (.iconst 0, 1) := by decide +kernel
theorem dX12_lot_84 : decode cX12_lot 84 = .ok (.goto 9, 3) := by decide +kernel
theorem dX12_lot_87 : decode cX12_lot 87 = .ok (.aload_n 0, 1) := by decide +kernel
theorem dX12_lot_88 : decode cX12_lot 88 = .ok (.getfield 32, 3) := by decide +kernel
theorem dX12_lot_91 : decode cX12_lot 91 = .ok (.iload_n 1, 1) := by decide +kernel
theorem dX12_lot_92 : decode cX12_lot 92 = .ok (.iaload, 1) := by decide +kernel
theorem dX12_lot_93 : decode cX12_lot 93 = .ok (.ireturn, 1) := by decide +kernel
set_option maxRecDepth 20000 in
theorem ggX12_batch_X12_isRecord : GoodIn wsX12_batch wsX12_isRecord := goodIn_r _ [15, 16, 17, 18, 14, 19, 20, 21, 22, 23, 24, 25, 26, 27, 28, 29, 30, 31, 32, 33, 34, 35, 36, 37, 38, 39, 40, 41, 42, 43, 44, 45, 46, 47, 48, 49, 50, 51, 52, 53, 54, 55, 56, 57, 58, 59, 60, 61, 62, 63, 64, 65, 66, 67, 68, 69] (by decide +kernel) (by decide +kernel)
set_option maxRecDepth 20000 in
theorem gX12_batch_X12_isRecord : GoodIn wsX12_batch (wsV RX12 171 RX12 yX12_isRecord wsX12_isRecord) := goodIn_app (goodIn_of _ (by decide +kernel)) ggX12_batch_X12_isRecord
set_option maxRecDepth 20000 in
theorem ggX12_batch_X12_in : GoodIn wsX12_batch wsX12_in := goodIn_r _ [19] (by decide +kernel) (by decide +kernel)
set_option maxRecDepth 20000 in
theorem gX12_batch_X12_in : GoodIn wsX12_batch (va_wsS RX12 123 yX12_in wsX12_in) := goodIn_app (goodIn_of _ (by decide +kernel)) ggX12_batch_X12_in
theorem dX12_batch_0 : decode cX12_batch 0 = .ok (.aload_n 0, 1) := by decide +kernel
theorem dX12_batch_1 : decode cX12_batch 1 = .ok (.iload_n 1, 1) := by decide +kernel
theorem dX12_batch_2 : decode cX12_batch 2 = .ok (.invokevirtual 171, 3) := by decide +kernel
theorem dX12_batch_5 : decode cX12_batch 5 = .ok (.ifCond .ne 5, 3) := by decide +kernel
theorem dX12_batch_8 : decode cX12_batch 8 = .ok (.iconst (-1), 1) := by decide +kernel
theorem dX12_batch_9 : decode cX12_batch 9 = .ok (.ireturn, 1) := by decide +kernel
theorem dX12_batch_10 : decode cX12_batch 10 = .ok (.iload_n 2, 1) := by decide +kernel
theorem dX12_batch_11 : decode cX12_batch 11 = .ok (.ifCond .lt 17, 3) := by decide +kernel
theorem dX12_batch_14 : decode cX12_batch 14 = .ok (.iload_n 2, 1) := by decide +kernel
theorem dX12_batch_15 : decode cX12_batch 15 = .ok (.i2l, 1) := by decide +kernel
theorem dX12_batch_16 : decode cX12_batch 16 = .ok (.ldc2_w 231, 3) := by decide +kernel
theorem dX12_batch_19 : decode cX12_batch 19 = .ok (.ldc2_w 233, 3) := by decide +kernel
theorem dX12_batch_22 : decode cX12_batch 22 = .ok (.invokestatic 123, 3) := by decide +kernel
theorem dX12_batch_25 : decode cX12_batch 25 = .ok (.ifCond .eq 6, 3) := by decide +kernel
theorem dX12_batch_28 : decode cX12_batch 28 = .ok (.bipush (-2), 2) := by decide +kernel
theorem dX12_batch_30 : decode cX12_batch 30 = .ok (.ireturn, 1) := by decide +kernel
theorem dX12_batch_31 : decode cX12_batch 31 = .ok (.aload_n 0, 1) := by decide +kernel
theorem dX12_batch_32 : decode cX12_batch 32 = .ok (.getfield 7, 3) := by decide +kernel
theorem dX12_batch_35 : decode cX12_batch 35 = .ok (.iload_n 1, 1) := by decide +kernel
theorem dX12_batch_36 : decode cX12_batch 36 = .ok (.iaload, 1) := by decide +kernel
theorem dX12_batch_37 : decode cX12_batch 37 = .ok (.iconst 2, 1) := by decide +kernel
theorem dX12_batch_38 : decode cX12_batch 38 = .ok (.if_icmp .eq 6, 3) := by decide +kernel
theorem dX12_batch_41 : decode cX12_batch 41 = .ok (.bipush (-5), 2) := by decide +kernel
theorem dX12_batch_43 : decode cX12_batch 43 = .ok (.ireturn, 1) := by decide +kernel
theorem dX12_batch_44 : decode cX12_batch 44 = .ok (.iload_n 2, 1) := by decide +kernel
theorem dX12_batch_45 : decode cX12_batch 45 = .ok (.iconst 4, 1) := by decide +kernel
theorem dX12_batch_46 : decode cX12_batch 46 = .ok (.if_icmp .ge 51, 3) := by decide +kernel
theorem dX12_batch_49 : decode cX12_batch 49 = .ok (.iload_n 2, 1) := by decide +kernel
theorem dX12_batch_50 : decode cX12_batch 50 = .ok (.ifCond .ne 12, 3) := by decide +kernel
theorem dX12_batch_53 : decode cX12_batch 53 = .ok (.aload_n 0, 1) := by decide +kernel
theorem dX12_batch_54 : decode cX12_batch 54 = .ok (.getfield 42, 3) := by decide +kernel
theorem dX12_batch_57 : decode cX12_batch 57 = .ok (.iload_n 1, 1) := by decide +kernel
theorem dX12_batch_58 : decode cX12_batch 58 = .ok (.iaload, 1) := by decide +kernel
theorem dX12_batch_59 : decode cX12_batch 59 = .ok (.goto 37, 3) := by decide +kernel
theorem dX12_batch_62 : decode cX12_batch 62 = .ok (.iload_n 2, 1) := by decide +kernel
theorem dX12_batch_63 : decode cX12_batch 63 = .ok (.iconst 1, 1) := by decide +kernel
theorem dX12_batch_64 : decode cX12_batch 64 = .ok (.if_icmp .ne 12, 3) := by decide +kernel
theorem dX12_batch_67 : decode cX12_batch 67 = .ok (.aload_n 0, 1) := by decide +kernel
theorem dX12_batch_68 : decode cX12_batch 68 = .ok (.getfield 45, 3) := by decide +kernel
theorem dX12_batch_71 : decode cX12_batch 71 = .ok (.iload_n 1, 1) := by decide +kernel
theorem dX12_batch_72 : decode cX12_batch 72 = .ok (.iaload, 1) := by decide +kernel
theorem dX12_batch_73 : decode cX12_batch 73 = .ok (.goto 23, 3) := by decide +kernel
theorem dX12_batch_76 : decode cX12_batch 76 = .ok (.iload_n 2, 1) := by decide +kernel
theorem dX12_batch_77 : decode cX12_batch 77 = .ok (.iconst 2, 1) := by decide +kernel
theorem dX12_batch_78 : decode cX12_batch 78 = .ok (.if_icmp .ne 12, 3) := by decide +kernel
theorem dX12_batch_81 : decode cX12_batch 81 = .ok (.aload_n 0, 1) := by decide +kernel
theorem dX12_batch_82 : decode cX12_batch 82 = .ok (.getfield 48, 3) := by decide +kernel
theorem dX12_batch_85 : decode cX12_batch 85 = .ok (.iload_n 1, 1) := by decide +kernel
theorem dX12_batch_86 : decode cX12_batch 86 = .ok (.iaload, 1) := by decide +kernel
theorem dX12_batch_87 : decode cX12_batch 87 = .ok (.goto 9, 3) := by decide +kernel
theorem dX12_batch_90 : decode cX12_batch 90 = .ok (.aload_n 0, 1) := by decide +kernel
theorem dX12_batch_91 : decode cX12_batch 91 = .ok (.getfield 54, 3) := by decide +kernel
theorem dX12_batch_94 : decode cX12_batch 94 = .ok (.iload_n 1, 1) := by decide +kernel
theorem dX12_batch_95 : decode cX12_batch 95 = .ok (.iaload, 1) := by decide +kernel
theorem dX12_batch_96 : decode cX12_batch 96 = .ok (.ireturn, 1) := by decide +kernel
theorem dX12_batch_97 : decode cX12_batch 97 = .ok (.iload_n 2, 1) := by decide +kernel
theorem dX12_batch_98 : decode cX12_batch 98 = .ok (.bipush 10, 2) := by decide +kernel
theorem dX12_batch_100 : decode cX12_batch 100 = .ok (.isub, 1) := by decide +kernel
theorem dX12_batch_101 : decode cX12_batch 101 = .ok (.iconst 2, 1) := by decide +kernel
theorem dX12_batch_102 : decode cX12_batch 102 = .ok (.idiv, 1) := by decide +kernel
theorem dX12_batch_103 : decode cX12_batch 103 = .ok (.istore_n 3, 1) := by decide +kernel
theorem dX12_batch_104 : decode cX12_batch 104 = .ok (.iload_n 3, 1) := by decide +kernel
theorem dX12_batch_105 : decode cX12_batch 105 = .ok (.aload_n 0, 1) := by decide +kernel
theorem dX12_batch_106 : decode cX12_batch 106 = .ok (.getfield 54, 3) := by decide +kernel
theorem dX12_batch_109 : decode cX12_batch 109 = .ok (.iload_n 1, 1) := by decide +kernel
theorem dX12_batch_110 : decode cX12_batch 110 = .ok (.iaload, 1) := by decide +kernel
theorem dX12_batch_111 : decode cX12_batch 111 = .ok (.if_icmp .lt 6, 3) := by decide +kernel
theorem dX12_batch_114 : decode cX12_batch 114 = .ok (.bipush (-6), 2) := by decide +kernel
theorem dX12_batch_116 : decode cX12_batch 116 = .ok (.ireturn, 1) := by decide +kernel
theorem dX12_batch_117 : decode cX12_batch 117 = .ok (.iload_n 2, 1) := by decide +kernel
theorem dX12_batch_118 : decode cX12_batch 118 = .ok (.iconst 2, 1) := by decide +kernel
theorem dX12_batch_119 : decode cX12_batch 119 = .ok (.irem, 1) := by decide +kernel
theorem dX12_batch_120 : decode cX12_batch 120 = .ok (.ifCond .ne 19, 3) := by decide +kernel
theorem dX12_batch_123 : decode cX12_batch 123 = .ok (.aload_n 0, 1) := by decide +kernel
theorem dX12_batch_124 : decode cX12_batch 124 = .ok (.getfield 57, 3) := by decide +kernel
theorem dX12_batch_127 : decode cX12_batch 127 = .ok (.aload_n 0, 1) := by decide +kernel
theorem dX12_batch_128 : decode cX12_batch 128 = .ok (.getfield 51, 3) := by decide +kernel
theorem dX12_batch_131 : decode cX12_batch 131 = .ok (.iload_n 1, 1) := by decide +kernel
theorem dX12_batch_132 : decode cX12_batch 132 = .ok (.iaload, 1) := by decide +kernel
theorem dX12_batch_133 : decode cX12_batch 133 = .ok (.iload_n 3, 1) := by decide +kernel
theorem dX12_batch_134 : decode cX12_batch 134 = .ok (.iadd, 1) := by decide +kernel
theorem dX12_batch_135 : decode cX12_batch 135 = .ok (.iaload, 1) := by decide +kernel
theorem dX12_batch_136 : decode cX12_batch 136 = .ok (.goto 16, 3) := by decide +kernel
theorem dX12_batch_139 : decode cX12_batch 139 = .ok (.aload_n 0, 1) := by decide +kernel
theorem dX12_batch_140 : decode cX12_batch 140 = .ok (.getfield 60, 3) := by decide +kernel
theorem dX12_batch_143 : decode cX12_batch 143 = .ok (.aload_n 0, 1) := by decide +kernel
theorem dX12_batch_144 : decode cX12_batch 144 = .ok (.getfield 51, 3) := by decide +kernel
theorem dX12_batch_147 : decode cX12_batch 147 = .ok (.iload_n 1, 1) := by decide +kernel
theorem dX12_batch_148 : decode cX12_batch 148 = .ok (.iaload, 1) := by decide +kernel
theorem dX12_batch_149 : decode cX12_batch 149 = .ok (.iload_n 3, 1) := by decide +kernel
theorem dX12_batch_150 : decode cX12_batch 150 = .ok (.iadd, 1) := by decide +kernel
theorem dX12_batch_151 : decode cX12_batch 151 = .ok (.iaload, 1) := by decide +kernel
theorem dX12_batch_152 : decode cX12_batch 152 = .ok (.ireturn, 1) := by decide +kernel
set_option maxRecDepth 20000 in
theorem ggX12_found_X12_isRecord : GoodIn wsX12_found wsX12_isRecord := goodIn_r _ [8, 9, 10, 11, 7, 12, 13, 14, 15, 16, 17, 18, 19, 20, 21, 22, 23, 24, 25, 26, 27, 28, 29, 30, 31, 32, 33, 34, 35, 36, 37, 38, 39, 40, 41, 42, 43, 44, 45, 46, 47, 48, 49, 50, 51, 52, 53, 54, 55, 56, 57, 58, 59, 60, 61, 62] (by decide +kernel) (by decide +kernel)
set_option maxRecDepth 20000 in
theorem gX12_found_X12_isRecord : GoodIn wsX12_found (wsV RX12 171 RX12 yX12_isRecord wsX12_isRecord) := goodIn_app (goodIn_of _ (by decide +kernel)) ggX12_found_X12_isRecord
set_option maxRecDepth 20000 in
theorem ggX12_found_X12_in : GoodIn wsX12_found wsX12_in := goodIn_r _ [12] (by decide +kernel) (by decide +kernel)
set_option maxRecDepth 20000 in
theorem gX12_found_X12_in : GoodIn wsX12_found (va_wsS RX12 123 yX12_in wsX12_in) := goodIn_app (goodIn_of _ (by decide +kernel)) ggX12_found_X12_in
theorem dX12_found_0 : decode cX12_found 0 = .ok (.aload_n 0, 1) := by decide +kernel
theorem dX12_found_1 : decode cX12_found 1 = .ok (.iload_n 1, 1) := by decide +kernel
theorem dX12_found_2 : decode cX12_found 2 = .ok (.invokevirtual 171, 3) := by decide +kernel
theorem dX12_found_5 : decode cX12_found 5 = .ok (.ifCond .ne 5, 3) := by decide +kernel
theorem dX12_found_8 : decode cX12_found 8 = .ok (.iconst (-1), 1) := by decide +kernel
theorem dX12_found_9 : decode cX12_found 9 = .ok (.ireturn, 1) := by decide +kernel
theorem dX12_found_10 : decode cX12_found 10 = .ok (.iload_n 2, 1) := by decide +kernel
theorem dX12_found_11 : decode cX12_found 11 = .ok (.i2l, 1) := by decide +kernel
theorem dX12_found_12 : decode cX12_found 12 = .ok (.lconst 0, 1) := by decide +kernel
theorem dX12_found_13 : decode cX12_found 13 = .ok (.ldc2_w 195, 3) := by decide +kernel
theorem dX12_found_16 : decode cX12_found 16 = .ok (.invokestatic 123, 3) := by decide +kernel
theorem dX12_found_19 : decode cX12_found 19 = .ok (.ifCond .ne 6, 3) := by decide +kernel
theorem dX12_found_22 : decode cX12_found 22 = .ok (.bipush (-2), 2) := by decide +kernel
theorem dX12_found_24 : decode cX12_found 24 = .ok (.ireturn, 1) := by decide +kernel
theorem dX12_found_25 : decode cX12_found 25 = .ok (.aload_n 0, 1) := by decide +kernel
theorem dX12_found_26 : decode cX12_found 26 = .ok (.getfield 7, 3) := by decide +kernel
theorem dX12_found_29 : decode cX12_found 29 = .ok (.iload_n 1, 1) := by decide +kernel
theorem dX12_found_30 : decode cX12_found 30 = .ok (.iaload, 1) := by decide +kernel
theorem dX12_found_31 : decode cX12_found 31 = .ok (.iconst 3, 1) := by decide +kernel
theorem dX12_found_32 : decode cX12_found 32 = .ok (.if_icmp .ne 17, 3) := by decide +kernel
theorem dX12_found_35 : decode cX12_found 35 = .ok (.aload_n 0, 1) := by decide +kernel
theorem dX12_found_36 : decode cX12_found 36 = .ok (.getfield 63, 3) := by decide +kernel
theorem dX12_found_39 : decode cX12_found 39 = .ok (.bipush 6, 2) := by decide +kernel
theorem dX12_found_41 : decode cX12_found 41 = .ok (.iload_n 1, 1) := by decide +kernel
theorem dX12_found_42 : decode cX12_found 42 = .ok (.imul, 1) := by decide +kernel
theorem dX12_found_43 : decode cX12_found 43 = .ok (.iload_n 2, 1) := by decide +kernel
theorem dX12_found_44 : decode cX12_found 44 = .ok (.iadd, 1) := by decide +kernel
theorem dX12_found_45 : decode cX12_found 45 = .ok (.iaload, 1) := by decide +kernel
theorem dX12_found_46 : decode cX12_found 46 = .ok (.goto 5, 3) := by decide +kernel
theorem dX12_found_49 : decode cX12_found 49 = .ok (.bipush (-5), 2) := by decide +kernel
theorem dX12_found_51 : decode cX12_found 51 = .ok (.ireturn, 1) := by decide +kernel
theorem dX12_manyOf_0 : decode cX12_manyOf 0 = .ok (.iconst 0, 1) := by decide +kernel
theorem dX12_manyOf_1 : decode cX12_manyOf 1 = .ok (.istore_n 3, 1) := by decide +kernel
theorem dX12_manyOf_2 : decode cX12_manyOf 2 = .ok (.iconst 0, 1) := by decide +kernel
theorem dX12_manyOf_3 : decode cX12_manyOf 3 = .ok (.istore 4, 2) := by decide +kernel
theorem dX12_manyOf_5 : decode cX12_manyOf 5 = .ok (.iload 4, 2) := by decide +kernel
theorem dX12_manyOf_7 : decode cX12_manyOf 7 = .ok (.aload_n 0, 1) := by decide +kernel
theorem dX12_manyOf_8 : decode cX12_manyOf 8 = .ok (.getfield 127, 3) := by decide +kernel
theorem dX12_manyOf_11 : decode cX12_manyOf 11 = .ok (.if_icmp .ge 39, 3) := by decide +kernel
theorem dX12_manyOf_14 : decode cX12_manyOf 14 = .ok (.iload_n 3, 1) := by decide +kernel
theorem dX12_manyOf_15 : decode cX12_manyOf 15 = .ok (.aload_n 0, 1) := by decide +kernel
theorem dX12_manyOf_16 : decode cX12_manyOf 16 = .ok (.getfield 7, 3) := by decide +kernel
theorem dX12_manyOf_19 : decode cX12_manyOf 19 = .ok (.iload 4, 2) := by decide +kernel
theorem dX12_manyOf_21 : decode cX12_manyOf 21 = .ok (.iaload, 1) := by decide +kernel
theorem dX12_manyOf_22 : decode cX12_manyOf 22 = .ok (.iload_n 1, 1) := by decide +kernel
theorem dX12_manyOf_23 : decode cX12_manyOf 23 = .ok (.if_icmp .ne 18, 3) := by decide +kernel
theorem dX12_manyOf_26 : decode cX12_manyOf 26 = .ok (.aload_n 0, 1) := by decide +kernel
theorem dX12_manyOf_27 : decode cX12_manyOf 27 = .ok (.getfield 19, 3) := by decide +kernel
theorem dX12_manyOf_30 : decode cX12_manyOf 30 = .ok (.iload 4, 2) := by decide +kernel
theorem dX12_manyOf_32 : decode cX12_manyOf 32 = .ok (.iaload, 1) := by decide +kernel
theorem dX12_manyOf_33 : decode cX12_manyOf 33 = .ok (.iload_n 2, 1) := by decide +kernel
theorem dX12_manyOf_34 : decode cX12_manyOf 34 = .ok (.if_icmp .ne 7, 3) := by decide +kernel
theorem dX12_manyOf_37 : decode cX12_manyOf 37 = .ok (.iconst 1, 1) := by decide +kernel
theorem dX12_manyOf_38 : decode cX12_manyOf 38 = .ok (.goto 4, 3) := by decide +kernel
theorem dX12_manyOf_41 : decode cX12_manyOf 41 = .ok (.iconst 0, 1) := by decide +kernel
theorem dX12_manyOf_42 : decode cX12_manyOf 42 = .ok (.iadd, 1) := by decide +kernel
theorem dX12_manyOf_43 : decode cX12_manyOf 43 = .ok (.istore_n 3, 1) := by decide +kernel
theorem dX12_manyOf_44 : decode cX12_manyOf 44 = .ok (.iinc 4 1, 3) := by decide +kernel
theorem dX12_manyOf_47 : decode cX12_manyOf 47 = .ok (.goto (-42), 3) := by decide +kernel
theorem dX12_manyOf_50 : decode cX12_manyOf 50 = .ok (.iload_n 3, 1) := by decide +kernel
theorem dX12_manyOf_51 : decode cX12_manyOf 51 = .ok (.ireturn, 1) := by decide +kernel
set_option maxRecDepth 20000 in
theorem ggX12_about_X12_isBaker : GoodIn wsX12_about wsX12_isBaker := goodIn_r _ [9, 10, 11, 12, 8, 13, 26, 27, 28, 29, 30, 31, 32, 33, 34, 35, 36, 37, 38, 39, 40, 41, 42, 43, 44, 45, 46, 47, 48, 49, 50, 51, 52, 53, 54, 55, 56, 57, 58, 59, 60, 61, 62, 63, 64, 65, 66, 67, 68, 69, 70, 71, 72, 73, 74, 75] (by decide +kernel) (by decide +kernel)
set_option maxRecDepth 20000 in
theorem gX12_about_X12_isBaker : GoodIn wsX12_about (wsV RX12 159 RX12 yX12_isBaker wsX12_isBaker) := goodIn_app (goodIn_of _ (by decide +kernel)) ggX12_about_X12_isBaker
set_option maxRecDepth 20000 in
theorem ggX12_about_X12_flourOf : GoodIn wsX12_about wsX12_flourOf := goodIn_r _ [17, 18, 19, 20, 21, 26, 27, 28, 29, 30, 31, 32, 33, 34, 35, 36, 37, 38, 39, 40, 41, 42, 43, 44, 45, 46, 47, 48, 49, 50, 51, 52, 53, 54, 55, 56, 57, 58, 59, 60, 61, 62, 63, 64, 65, 66, 67, 68, 69, 70, 71, 72, 73, 74, 75] (by decide +kernel) (by decide +kernel)
set_option maxRecDepth 20000 in
theorem gX12_about_X12_flourOf : GoodIn wsX12_about (wsV RX12 210 RX12 yX12_flourOf wsX12_flourOf) := goodIn_app (goodIn_of _ (by decide +kernel)) ggX12_about_X12_flourOf
set_option maxRecDepth 20000 in
theorem ggX12_about_X12_manyOf : GoodIn wsX12_about wsX12_manyOf := goodIn_r _ [25, 18, 19, 20, 26, 27, 28, 29, 30, 31, 32, 33, 34, 35, 36, 37, 38, 39, 40, 41, 42, 43, 44, 45, 46, 47, 48, 49, 50, 51, 52, 53, 54, 55, 56, 57, 58, 59, 60, 61, 62, 63, 64, 65, 66, 67, 68, 69, 70, 71, 72, 73, 74, 75] (by decide +kernel) (by decide +kernel)
set_option maxRecDepth 20000 in
theorem gX12_about_X12_manyOf : GoodIn wsX12_about (wsV RX12 235 RX12 yX12_manyOf wsX12_manyOf) := goodIn_app (goodIn_of _ (by decide +kernel)) ggX12_about_X12_manyOf
end
section
theorem dX12_about_0 : decode cX12_about 0 = .ok (.aload_n 0, 1) := by decide +kernel
theorem dX12_about_1 : decode cX12_about 1 = .ok (.iload_n 1, 1) := by decide +kernel
theorem dX12_about_2 : decode cX12_about 2 = .ok (.invokevirtual 159, 3) := by decide +kernel
theorem dX12_about_5 : decode cX12_about 5 = .ok (.ifCond .ne 5, 3) := by decide +kernel
theorem dX12_about_8 : decode cX12_about 8 = .ok (.iconst (-1), 1) := by decide +kernel
theorem dX12_about_9 : decode cX12_about 9 = .ok (.ireturn, 1) := by decide +kernel
theorem dX12_about_10 : decode cX12_about 10 = .ok (.iload_n 2, 1) := by decide +kernel
theorem dX12_about_11 : decode cX12_about 11 = .ok (.tableswitch 100 0 7 #[45, 51, 58, 65, 72, 79, 86, 93], 45) := by decide +kernel
theorem dX12_about_56 : decode cX12_about 56 = .ok (.aload_n 0, 1) := by decide +kernel
theorem dX12_about_57 : decode cX12_about 57 = .ok (.iload_n 1, 1) := by decide +kernel
theorem dX12_about_58 : decode cX12_about 58 = .ok (.invokevirtual 210, 3) := by decide +kernel
theorem dX12_about_61 : decode cX12_about 61 = .ok (.ireturn, 1) := by decide +kernel
theorem dX12_about_62 : decode cX12_about 62 = .ok (.aload_n 0, 1) := by decide +kernel
theorem dX12_about_63 : decode cX12_about 63 = .ok (.iconst 1, 1) := by decide +kernel
theorem dX12_about_64 : decode cX12_about 64 = .ok (.iload_n 1, 1) := by decide +kernel
theorem dX12_about_65 : decode cX12_about 65 = .ok (.invokevirtual 235, 3) := by decide +kernel
theorem dX12_about_68 : decode cX12_about 68 = .ok (.ireturn, 1) := by decide +kernel
theorem dX12_about_69 : decode cX12_about 69 = .ok (.aload_n 0, 1) := by decide +kernel
theorem dX12_about_70 : decode cX12_about 70 = .ok (.iconst 2, 1) := by decide +kernel
theorem dX12_about_71 : decode cX12_about 71 = .ok (.iload_n 1, 1) := by decide +kernel
theorem dX12_about_72 : decode cX12_about 72 = .ok (.invokevirtual 235, 3) := by decide +kernel
theorem dX12_about_75 : decode cX12_about 75 = .ok (.ireturn, 1) := by decide +kernel
theorem dX12_about_76 : decode cX12_about 76 = .ok (.aload_n 0, 1) := by decide +kernel
theorem dX12_about_77 : decode cX12_about 77 = .ok (.iconst 3, 1) := by decide +kernel
theorem dX12_about_78 : decode cX12_about 78 = .ok (.iload_n 1, 1) := by decide +kernel
theorem dX12_about_79 : decode cX12_about 79 = .ok (.invokevirtual 235, 3) := by decide +kernel
theorem dX12_about_82 : decode cX12_about 82 = .ok (.ireturn, 1) := by decide +kernel
theorem dX12_about_83 : decode cX12_about 83 = .ok (.aload_n 0, 1) := by decide +kernel
theorem dX12_about_84 : decode cX12_about 84 = .ok (.getfield 66, 3) := by decide +kernel
theorem dX12_about_87 : decode cX12_about 87 = .ok (.iload_n 1, 1) := by decide +kernel
theorem dX12_about_88 : decode cX12_about 88 = .ok (.iaload, 1) := by decide +kernel
theorem dX12_about_89 : decode cX12_about 89 = .ok (.ireturn, 1) := by decide +kernel
theorem dX12_about_90 : decode cX12_about 90 = .ok (.aload_n 0, 1) := by decide +kernel
theorem dX12_about_91 : decode cX12_about 91 = .ok (.getfield 69, 3) := by decide +kernel
theorem dX12_about_94 : decode cX12_about 94 = .ok (.iload_n 1, 1) := by decide +kernel
theorem dX12_about_95 : decode cX12_about 95 = .ok (.iaload, 1) := by decide +kernel
theorem dX12_about_96 : decode cX12_about 96 = .ok (.ireturn, 1) := by decide +kernel
theorem dX12_about_97 : decode cX12_about 97 = .ok (.aload_n 0, 1) := by decide +kernel
theorem dX12_about_98 : decode cX12_about 98 = .ok (.getfield 72, 3) := by decide +kernel
theorem dX12_about_101 : decode cX12_about 101 = .ok (.iload_n 1, 1) := by decide +kernel
theorem dX12_about_102 : decode cX12_about 102 = .ok (.iaload, 1) := by decide +kernel
theorem dX12_about_103 : decode cX12_about 103 = .ok (.ireturn, 1) := by decide +kernel
theorem dX12_about_104 : decode cX12_about 104 = .ok (.aload_n 0, 1) := by decide +kernel
theorem dX12_about_105 : decode cX12_about 105 = .ok (.getfield 75, 3) := by decide +kernel
theorem dX12_about_108 : decode cX12_about 108 = .ok (.iload_n 1, 1) := by decide +kernel
theorem dX12_about_109 : decode cX12_about 109 = .ok (.iaload, 1) := by decide +kernel
theorem dX12_about_110 : decode cX12_about 110 = .ok (.ireturn, 1) := by decide +kernel
theorem dX12_about_111 : decode cX12_about 111 = .ok (.bipush (-2), 2) := by decide +kernel
theorem dX12_about_113 : decode cX12_about 113 = .ok (.ireturn, 1) := by decide +kernel
theorem dX12_needOf_0 : decode cX12_needOf 0 = .ok (.aload_n 0, 1) := by decide +kernel
theorem dX12_needOf_1 : decode cX12_needOf 1 = .ok (.getfield 238, 3) := by decide +kernel
theorem dX12_needOf_4 : decode cX12_needOf 4 = .ok (.i2l, 1) := by decide +kernel
theorem dX12_needOf_5 : decode cX12_needOf 5 = .ok (.aload_n 0, 1) := by decide +kernel
theorem dX12_needOf_6 : decode cX12_needOf 6 = .ok (.getfield 108, 3) := by decide +kernel
theorem dX12_needOf_9 : decode cX12_needOf 9 = .ok (.i2l, 1) := by decide +kernel
theorem dX12_needOf_10 : decode cX12_needOf 10 = .ok (.lmul, 1) := by decide +kernel
theorem dX12_needOf_11 : decode cX12_needOf 11 = .ok (.iload_n 1, 1) := by decide +kernel
theorem dX12_needOf_12 : decode cX12_needOf 12 = .ok (.i2l, 1) := by decide +kernel
theorem dX12_needOf_13 : decode cX12_needOf 13 = .ok (.lmul, 1) := by decide +kernel
theorem dX12_needOf_14 : decode cX12_needOf 14 = .ok (.ldc2_w 182, 3) := by decide +kernel
theorem dX12_needOf_17 : decode cX12_needOf 17 = .ok (.ldiv, 1) := by decide +kernel
theorem dX12_needOf_18 : decode cX12_needOf 18 = .ok (.l2i, 1) := by decide +kernel
theorem dX12_needOf_19 : decode cX12_needOf 19 = .ok (.ireturn, 1) := by decide +kernel
set_option maxRecDepth 20000 in
theorem ggX12_store_X12_in : GoodIn wsX12_store wsX12_in := goodIn_r _ [7] (by decide +kernel) (by decide +kernel)
set_option maxRecDepth 20000 in
theorem gX12_store_X12_in : GoodIn wsX12_store (va_wsS RX12 123 yX12_in wsX12_in) := goodIn_app (goodIn_of _ (by decide +kernel)) ggX12_store_X12_in
theorem dX12_store_0 : decode cX12_store 0 = .ok (.iload_n 1, 1) := by decide +kernel
theorem dX12_store_1 : decode cX12_store 1 = .ok (.i2l, 1) := by decide +kernel
theorem dX12_store_2 : decode cX12_store 2 = .ok (.lconst 1, 1) := by decide +kernel
theorem dX12_store_3 : decode cX12_store 3 = .ok (.ldc2_w 241, 3) := by decide +kernel
theorem dX12_store_6 : decode cX12_store 6 = .ok (.invokestatic 123, 3) := by decide +kernel
theorem dX12_store_9 : decode cX12_store 9 = .ok (.ifCond .ne 6, 3) := by decide +kernel
theorem dX12_store_12 : decode cX12_store 12 = .ok (.bipush (-2), 2) := by decide +kernel
theorem dX12_store_14 : decode cX12_store 14 = .ok (.ireturn, 1) := by decide +kernel
theorem dX12_store_15 : decode cX12_store 15 = .ok (.aload_n 0, 1) := by decide +kernel
theorem dX12_store_16 : decode cX12_store 16 = .ok (.getfield 143, 3) := by decide +kernel
theorem dX12_store_19 : decode cX12_store 19 = .ok (.iload_n 1, 1) := by decide +kernel
theorem dX12_store_20 : decode cX12_store 20 = .ok (.iadd, 1) := by decide +kernel
theorem dX12_store_21 : decode cX12_store 21 = .ok (.ldc 149, 2) := by decide +kernel
theorem dX12_store_23 : decode cX12_store 23 = .ok (.if_icmp .le 6, 3) := by decide +kernel
theorem dX12_store_26 : decode cX12_store 26 = .ok (.bipush (-4), 2) := by decide +kernel
theorem dX12_store_28 : decode cX12_store 28 = .ok (.ireturn, 1) := by decide +kernel
theorem dX12_store_29 : decode cX12_store 29 = .ok (.aload_n 0, 1) := by decide +kernel
theorem dX12_store_30 : decode cX12_store 30 = .ok (.dup, 1) := by decide +kernel
theorem dX12_store_31 : decode cX12_store 31 = .ok (.getfield 143, 3) := by decide +kernel
theorem dX12_store_34 : decode cX12_store 34 = .ok (.iload_n 1, 1) := by decide +kernel
theorem dX12_store_35 : decode cX12_store 35 = .ok (.iadd, 1) := by decide +kernel
theorem dX12_store_36 : decode cX12_store 36 = .ok (.putfield 143, 3) := by decide +kernel
theorem dX12_store_39 : decode cX12_store 39 = .ok (.aload_n 0, 1) := by decide +kernel
theorem dX12_store_40 : decode cX12_store 40 = .ok (.getfield 143, 3) := by decide +kernel
theorem dX12_store_43 : decode cX12_store 43 = .ok (.ireturn, 1) := by decide +kernel
set_option maxRecDepth 20000 in
theorem ggX12_mouths_X12_in : GoodIn wsX12_mouths wsX12_in := goodIn_r _ [8] (by decide +kernel) (by decide +kernel)
set_option maxRecDepth 20000 in
theorem gX12_mouths_X12_in : GoodIn wsX12_mouths (va_wsS RX12 123 yX12_in wsX12_in) := goodIn_app (goodIn_of _ (by decide +kernel)) ggX12_mouths_X12_in
theorem dX12_mouths_0 : decode cX12_mouths 0 = .ok (.iload_n 1, 1) := by decide +kernel
theorem dX12_mouths_1 : decode cX12_mouths 1 = .ok (.i2l, 1) := by decide +kernel
theorem dX12_mouths_2 : decode cX12_mouths 2 = .ok (.lconst 0, 1) := by decide +kernel
theorem dX12_mouths_3 : decode cX12_mouths 3 = .ok (.ldc2_w 243, 3) := by decide +kernel
theorem dX12_mouths_6 : decode cX12_mouths 6 = .ok (.invokestatic 123, 3) := by decide +kernel
theorem dX12_mouths_9 : decode cX12_mouths 9 = .ok (.ifCond .eq 15, 3) := by decide +kernel
theorem dX12_mouths_12 : decode cX12_mouths 12 = .ok (.iload_n 2, 1) := by decide +kernel
theorem dX12_mouths_13 : decode cX12_mouths 13 = .ok (.i2l, 1) := by decide +kernel
theorem dX12_mouths_14 : decode cX12_mouths 14 = .ok (.lconst 1, 1) := by decide +kernel
theorem dX12_mouths_15 : decode cX12_mouths 15 = .ok (.ldc2_w 165, 3) := by decide +kernel
theorem dX12_mouths_18 : decode cX12_mouths 18 = .ok (.invokestatic 123, 3) := by decide +kernel
theorem dX12_mouths_21 : decode cX12_mouths 21 = .ok (.ifCond .ne 6, 3) := by decide +kernel
theorem dX12_mouths_24 : decode cX12_mouths 24 = .ok (.bipush (-2), 2) := by decide +kernel
theorem dX12_mouths_26 : decode cX12_mouths 26 = .ok (.ireturn, 1) := by decide +kernel
theorem dX12_mouths_27 : decode cX12_mouths 27 = .ok (.aload_n 0, 1) := by decide +kernel
theorem dX12_mouths_28 : decode cX12_mouths 28 = .ok (.iload_n 1, 1) := by decide +kernel
theorem dX12_mouths_29 : decode cX12_mouths 29 = .ok (.putfield 238, 3) := by decide +kernel
theorem dX12_mouths_32 : decode cX12_mouths 32 = .ok (.aload_n 0, 1) := by decide +kernel
theorem dX12_mouths_33 : decode cX12_mouths 33 = .ok (.iload_n 2, 1) := by decide +kernel
theorem dX12_mouths_34 : decode cX12_mouths 34 = .ok (.putfield 108, 3) := by decide +kernel
theorem dX12_mouths_37 : decode cX12_mouths 37 = .ok (.iconst 1, 1) := by decide +kernel
theorem dX12_mouths_38 : decode cX12_mouths 38 = .ok (.ireturn, 1) := by decide +kernel
set_option maxRecDepth 20000 in
theorem ggX12_ration_X12_in : GoodIn wsX12_ration wsX12_in := goodIn_r _ [6] (by decide +kernel) (by decide +kernel)
set_option maxRecDepth 20000 in
theorem gX12_ration_X12_in : GoodIn wsX12_ration (va_wsS RX12 123 yX12_in wsX12_in) := goodIn_app (goodIn_of _ (by decide +kernel)) ggX12_ration_X12_in
theorem dX12_ration_0 : decode cX12_ration 0 = .ok (.iload_n 1, 1) := by decide +kernel
theorem dX12_ration_1 : decode cX12_ration 1 = .ok (.i2l, 1) := by decide +kernel
theorem dX12_ration_2 : decode cX12_ration 2 = .ok (.lconst 1, 1) := by decide +kernel
theorem dX12_ration_3 : decode cX12_ration 3 = .ok (.ldc2_w 182, 3) := by decide +kernel
theorem dX12_ration_6 : decode cX12_ration 6 = .ok (.invokestatic 123, 3) := by decide +kernel
theorem dX12_ration_9 : decode cX12_ration 9 = .ok (.ifCond .ne 6, 3) := by decide +kernel
theorem dX12_ration_12 : decode cX12_ration 12 = .ok (.bipush (-2), 2) := by decide +kernel
theorem dX12_ration_14 : decode cX12_ration 14 = .ok (.ireturn, 1) := by decide +kernel
theorem dX12_ration_15 : decode cX12_ration 15 = .ok (.aload_n 0, 1) := by decide +kernel
theorem dX12_ration_16 : decode cX12_ration 16 = .ok (.getfield 111, 3) := by decide +kernel
theorem dX12_ration_19 : decode cX12_ration 19 = .ok (.istore_n 2, 1) := by decide +kernel
theorem dX12_ration_20 : decode cX12_ration 20 = .ok (.aload_n 0, 1) := by decide +kernel
theorem dX12_ration_21 : decode cX12_ration 21 = .ok (.iload_n 1, 1) := by decide +kernel
theorem dX12_ration_22 : decode cX12_ration 22 = .ok (.putfield 111, 3) := by decide +kernel
theorem dX12_ration_25 : decode cX12_ration 25 = .ok (.iload_n 2, 1) := by decide +kernel
theorem dX12_ration_26 : decode cX12_ration 26 = .ok (.ireturn, 1) := by decide +kernel
set_option maxRecDepth 20000 in
theorem ggX12_harvest_X12_in : GoodIn wsX12_harvest wsX12_in := goodIn_r _ [10] (by decide +kernel) (by decide +kernel)
set_option maxRecDepth 20000 in
theorem gX12_harvest_X12_in : GoodIn wsX12_harvest (va_wsS RX12 123 yX12_in wsX12_in) := goodIn_app (goodIn_of _ (by decide +kernel)) ggX12_harvest_X12_in
theorem dX12_harvest_0 : decode cX12_harvest 0 = .ok (.iload_n 1, 1) := by decide +kernel
theorem dX12_harvest_1 : decode cX12_harvest 1 = .ok (.i2l, 1) := by decide +kernel
theorem dX12_harvest_2 : decode cX12_harvest 2 = .ok (.lconst 0, 1) := by decide +kernel
theorem dX12_harvest_3 : decode cX12_harvest 3 = .ok (.ldc2_w 189, 3) := by decide +kernel
theorem dX12_harvest_6 : decode cX12_harvest 6 = .ok (.invokestatic 123, 3) := by decide +kernel
theorem dX12_harvest_9 : decode cX12_harvest 9 = .ok (.ifCond .eq 15, 3) := by decide +kernel
theorem dX12_harvest_12 : decode cX12_harvest 12 = .ok (.iload_n 2, 1) := by decide +kernel
theorem dX12_harvest_13 : decode cX12_harvest 13 = .ok (.i2l, 1) := by decide +kernel
theorem dX12_harvest_14 : decode cX12_harvest 14 = .ok (.lconst 1, 1) := by decide +kernel
theorem dX12_harvest_15 : decode cX12_harvest 15 = .ok (.ldc2_w 241, 3) := by decide +kernel
theorem dX12_harvest_18 : decode cX12_harvest 18 = .ok (.invokestatic 123, 3) := by decide +kernel
theorem dX12_harvest_21 : decode cX12_harvest 21 = .ok (.ifCond .ne 6, 3) := by decide +kernel
theorem dX12_harvest_24 : decode cX12_harvest 24 = .ok (.bipush (-2), 2) := by decide +kernel
theorem dX12_harvest_26 : decode cX12_harvest 26 = .ok (.ireturn, 1) := by decide +kernel
theorem dX12_harvest_27 : decode cX12_harvest 27 = .ok (.aload_n 0, 1) := by decide +kernel
theorem dX12_harvest_28 : decode cX12_harvest 28 = .ok (.getfield 146, 3) := by decide +kernel
theorem dX12_harvest_31 : decode cX12_harvest 31 = .ok (.bipush 10, 2) := by decide +kernel
theorem dX12_harvest_33 : decode cX12_harvest 33 = .ok (.if_icmp .ne 6, 3) := by decide +kernel
theorem dX12_harvest_36 : decode cX12_harvest 36 = .ok (.bipush (-4), 2) := by decide +kernel
theorem dX12_harvest_38 : decode cX12_harvest 38 = .ok (.ireturn, 1) := by decide +kernel
theorem dX12_harvest_39 : decode cX12_harvest 39 = .ok (.iload_n 1, 1) := by decide +kernel
theorem dX12_harvest_40 : decode cX12_harvest 40 = .ok (.aload_n 0, 1) := by decide +kernel
theorem dX12_harvest_41 : decode cX12_harvest 41 = .ok (.getfield 130, 3) := by decide +kernel
theorem dX12_harvest_44 : decode cX12_harvest 44 = .ok (.if_icmp .gt 6, 3) := by decide +kernel
theorem dX12_harvest_47 : decode cX12_harvest 47 = .ok (.bipush (-5), 2) := by decide +kernel
theorem dX12_harvest_49 : decode cX12_harvest 49 = .ok (.ireturn, 1) := by decide +kernel
theorem dX12_harvest_50 : decode cX12_harvest 50 = .ok (.aload_n 0, 1) := by decide +kernel
theorem dX12_harvest_51 : decode cX12_harvest 51 = .ok (.getfield 114, 3) := by decide +kernel
theorem dX12_harvest_54 : decode cX12_harvest 54 = .ok (.aload_n 0, 1) := by decide +kernel
theorem dX12_harvest_55 : decode cX12_harvest 55 = .ok (.getfield 146, 3) := by decide +kernel
theorem dX12_harvest_58 : decode cX12_harvest 58 = .ok (.iload_n 1, 1) := by decide +kernel
theorem dX12_harvest_59 : decode cX12_harvest 59 = .ok (.iastore, 1) := by decide +kernel
theorem dX12_harvest_60 : decode cX12_harvest 60 = .ok (.aload_n 0, 1) := by decide +kernel
theorem dX12_harvest_61 : decode cX12_harvest 61 = .ok (.getfield 117, 3) := by decide +kernel
theorem dX12_harvest_64 : decode cX12_harvest 64 = .ok (.aload_n 0, 1) := by decide +kernel
theorem dX12_harvest_65 : decode cX12_harvest 65 = .ok (.getfield 146, 3) := by decide +kernel
theorem dX12_harvest_68 : decode cX12_harvest 68 = .ok (.iload_n 2, 1) := by decide +kernel
theorem dX12_harvest_69 : decode cX12_harvest 69 = .ok (.iastore, 1) := by decide +kernel
theorem dX12_harvest_70 : decode cX12_harvest 70 = .ok (.aload_n 0, 1) := by decide +kernel
theorem dX12_harvest_71 : decode cX12_harvest 71 = .ok (.dup, 1) := by decide +kernel
theorem dX12_harvest_72 : decode cX12_harvest 72 = .ok (.getfield 146, 3) := by decide +kernel
theorem dX12_harvest_75 : decode cX12_harvest 75 = .ok (.iconst 1, 1) := by decide +kernel
theorem dX12_harvest_76 : decode cX12_harvest 76 = .ok (.iadd, 1) := by decide +kernel
theorem dX12_harvest_77 : decode cX12_harvest 77 = .ok (.putfield 146, 3) := by decide +kernel
theorem dX12_harvest_80 : decode cX12_harvest 80 = .ok (.aload_n 0, 1) := by decide +kernel
theorem dX12_harvest_81 : decode cX12_harvest 81 = .ok (.getfield 146, 3) := by decide +kernel
theorem dX12_harvest_84 : decode cX12_harvest 84 = .ok (.ireturn, 1) := by decide +kernel
set_option maxRecDepth 20000 in
theorem ggX12_hungerBy_X12_needOf : GoodIn wsX12_hungerBy wsX12_needOf := goodIn_r _ [11, 12, 13, 14, 15, 16, 17, 18, 19, 20, 21, 22, 23, 24, 25, 26, 27, 28, 29, 30, 31, 32, 33, 34, 35, 36, 37, 38, 39, 40, 41, 42, 43, 44, 45, 46, 47, 48, 49, 50, 51, 52, 53, 54, 55, 56, 57, 58, 59, 60, 61, 62, 63, 64] (by decide +kernel) (by decide +kernel)
set_option maxRecDepth 20000 in
theorem gX12_hungerBy_X12_needOf : GoodIn wsX12_hungerBy (wsV RX12 136 RX12 yX12_needOf wsX12_needOf) := goodIn_app (goodIn_of _ (by decide +kernel)) ggX12_hungerBy_X12_needOf
theorem dX12_hungerBy_0 : decode cX12_hungerBy 0 = .ok (.aload_n 0, 1) := by decide +kernel
theorem dX12_hungerBy_1 : decode cX12_hungerBy 1 = .ok (.iload_n 1, 1) := by decide +kernel
theorem dX12_hungerBy_2 : decode cX12_hungerBy 2 = .ok (.invokevirtual 136, 3) := by decide +kernel
theorem dX12_hungerBy_5 : decode cX12_hungerBy 5 = .ok (.istore_n 3, 1) := by decide +kernel
theorem dX12_hungerBy_6 : decode cX12_hungerBy 6 = .ok (.aload_n 0, 1) := by decide +kernel
theorem dX12_hungerBy_7 : decode cX12_hungerBy 7 = .ok (.getfield 143, 3) := by decide +kernel
theorem dX12_hungerBy_10 : decode cX12_hungerBy 10 = .ok (.istore 4, 2) := by decide +kernel
theorem dX12_hungerBy_12 : decode cX12_hungerBy 12 = .ok (.aload_n 0, 1) := by decide +kernel
theorem dX12_hungerBy_13 : decode cX12_hungerBy 13 = .ok (.getfield 130, 3) := by decide +kernel
theorem dX12_hungerBy_16 : decode cX12_hungerBy 16 = .ok (.istore 5, 2) := by decide +kernel
theorem dX12_hungerBy_18 : decode cX12_hungerBy 18 = .ok (.iload 5, 2) := by decide +kernel
theorem dX12_hungerBy_20 : decode cX12_hungerBy 20 = .ok (.iload_n 2, 1) := by decide +kernel
theorem dX12_hungerBy_21 : decode cX12_hungerBy 21 = .ok (.if_icmp .gt 88, 3) := by decide +kernel
theorem dX12_hungerBy_24 : decode cX12_hungerBy 24 = .ok (.iload 4, 2) := by decide +kernel
theorem dX12_hungerBy_26 : decode cX12_hungerBy 26 = .ok (.iload_n 3, 1) := by decide +kernel
theorem dX12_hungerBy_27 : decode cX12_hungerBy 27 = .ok (.if_icmp .ge 6, 3) := by decide +kernel
theorem dX12_hungerBy_30 : decode cX12_hungerBy 30 = .ok (.iload 5, 2) := by decide +kernel
theorem dX12_hungerBy_32 : decode cX12_hungerBy 32 = .ok (.ireturn, 1) := by decide +kernel
theorem dX12_hungerBy_33 : decode cX12_hungerBy 33 = .ok (.iload 4, 2) := by decide +kernel
theorem dX12_hungerBy_35 : decode cX12_hungerBy 35 = .ok (.iload_n 3, 1) := by decide +kernel
theorem dX12_hungerBy_36 : decode cX12_hungerBy 36 = .ok (.isub, 1) := by decide +kernel
theorem dX12_hungerBy_37 : decode cX12_hungerBy 37 = .ok (.istore 4, 2) := by decide +kernel
theorem dX12_hungerBy_39 : decode cX12_hungerBy 39 = .ok (.iconst 0, 1) := by decide +kernel
theorem dX12_hungerBy_40 : decode cX12_hungerBy 40 = .ok (.istore 6, 2) := by decide +kernel
theorem dX12_hungerBy_42 : decode cX12_hungerBy 42 = .ok (.iload 6, 2) := by decide +kernel
theorem dX12_hungerBy_44 : decode cX12_hungerBy 44 = .ok (.aload_n 0, 1) := by decide +kernel
theorem dX12_hungerBy_45 : decode cX12_hungerBy 45 = .ok (.getfield 146, 3) := by decide +kernel
theorem dX12_hungerBy_48 : decode cX12_hungerBy 48 = .ok (.if_icmp .ge 55, 3) := by decide +kernel
theorem dX12_hungerBy_51 : decode cX12_hungerBy 51 = .ok (.aload_n 0, 1) := by decide +kernel
theorem dX12_hungerBy_52 : decode cX12_hungerBy 52 = .ok (.getfield 114, 3) := by decide +kernel
theorem dX12_hungerBy_55 : decode cX12_hungerBy 55 = .ok (.iload 6, 2) := by decide +kernel
theorem dX12_hungerBy_57 : decode cX12_hungerBy 57 = .ok (.iaload, 1) := by decide +kernel
theorem dX12_hungerBy_58 : decode cX12_hungerBy 58 = .ok (.iload 5, 2) := by decide +kernel
theorem dX12_hungerBy_60 : decode cX12_hungerBy 60 = .ok (.iconst 1, 1) := by decide +kernel
theorem dX12_hungerBy_61 : decode cX12_hungerBy 61 = .ok (.iadd, 1) := by decide +kernel
theorem dX12_hungerBy_62 : decode cX12_hungerBy 62 = .ok (.if_icmp .ne 35, 3) := by decide +kernel
theorem dX12_hungerBy_65 : decode cX12_hungerBy 65 = .ok (.iload 4, 2) := by decide +kernel
theorem dX12_hungerBy_67 : decode cX12_hungerBy 67 = .ok (.aload_n 0, 1) := by decide +kernel
theorem dX12_hungerBy_68 : decode cX12_hungerBy 68 = .ok (.getfield 117, 3) := by decide +kernel
theorem dX12_hungerBy_71 : decode cX12_hungerBy 71 = .ok (.iload 6, 2) := by decide +kernel
theorem dX12_hungerBy_73 : decode cX12_hungerBy 73 = .ok (.iaload, 1) := by decide +kernel
theorem dX12_hungerBy_74 : decode cX12_hungerBy 74 = .ok (.iadd, 1) := by decide +kernel
theorem dX12_hungerBy_75 : decode cX12_hungerBy 75 = .ok (.ldc 149, 2) := by decide +kernel
theorem dX12_hungerBy_77 : decode cX12_hungerBy 77 = .ok (.if_icmp .le 8, 3) := by decide +kernel
theorem dX12_hungerBy_80 : decode cX12_hungerBy 80 = .ok (.ldc 149, 2) := by decide +kernel
theorem dX12_hungerBy_82 : decode cX12_hungerBy 82 = .ok (.goto 13, 3) := by decide +kernel
theorem dX12_hungerBy_85 : decode cX12_hungerBy 85 = .ok (.iload 4, 2) := by decide +kernel
theorem dX12_hungerBy_87 : decode cX12_hungerBy 87 = .ok (.aload_n 0, 1) := by decide +kernel
theorem dX12_hungerBy_88 : decode cX12_hungerBy 88 = .ok (.getfield 117, 3) := by decide +kernel
theorem dX12_hungerBy_91 : decode cX12_hungerBy 91 = .ok (.iload 6, 2) := by decide +kernel
theorem dX12_hungerBy_93 : decode cX12_hungerBy 93 = .ok (.iaload, 1) := by decide +kernel
theorem dX12_hungerBy_94 : decode cX12_hungerBy 94 = .ok (.iadd, 1) := by decide +kernel
theorem dX12_hungerBy_95 : decode cX12_hungerBy 95 = .ok (.istore 4, 2) := by decide +kernel
theorem dX12_hungerBy_97 : decode cX12_hungerBy 97 = .ok (.iinc 6 1, 3) := by decide +kernel
theorem dX12_hungerBy_100 : decode cX12_hungerBy 100 = .ok (.goto (-58), 3) := by decide +kernel
theorem dX12_hungerBy_103 : decode cX12_hungerBy 103 = .ok (.iinc 5 1, 3) := by decide +kernel
theorem dX12_hungerBy_106 : decode cX12_hungerBy 106 = .ok (.goto (-88), 3) := by decide +kernel
theorem dX12_hungerBy_109 : decode cX12_hungerBy 109 = .ok (.bipush (-6), 2) := by decide +kernel
theorem dX12_hungerBy_111 : decode cX12_hungerBy 111 = .ok (.ireturn, 1) := by decide +kernel
set_option maxRecDepth 20000 in
theorem ggX12_foretell_X12_in : GoodIn wsX12_foretell wsX12_in := goodIn_r _ [5] (by decide +kernel) (by decide +kernel)
set_option maxRecDepth 20000 in
theorem gX12_foretell_X12_in : GoodIn wsX12_foretell (va_wsS RX12 123 yX12_in wsX12_in) := goodIn_app (goodIn_of _ (by decide +kernel)) ggX12_foretell_X12_in
set_option maxRecDepth 20000 in
theorem ggX12_foretell_X12_hungerBy : GoodIn wsX12_foretell wsX12_hungerBy := goodIn_r _ [9, 10, 11, 12, 13, 14, 15, 16, 17, 18, 4, 19, 20, 21, 1, 22, 23, 24, 25, 26, 27, 28, 29, 30, 31, 32, 33, 34, 35, 36, 37, 38, 39, 40, 41, 42, 43, 44, 45, 46, 47, 48, 49, 50, 51, 52, 53, 54, 55, 56, 57, 58, 59, 60, 61, 62, 63, 64, 65, 66, 67, 68, 69, 70, 71] (by decide +kernel) (by decide +kernel)
set_option maxRecDepth 20000 in
theorem gX12_foretell_X12_hungerBy : GoodIn wsX12_foretell (wsV RX12 245 RX12 yX12_hungerBy wsX12_hungerBy) := goodIn_app (goodIn_of _ (by decide +kernel)) ggX12_foretell_X12_hungerBy
theorem dX12_foretell_0 : decode cX12_foretell 0 = .ok (.iload_n 1, 1) := by decide +kernel
theorem dX12_foretell_1 : decode cX12_foretell 1 = .ok (.i2l, 1) := by decide +kernel
theorem dX12_foretell_2 : decode cX12_foretell 2 = .ok (.lconst 1, 1) := by decide +kernel
theorem dX12_foretell_3 : decode cX12_foretell 3 = .ok (.ldc2_w 182, 3) := by decide +kernel
theorem dX12_foretell_6 : decode cX12_foretell 6 = .ok (.invokestatic 123, 3) := by decide +kernel
theorem dX12_foretell_9 : decode cX12_foretell 9 = .ok (.ifCond .eq 14, 3) := by decide +kernel
theorem dX12_foretell_12 : decode cX12_foretell 12 = .ok (.aload_n 0, 1) := by decide +kernel
theorem dX12_foretell_13 : decode cX12_foretell 13 = .ok (.iload_n 1, 1) := by decide +kernel
theorem dX12_foretell_14 : decode cX12_foretell 14 = .ok (.sipush 199, 3) := by decide +kernel
theorem dX12_foretell_17 : decode cX12_foretell 17 = .ok (.invokevirtual 245, 3) := by decide +kernel
theorem dX12_foretell_20 : decode cX12_foretell 20 = .ok (.goto 5, 3) := by decide +kernel
theorem dX12_foretell_23 : decode cX12_foretell 23 = .ok (.bipush (-2), 2) := by decide +kernel
theorem dX12_foretell_25 : decode cX12_foretell 25 = .ok (.ireturn, 1) := by decide +kernel
set_option maxRecDepth 20000 in
theorem ggX12_order_X12_in : GoodIn wsX12_order wsX12_in := goodIn_r _ [6] (by decide +kernel) (by decide +kernel)
set_option maxRecDepth 20000 in
theorem gX12_order_X12_in : GoodIn wsX12_order (va_wsS RX12 123 yX12_in wsX12_in) := goodIn_app (goodIn_of _ (by decide +kernel)) ggX12_order_X12_in
set_option maxRecDepth 20000 in
theorem ggX12_order_X12_hungerBy : GoodIn wsX12_order wsX12_hungerBy := goodIn_r _ [10, 11, 1, 12, 13, 14, 15, 16, 17, 18, 5, 19, 20, 21, 22, 23, 24, 25, 26, 27, 28, 29, 30, 31, 32, 33, 34, 35, 36, 37, 38, 39, 40, 41, 42, 43, 44, 45, 46, 47, 48, 49, 50, 51, 52, 53, 54, 55, 56, 57, 58, 59, 60, 61, 62, 63, 64, 65, 66, 67, 68, 69, 70, 71, 72] (by decide +kernel) (by decide +kernel)
set_option maxRecDepth 20000 in
theorem gX12_order_X12_hungerBy : GoodIn wsX12_order (wsV RX12 245 RX12 yX12_hungerBy wsX12_hungerBy) := goodIn_app (goodIn_of _ (by decide +kernel)) ggX12_order_X12_hungerBy
theorem dX12_order_0 : decode cX12_order 0 = .ok (.iload_n 1, 1) := by decide +kernel
theorem dX12_order_1 : decode cX12_order 1 = .ok (.i2l, 1) := by decide +kernel
theorem dX12_order_2 : decode cX12_order 2 = .ok (.aload_n 0, 1) := by decide +kernel
theorem dX12_order_3 : decode cX12_order 3 = .ok (.getfield 130, 3) := by decide +kernel
theorem dX12_order_6 : decode cX12_order 6 = .ok (.i2l, 1) := by decide +kernel
theorem dX12_order_7 : decode cX12_order 7 = .ok (.ldc2_w 189, 3) := by decide +kernel
theorem dX12_order_10 : decode cX12_order 10 = .ok (.invokestatic 123, 3) := by decide +kernel
theorem dX12_order_13 : decode cX12_order 13 = .ok (.ifCond .ne 6, 3) := by decide +kernel
theorem dX12_order_16 : decode cX12_order 16 = .ok (.bipush (-2), 2) := by decide +kernel
theorem dX12_order_18 : decode cX12_order 18 = .ok (.ireturn, 1) := by decide +kernel
theorem dX12_order_19 : decode cX12_order 19 = .ok (.bipush 100, 2) := by decide +kernel
theorem dX12_order_21 : decode cX12_order 21 = .ok (.istore_n 2, 1) := by decide +kernel
theorem dX12_order_22 : decode cX12_order 22 = .ok (.iload_n 2, 1) := by decide +kernel
theorem dX12_order_23 : decode cX12_order 23 = .ok (.ifCond .le 22, 3) := by decide +kernel
theorem dX12_order_26 : decode cX12_order 26 = .ok (.aload_n 0, 1) := by decide +kernel
theorem dX12_order_27 : decode cX12_order 27 = .ok (.iload_n 2, 1) := by decide +kernel
theorem dX12_order_28 : decode cX12_order 28 = .ok (.iload_n 1, 1) := by decide +kernel
theorem dX12_order_29 : decode cX12_order 29 = .ok (.invokevirtual 245, 3) := by decide +kernel
theorem dX12_order_32 : decode cX12_order 32 = .ok (.bipush (-6), 2) := by decide +kernel
theorem dX12_order_34 : decode cX12_order 34 = .ok (.if_icmp .ne 5, 3) := by decide +kernel
theorem dX12_order_37 : decode cX12_order 37 = .ok (.iload_n 2, 1) := by decide +kernel
theorem dX12_order_38 : decode cX12_order 38 = .ok (.ireturn, 1) := by decide +kernel
theorem dX12_order_39 : decode cX12_order 39 = .ok (.iinc 2 (-1), 3) := by decide +kernel
theorem dX12_order_42 : decode cX12_order 42 = .ok (.goto (-20), 3) := by decide +kernel
theorem dX12_order_45 : decode cX12_order 45 = .ok (.bipush (-6), 2) := by decide +kernel
theorem dX12_order_47 : decode cX12_order 47 = .ok (.ireturn, 1) := by decide +kernel
theorem dX12_told_0 : decode cX12_told 0 = .ok (.iload_n 1, 1) := by decide +kernel
theorem dX12_told_1 : decode cX12_told 1 = .ok (.tableswitch 105 0 9 #[55, 60, 65, 70, 75, 80, 85, 90, 95, 100], 55) := by decide +kernel
theorem dX12_told_56 : decode cX12_told 56 = .ok (.aload_n 0, 1) := by decide +kernel
theorem dX12_told_57 : decode cX12_told 57 = .ok (.getfield 130, 3) := by decide +kernel
theorem dX12_told_60 : decode cX12_told 60 = .ok (.ireturn, 1) := by decide +kernel
theorem dX12_told_61 : decode cX12_told 61 = .ok (.aload_n 0, 1) := by decide +kernel
theorem dX12_told_62 : decode cX12_told 62 = .ok (.getfield 133, 3) := by decide +kernel
theorem dX12_told_65 : decode cX12_told 65 = .ok (.ireturn, 1) := by decide +kernel
theorem dX12_told_66 : decode cX12_told 66 = .ok (.aload_n 0, 1) := by decide +kernel
theorem dX12_told_67 : decode cX12_told 67 = .ok (.getfield 120, 3) := by decide +kernel
theorem dX12_told_70 : decode cX12_told 70 = .ok (.ireturn, 1) := by decide +kernel
theorem dX12_told_71 : decode cX12_told 71 = .ok (.aload_n 0, 1) := by decide +kernel
theorem dX12_told_72 : decode cX12_told 72 = .ok (.getfield 197, 3) := by decide +kernel
theorem dX12_told_75 : decode cX12_told 75 = .ok (.ireturn, 1) := by decide +kernel
theorem dX12_told_76 : decode cX12_told 76 = .ok (.aload_n 0, 1) := by decide +kernel
theorem dX12_told_77 : decode cX12_told 77 = .ok (.getfield 127, 3) := by decide +kernel
theorem dX12_told_80 : decode cX12_told 80 = .ok (.ireturn, 1) := by decide +kernel
theorem dX12_told_81 : decode cX12_told 81 = .ok (.aload_n 0, 1) := by decide +kernel
theorem dX12_told_82 : decode cX12_told 82 = .ok (.getfield 177, 3) := by decide +kernel
theorem dX12_told_85 : decode cX12_told 85 = .ok (.ireturn, 1) := by decide +kernel
theorem dX12_told_86 : decode cX12_told 86 = .ok (.aload_n 0, 1) := by decide +kernel
theorem dX12_told_87 : decode cX12_told 87 = .ok (.getfield 143, 3) := by decide +kernel
theorem dX12_told_90 : decode cX12_told 90 = .ok (.ireturn, 1) := by decide +kernel
theorem dX12_told_91 : decode cX12_told 91 = .ok (.aload_n 0, 1) := by decide +kernel
theorem dX12_told_92 : decode cX12_told 92 = .ok (.getfield 140, 3) := by decide +kernel
theorem dX12_told_95 : decode cX12_told 95 = .ok (.ireturn, 1) := by decide +kernel
theorem dX12_told_96 : decode cX12_told 96 = .ok (.aload_n 0, 1) := by decide +kernel
theorem dX12_told_97 : decode cX12_told 97 = .ok (.getfield 111, 3) := by decide +kernel
theorem dX12_told_100 : decode cX12_told 100 = .ok (.ireturn, 1) := by decide +kernel
theorem dX12_told_101 : decode cX12_told 101 = .ok (.aload_n 0, 1) := by decide +kernel
theorem dX12_told_102 : decode cX12_told 102 = .ok (.getfield 146, 3) := by decide +kernel
theorem dX12_told_105 : decode cX12_told 105 = .ok (.ireturn, 1) := by decide +kernel
theorem dX12_told_106 : decode cX12_told 106 = .ok (.bipush (-2), 2) := by decide +kernel
theorem dX12_told_108 : decode cX12_told 108 = .ok (.ireturn, 1) := by decide +kernel
theorem dJ9_max_7cf53_0 : decode cJ9_max_7cf53 0 = .ok (.iload_n 0, 1) := by decide +kernel
theorem dJ9_max_7cf53_1 : decode cJ9_max_7cf53 1 = .ok (.iload_n 1, 1) := by decide +kernel
theorem dJ9_max_7cf53_2 : decode cJ9_max_7cf53 2 = .ok (.if_icmp .lt 7, 3) := by decide +kernel
theorem dJ9_max_7cf53_5 : decode cJ9_max_7cf53 5 = .ok (.iload_n 0, 1) := by decide +kernel
theorem dJ9_max_7cf53_6 : decode cJ9_max_7cf53 6 = .ok (.goto 4, 3) := by decide +kernel
theorem dJ9_max_7cf53_9 : decode cJ9_max_7cf53 9 = .ok (.iload_n 1, 1) := by decide +kernel
theorem dJ9_max_7cf53_10 : decode cJ9_max_7cf53 10 = .ok (.ireturn, 1) := by decide +kernel
theorem dJ9_min_7cf53_0 : decode cJ9_min_7cf53 0 = .ok (.iload_n 0, 1) := by decide +kernel
theorem dJ9_min_7cf53_1 : decode cJ9_min_7cf53 1 = .ok (.iload_n 1, 1) := by decide +kernel
theorem dJ9_min_7cf53_2 : decode cJ9_min_7cf53 2 = .ok (.if_icmp .gt 7, 3) := by decide +kernel
theorem dJ9_min_7cf53_5 : decode cJ9_min_7cf53 5 = .ok (.iload_n 0, 1) := by decide +kernel
theorem dJ9_min_7cf53_6 : decode cJ9_min_7cf53 6 = .ok (.goto 4, 3) := by decide +kernel
theorem dJ9_min_7cf53_9 : decode cJ9_min_7cf53 9 = .ok (.iload_n 1, 1) := by decide +kernel
theorem dJ9_min_7cf53_10 : decode cJ9_min_7cf53 10 = .ok (.ireturn, 1) := by decide +kernel
set_option maxRecDepth 20000 in
theorem ggL_law_X11_init : GoodIn wsL_law wsX11_init := goodIn_r _ [8, 9, 10, 11, 12, 13, 14, 15, 16, 17, 18, 19, 20, 21, 22, 23, 24, 25, 26, 27, 28, 29, 30, 31, 32, 33, 34, 35, 36, 37, 38, 39, 40, 41, 42, 43, 44, 45, 46, 47, 48, 49, 50, 51, 52, 53, 54, 55, 56, 57, 58, 59, 60, 61, 62, 63, 64, 65, 66, 67, 68, 69, 70, 71, 72, 73, 74, 813, 814, 815, 816, 817, 818, 819, 751, 752, 753, 754, 755, 756, 757, 758, 759, 760, 761, 762, 820, 821, 822, 823, 824, 825, 826, 827, 828, 829, 830, 831, 832, 833, 834, 835] (by decide +kernel) (by decide +kernel)
set_option maxRecDepth 20000 in
theorem gL_law_X11_init : GoodIn wsL_law (wsX11_init) := ggL_law_X11_init
set_option maxRecDepth 20000 in
theorem ggL_law_X12_init : GoodIn wsL_law wsX12_init := goodIn_r _ [77, 78, 10, 11, 45, 79, 80, 81, 82, 83, 84, 85, 86, 87, 88, 89, 90, 91, 92, 93, 94, 95, 96, 97, 98, 99, 100, 101, 102, 103, 104, 105, 106, 107, 108, 109, 110, 111, 112, 113, 114, 115, 763, 764, 765, 766, 767, 768, 769, 770, 771, 772, 773, 774, 775, 776, 777, 778, 779, 780, 781, 782, 783, 784, 785, 786, 787, 788, 789, 790, 791, 792, 793, 794, 795, 796, 797, 798, 799, 800, 801, 802, 803, 804, 805, 806, 807, 808, 809, 810, 811, 812] (by decide +kernel) (by decide +kernel)
set_option maxRecDepth 20000 in
theorem gL_law_X12_init : GoodIn wsL_law (wsX12_init) := ggL_law_X12_init
set_option maxRecDepth 20000 in
theorem ggL_law_X11_go : GoodIn wsL_law wsX11_go := goodIn_r _ [119, 120, 121, 31, 122, 123, 2, 124, 125, 126, 127, 128, 129, 130, 131, 30, 132, 74, 133, 134, 135, 136, 137, 138, 139, 140, 141, 142, 143, 73, 144, 145, 146, 147, 148, 72, 149, 150, 151, 152, 153, 71, 154, 155, 156, 751, 752, 753, 754, 755, 756, 757, 758, 759, 760, 761, 762, 828, 829, 830, 831, 832, 833, 834, 835] (by decide +kernel) (by decide +kernel)
set_option maxRecDepth 20000 in
theorem gL_law_X11_go : GoodIn wsL_law (wsV RL 13 RX11 yX11_go wsX11_go) := goodIn_app (goodIn_of _ (by decide +kernel)) ggL_law_X11_go
set_option maxRecDepth 20000 in
theorem ggL_law_X12_go : GoodIn wsL_law wsX12_go := goodIn_r _ [160, 161, 162, 163, 164, 165, 166, 5, 167, 168, 169, 170, 171, 113, 172, 173, 174, 114, 115, 175, 176, 177, 178, 179, 180, 112, 181, 763, 764, 765, 766, 767, 768, 769, 770, 771, 772, 773, 774, 775, 776, 777, 778, 779, 780, 781, 782, 783, 784, 785, 786, 787, 788, 789, 790, 791, 792, 793, 794, 795, 796, 797, 798, 799, 800, 801, 802, 803, 804, 805, 806, 807, 808, 809, 810, 811, 812] (by decide +kernel) (by decide +kernel)
set_option maxRecDepth 20000 in
theorem gL_law_X12_go : GoodIn wsL_law (wsV RL 17 RX12 yX12_go wsX12_go) := goodIn_app (goodIn_of _ (by decide +kernel)) ggL_law_X12_go
set_option maxRecDepth 20000 in
theorem ggL_law_X11_baker : GoodIn wsL_law wsX11_baker := goodIn_r _ [185, 186, 33, 32, 187, 188, 27, 189, 190, 191, 10, 11, 192, 193, 194, 26, 195, 196, 197, 751, 752, 753, 754, 755, 756, 757, 758, 759, 760, 761, 762, 836, 837, 838, 839, 840, 841, 842, 843, 824, 825, 826, 827] (by decide +kernel) (by decide +kernel)
set_option maxRecDepth 20000 in
theorem gL_law_X11_baker : GoodIn wsL_law (wsV RL 18 RX11 yX11_baker wsX11_baker) := goodIn_app (goodIn_of _ (by decide +kernel)) ggL_law_X11_baker
set_option maxRecDepth 20000 in
theorem ggL_law_X12_baker : GoodIn wsL_law wsX12_baker := goodIn_r _ [201, 202, 101, 203, 763, 764, 765, 766, 767, 768, 769, 770, 771, 772, 773, 774, 775, 776, 777, 778, 779, 780, 781, 782, 783, 784, 785, 786, 787, 788, 789, 790, 791, 792, 793, 794, 795, 796, 797, 798, 799, 800, 801, 802, 803, 804, 805, 806, 807, 808, 809, 810, 811, 812] (by decide +kernel) (by decide +kernel)
set_option maxRecDepth 20000 in
theorem gL_law_X12_baker : GoodIn wsL_law (wsV RL 22 RX12 yX12_baker wsX12_baker) := goodIn_app (goodIn_of _ (by decide +kernel)) ggL_law_X12_baker
set_option maxRecDepth 20000 in
theorem ggL_law_X11_buy : GoodIn wsL_law wsX11_buy := goodIn_r _ [207, 208, 15, 209, 210, 211, 212, 120, 19, 213, 214, 215, 216, 217, 218, 2, 219, 186, 33, 122, 123, 124, 220, 221, 222, 14, 223, 224, 225, 226, 227, 228, 229, 230, 231, 232, 233, 234, 10, 11, 235, 236, 237, 238, 239, 240, 241, 242, 42, 243, 244, 245, 246, 18, 247, 53, 248, 54, 249, 250, 251, 252, 253, 254, 751, 752, 753, 754, 755, 756, 757, 758, 759, 760, 761, 762, 844, 845, 846, 847, 848, 849, 850, 851, 813, 814, 815, 816, 817, 818, 819, 836, 837, 838, 839, 840, 841, 842, 843, 852, 853, 854, 855, 856, 857, 858, 859, 860, 861, 862, 863, 864, 865, 866, 867, 868, 869, 870, 820, 821] (by decide +kernel) (by decide +kernel)
set_option maxRecDepth 20000 in
theorem gL_law_X11_buy : GoodIn wsL_law (wsV RL 23 RX11 yX11_buy wsX11_buy) := goodIn_app (goodIn_of _ (by decide +kernel)) ggL_law_X11_buy
set_option maxRecDepth 20000 in
theorem ggL_law_X12_buy : GoodIn wsL_law wsX12_buy := goodIn_r _ [258, 259, 260, 261, 83, 84, 262, 263, 264, 5, 265, 202, 165, 166, 167, 266, 267, 268, 269, 79, 80, 162, 81, 163, 82, 763, 764, 765, 766, 767, 768, 769, 770, 771, 772, 773, 774, 775, 776, 777, 778, 779, 780, 781, 782, 783, 784, 785, 786, 787, 788, 789, 790, 791, 792, 793, 794, 795, 796, 797, 798, 799, 800, 801, 802, 803, 804, 805, 806, 807, 808, 809, 810, 811, 812] (by decide +kernel) (by decide +kernel)
set_option maxRecDepth 20000 in
theorem gL_law_X12_buy : GoodIn wsL_law (wsV RL 27 RX12 yX12_buy wsX12_buy) := goodIn_app (goodIn_of _ (by decide +kernel)) ggL_law_X12_buy
set_option maxRecDepth 20000 in
theorem ggL_law_X11_grind : GoodIn wsL_law wsX11_grind := goodIn_r _ [273, 15, 274, 275, 276, 277, 278, 14, 279, 224, 42, 280, 281, 282, 2, 283, 34, 284, 285, 286, 287, 288, 289, 290, 291, 292, 293, 294, 44, 216, 217, 218, 219, 186, 33, 751, 752, 753, 754, 755, 756, 757, 758, 759, 760, 761, 762, 844, 845, 846, 847, 848, 849, 850, 851, 813, 814, 815, 816, 817, 818, 819, 852, 853, 854, 855, 856, 857, 858, 859, 860, 861, 862, 863, 864, 865, 866, 867, 868, 869, 870, 836, 837, 838, 839, 840, 841, 842, 843] (by decide +kernel) (by decide +kernel)
set_option maxRecDepth 20000 in
theorem gL_law_X11_grind : GoodIn wsL_law (wsV RL 28 RX11 yX11_grind wsX11_grind) := goodIn_app (goodIn_of _ (by decide +kernel)) ggL_law_X11_grind
set_option maxRecDepth 20000 in
theorem ggL_law_X12_grind : GoodIn wsL_law wsX12_grind := goodIn_r _ [298, 79, 86, 83, 89, 87, 88, 299, 300, 301, 302, 303, 5, 304, 261, 165, 166, 167, 763, 764, 765, 766, 767, 768, 769, 770, 771, 772, 773, 774, 775, 776, 777, 778, 779, 780, 781, 782, 783, 784, 785, 786, 787, 788, 789, 790, 791, 792, 793, 794, 795, 796, 797, 798, 799, 800, 801, 802, 803, 804, 805, 806, 807, 808, 809, 810, 811, 812] (by decide +kernel) (by decide +kernel)
set_option maxRecDepth 20000 in
theorem gL_law_X12_grind : GoodIn wsL_law (wsV RL 31 RX12 yX12_grind wsX12_grind) := goodIn_app (goodIn_of _ (by decide +kernel)) ggL_law_X12_grind
set_option maxRecDepth 20000 in
theorem ggL_law_X11_dish : GoodIn wsL_law wsX11_dish := goodIn_r _ [308, 34, 122, 123, 2, 124, 751, 752, 753, 754, 755, 756, 757, 758, 759, 760, 761, 762] (by decide +kernel) (by decide +kernel)
set_option maxRecDepth 20000 in
theorem gL_law_X11_dish : GoodIn wsL_law (wsV RL 32 RX11 yX11_dish wsX11_dish) := goodIn_app (goodIn_of _ (by decide +kernel)) ggL_law_X11_dish
set_option maxRecDepth 20000 in
theorem ggL_law_X12_dish : GoodIn wsL_law wsX12_dish := goodIn_r _ [312, 313, 181, 89, 165, 166, 5, 167, 763, 764, 765, 766, 767, 768, 769, 770, 771, 772, 773, 774, 775, 776, 777, 778, 779, 780, 781, 782, 783, 784, 785, 786, 787, 788, 789, 790, 791, 792, 793, 794, 795, 796, 797, 798, 799, 800, 801, 802, 803, 804, 805, 806, 807, 808, 809, 810, 811, 812] (by decide +kernel) (by decide +kernel)
set_option maxRecDepth 20000 in
theorem gL_law_X12_dish : GoodIn wsL_law (wsV RL 35 RX12 yX12_dish wsX12_dish) := goodIn_app (goodIn_of _ (by decide +kernel)) ggL_law_X12_dish
set_option maxRecDepth 20000 in
theorem ggL_law_X11_price : GoodIn wsL_law wsX11_price := goodIn_r _ [317, 19, 125, 126, 127, 2, 128, 120, 122, 123, 124, 318, 319, 320, 18, 321, 322, 155, 137, 156, 53, 54, 751, 752, 753, 754, 755, 756, 757, 758, 759, 760, 761, 762, 820, 821] (by decide +kernel) (by decide +kernel)
set_option maxRecDepth 20000 in
theorem gL_law_X11_price : GoodIn wsL_law (wsV RL 36 RX11 yX11_price wsX11_price) := goodIn_app (goodIn_of _ (by decide +kernel)) ggL_law_X11_price
set_option maxRecDepth 20000 in
theorem ggL_law_X12_price : GoodIn wsL_law wsX12_price := goodIn_r _ [326, 327, 162, 165, 166, 5, 167, 328, 329, 330, 331, 261, 79, 80, 84, 83, 763, 764, 765, 766, 767, 768, 769, 770, 771, 772, 773, 774, 775, 776, 777, 778, 779, 780, 781, 782, 783, 784, 785, 786, 787, 788, 789, 790, 791, 792, 793, 794, 795, 796, 797, 798, 799, 800, 801, 802, 803, 804, 805, 806, 807, 808, 809, 810, 811, 812] (by decide +kernel) (by decide +kernel)
set_option maxRecDepth 20000 in
theorem gL_law_X12_price : GoodIn wsL_law (wsV RL 39 RX12 yX12_price wsX12_price) := goodIn_app (goodIn_of _ (by decide +kernel)) ggL_law_X12_price
set_option maxRecDepth 20000 in
theorem ggL_law_X11_text : GoodIn wsL_law wsX11_text := goodIn_r _ [335, 23, 336, 337, 338, 339, 340, 122, 123, 2, 124, 341, 342, 343, 22, 344, 345, 346, 347, 348, 349, 10, 11, 350, 351, 352, 45, 353, 354, 355, 356, 357, 358, 359, 60, 360, 751, 752, 753, 754, 755, 756, 757, 758, 759, 760, 761, 762, 871, 872, 873, 874, 875, 876, 877, 822, 823] (by decide +kernel) (by decide +kernel)
set_option maxRecDepth 20000 in
theorem gL_law_X11_text : GoodIn wsL_law (wsV RL 40 RX11 yX11_text wsX11_text) := goodIn_app (goodIn_of _ (by decide +kernel)) ggL_law_X11_text
set_option maxRecDepth 20000 in
theorem ggL_law_X12_text : GoodIn wsL_law wsX12_text := goodIn_r _ [364, 365, 366, 367, 368, 369, 102, 103, 104, 165, 166, 5, 167, 763, 764, 765, 766, 767, 768, 769, 770, 771, 772, 773, 774, 775, 776, 777, 778, 779, 780, 781, 782, 783, 784, 785, 786, 787, 788, 789, 790, 791, 792, 793, 794, 795, 796, 797, 798, 799, 800, 801, 802, 803, 804, 805, 806, 807, 808, 809, 810, 811, 812] (by decide +kernel) (by decide +kernel)
set_option maxRecDepth 20000 in
theorem gL_law_X12_text : GoodIn wsL_law (wsV RL 44 RX12 yX12_text wsX12_text) := goodIn_app (goodIn_of _ (by decide +kernel)) ggL_law_X12_text
set_option maxRecDepth 20000 in
theorem ggL_law_X11_step : GoodIn wsL_law wsX11_step := goodIn_r _ [373, 23, 374, 375, 376, 377, 22, 378, 345, 60, 122, 123, 2, 124, 379, 380, 381, 338, 382, 383, 384, 385, 386, 387, 354, 355, 388, 751, 752, 753, 754, 755, 756, 757, 758, 759, 760, 761, 762, 871, 872, 873, 874, 875, 876, 877, 822, 823] (by decide +kernel) (by decide +kernel)
set_option maxRecDepth 20000 in
theorem gL_law_X11_step : GoodIn wsL_law (wsV RL 45 RX11 yX11_step wsX11_step) := goodIn_app (goodIn_of _ (by decide +kernel)) ggL_law_X11_step
set_option maxRecDepth 20000 in
theorem ggL_law_X12_step : GoodIn wsL_law wsX12_step := goodIn_r _ [392, 369, 260, 107, 105, 106, 165, 166, 5, 167, 763, 764, 765, 766, 767, 768, 769, 770, 771, 772, 773, 774, 775, 776, 777, 778, 779, 780, 781, 782, 783, 784, 785, 786, 787, 788, 789, 790, 791, 792, 793, 794, 795, 796, 797, 798, 799, 800, 801, 802, 803, 804, 805, 806, 807, 808, 809, 810, 811, 812] (by decide +kernel) (by decide +kernel)
set_option maxRecDepth 20000 in
theorem gL_law_X12_step : GoodIn wsL_law (wsV RL 48 RX12 yX12_step wsX12_step) := goodIn_app (goodIn_of _ (by decide +kernel)) ggL_law_X12_step
set_option maxRecDepth 20000 in
theorem ggL_law_X11_inForce : GoodIn wsL_law wsX11_inForce := goodIn_r _ [396, 23, 340, 122, 123, 2, 124, 397, 398, 399, 22, 400, 345, 60, 401, 751, 752, 753, 754, 755, 756, 757, 758, 759, 760, 761, 762, 871, 872, 873, 874, 875, 876, 877, 822, 823] (by decide +kernel) (by decide +kernel)
set_option maxRecDepth 20000 in
theorem gL_law_X11_inForce : GoodIn wsL_law (wsV RL 49 RX11 yX11_inForce wsX11_inForce) := goodIn_app (goodIn_of _ (by decide +kernel)) ggL_law_X11_inForce
set_option maxRecDepth 20000 in
theorem ggL_law_X12_inForce : GoodIn wsL_law wsX12_inForce := goodIn_r _ [405, 365, 165, 166, 5, 167, 406, 407, 408, 409, 369, 102, 763, 764, 765, 766, 767, 768, 769, 770, 771, 772, 773, 774, 775, 776, 777, 778, 779, 780, 781, 782, 783, 784, 785, 786, 787, 788, 789, 790, 791, 792, 793, 794, 795, 796, 797, 798, 799, 800, 801, 802, 803, 804, 805, 806, 807, 808, 809, 810, 811, 812] (by decide +kernel) (by decide +kernel)
set_option maxRecDepth 20000 in
theorem gL_law_X12_inForce : GoodIn wsL_law (wsV RL 52 RX12 yX12_inForce wsX12_inForce) := goodIn_app (goodIn_of _ (by decide +kernel)) ggL_law_X12_inForce
set_option maxRecDepth 20000 in
theorem ggL_law_X11_due : GoodIn wsL_law wsX11_due := goodIn_r _ [413, 23, 125, 126, 127, 2, 128, 120, 122, 123, 124, 397, 398, 399, 22, 400, 345, 60, 401, 414, 415, 416, 417, 19, 318, 319, 320, 18, 321, 322, 155, 137, 156, 53, 54, 418, 419, 420, 338, 421, 353, 422, 423, 424, 425, 383, 354, 355, 751, 752, 753, 754, 755, 756, 757, 758, 759, 760, 761, 762, 822, 823, 871, 872, 873, 874, 875, 876, 877, 820, 821] (by decide +kernel) (by decide +kernel)
set_option maxRecDepth 20000 in
theorem gL_law_X11_due : GoodIn wsL_law (wsV RL 53 RX11 yX11_due wsX11_due) := goodIn_app (goodIn_of _ (by decide +kernel)) ggL_law_X11_due
set_option maxRecDepth 20000 in
theorem ggL_law_X12_due : GoodIn wsL_law wsX12_due := goodIn_r _ [429, 162, 313, 165, 166, 5, 167, 430, 431, 432, 433, 107, 105, 106, 103, 406, 407, 408, 409, 369, 102, 328, 329, 330, 331, 261, 79, 80, 84, 83, 763, 764, 765, 766, 767, 768, 769, 770, 771, 772, 773, 774, 775, 776, 777, 778, 779, 780, 781, 782, 783, 784, 785, 786, 787, 788, 789, 790, 791, 792, 793, 794, 795, 796, 797, 798, 799, 800, 801, 802, 803, 804, 805, 806, 807, 808, 809, 810, 811, 812] (by decide +kernel) (by decide +kernel)
set_option maxRecDepth 20000 in
theorem gL_law_X12_due : GoodIn wsL_law (wsV RL 57 RX12 yX12_due wsX12_due) := goodIn_app (goodIn_of _ (by decide +kernel)) ggL_law_X12_due
set_option maxRecDepth 20000 in
theorem ggL_law_X11_bake : GoodIn wsL_law wsX11_bake := goodIn_r _ [437, 438, 15, 288, 439, 440, 441, 212, 120, 442, 443, 444, 445, 216, 217, 218, 2, 219, 186, 33, 122, 123, 124, 125, 126, 127, 128, 220, 221, 222, 14, 223, 224, 446, 447, 448, 449, 450, 451, 452, 231, 232, 233, 234, 10, 11, 235, 236, 237, 238, 239, 240, 241, 242, 42, 243, 453, 454, 455, 456, 457, 458, 459, 460, 294, 44, 461, 287, 462, 463, 464, 465, 155, 137, 156, 466, 467, 468, 469, 46, 470, 215, 47, 471, 836, 837, 838, 839, 840, 841, 842, 843, 751, 752, 753, 754, 755, 756, 757, 758, 759, 760, 761, 762, 852, 853, 854, 855, 856, 857, 858, 859, 860, 813, 814, 815, 816, 817, 818, 819, 844, 845, 846, 847, 848, 849, 850, 851, 861, 862, 863, 864, 865, 866, 867, 868, 869, 870] (by decide +kernel) (by decide +kernel)
set_option maxRecDepth 20000 in
theorem gL_law_X11_bake : GoodIn wsL_law (wsV RL 58 RX11 yX11_bake wsX11_bake) := goodIn_app (goodIn_of _ (by decide +kernel)) ggL_law_X11_bake
set_option maxRecDepth 20000 in
theorem ggL_law_X12_bake : GoodIn wsL_law wsX12_bake := goodIn_r _ [475, 313, 476, 477, 162, 100, 261, 90, 91, 92, 93, 478, 299, 88, 82, 87, 95, 96, 94, 101, 262, 263, 264, 5, 265, 202, 165, 166, 167, 479, 480, 481, 482, 79, 266, 267, 268, 269, 80, 81, 163, 763, 764, 765, 766, 767, 768, 769, 770, 771, 772, 773, 774, 775, 776, 777, 778, 779, 780, 781, 782, 783, 784, 785, 786, 787, 788, 789, 790, 791, 792, 793, 794, 795, 796, 797, 798, 799, 800, 801, 802, 803, 804, 805, 806, 807, 808, 809, 810, 811, 812] (by decide +kernel) (by decide +kernel)
set_option maxRecDepth 20000 in
theorem gL_law_X12_bake : GoodIn wsL_law (wsV RL 62 RX12 yX12_bake wsX12_bake) := goodIn_app (goodIn_of _ (by decide +kernel)) ggL_law_X12_bake
set_option maxRecDepth 20000 in
theorem ggL_law_X11_search : GoodIn wsL_law wsX11_search := goodIn_r _ [486, 186, 15, 27, 487, 488, 489, 212, 120, 490, 491, 492, 493, 220, 221, 222, 14, 223, 224, 494, 495, 496, 26, 497, 197, 196, 498, 155, 137, 156, 65, 499, 500, 501, 502, 66, 503, 504, 505, 216, 217, 218, 2, 219, 33, 506, 507, 508, 509, 510, 511, 512, 513, 514, 231, 232, 233, 234, 10, 11, 235, 236, 237, 238, 239, 240, 241, 242, 42, 243, 515, 516, 517, 518, 443, 23, 519, 444, 445, 520, 521, 522, 523, 524, 35, 525, 526, 527, 528, 529, 530, 253, 254, 397, 398, 399, 22, 400, 345, 60, 401, 531, 532, 533, 534, 136, 138, 414, 415, 416, 417, 19, 318, 319, 320, 18, 321, 322, 53, 54, 418, 419, 420, 338, 421, 353, 422, 423, 424, 425, 383, 354, 355, 535, 536, 537, 538, 539, 36, 540, 541, 542, 438, 125, 126, 127, 128, 751, 752, 753, 754, 755, 756, 757, 758, 759, 760, 761, 762, 861, 862, 863, 864, 865, 866, 867, 868, 869, 870, 813, 814, 815, 816, 817, 818, 819, 836, 837, 838, 839, 840, 841, 842, 843, 852, 853, 854, 855, 856, 857, 858, 859, 860, 844, 845, 846, 847, 848, 849, 850, 851, 824, 825, 826, 827, 871, 872, 873, 874, 875, 876, 877, 822, 823, 820, 821] (by decide +kernel) (by decide +kernel)
set_option maxRecDepth 20000 in
theorem gL_law_X11_search : GoodIn wsL_law (wsV RL 63 RX11 yX11_search wsX11_search) := goodIn_app (goodIn_of _ (by decide +kernel)) ggL_law_X11_search
set_option maxRecDepth 20000 in
theorem ggL_law_X12_search : GoodIn wsL_law wsX12_search := goodIn_r _ [546, 202, 261, 108, 547, 203, 101, 97, 162, 80, 163, 81, 92, 110, 90, 104, 98, 111, 99, 100, 548, 549, 550, 5, 551, 109, 552, 553, 554, 406, 407, 408, 409, 369, 102, 555, 556, 557, 430, 431, 432, 433, 107, 105, 106, 103, 328, 329, 330, 331, 79, 84, 83, 266, 267, 268, 269, 82, 763, 764, 765, 766, 767, 768, 769, 770, 771, 772, 773, 774, 775, 776, 777, 778, 779, 780, 781, 782, 783, 784, 785, 786, 787, 788, 789, 790, 791, 792, 793, 794, 795, 796, 797, 798, 799, 800, 801, 802, 803, 804, 805, 806, 807, 808, 809, 810, 811, 812] (by decide +kernel) (by decide +kernel)
set_option maxRecDepth 20000 in
theorem gL_law_X12_search : GoodIn wsL_law (wsV RL 66 RX12 yX12_search wsX12_search) := goodIn_app (goodIn_of _ (by decide +kernel)) ggL_law_X12_search
set_option maxRecDepth 20000 in
theorem ggL_law_X11_turn : GoodIn wsL_law wsX11_turn := goodIn_r _ [561, 186, 27, 494, 495, 496, 26, 497, 197, 196, 498, 155, 137, 156, 65, 499, 500, 501, 502, 66, 503, 504, 505, 751, 752, 753, 754, 755, 756, 757, 758, 759, 760, 761, 762, 824, 825, 826, 827] (by decide +kernel) (by decide +kernel)
set_option maxRecDepth 20000 in
theorem gL_law_X11_turn : GoodIn wsL_law (wsV RL 67 RX11 yX11_turn wsX11_turn) := goodIn_app (goodIn_of _ (by decide +kernel)) ggL_law_X11_turn
set_option maxRecDepth 20000 in
theorem ggL_law_X12_turn : GoodIn wsL_law wsX12_turn := goodIn_r _ [565, 202, 108, 547, 203, 548, 549, 550, 5, 551, 109, 552, 553, 554, 763, 764, 765, 766, 767, 768, 769, 770, 771, 772, 773, 774, 775, 776, 777, 778, 779, 780, 781, 782, 783, 784, 785, 786, 787, 788, 789, 790, 791, 792, 793, 794, 795, 796, 797, 798, 799, 800, 801, 802, 803, 804, 805, 806, 807, 808, 809, 810, 811, 812] (by decide +kernel) (by decide +kernel)
set_option maxRecDepth 20000 in
theorem gL_law_X12_turn : GoodIn wsL_law (wsV RL 70 RX12 yX12_turn wsX12_turn) := goodIn_app (goodIn_of _ (by decide +kernel)) ggL_law_X12_turn
set_option maxRecDepth 20000 in
theorem ggL_law_X11_rules : GoodIn wsL_law wsX11_rules := goodIn_r _ [569, 35, 36, 122, 123, 2, 124, 751, 752, 753, 754, 755, 756, 757, 758, 759, 760, 761, 762] (by decide +kernel) (by decide +kernel)
set_option maxRecDepth 20000 in
theorem gL_law_X11_rules : GoodIn wsL_law (wsV RL 71 RX11 yX11_rules wsX11_rules) := goodIn_app (goodIn_of _ (by decide +kernel)) ggL_law_X11_rules
set_option maxRecDepth 20000 in
theorem ggL_law_X12_rules : GoodIn wsL_law wsX12_rules := goodIn_r _ [573, 368, 260, 110, 111, 165, 166, 5, 167, 763, 764, 765, 766, 767, 768, 769, 770, 771, 772, 773, 774, 775, 776, 777, 778, 779, 780, 781, 782, 783, 784, 785, 786, 787, 788, 789, 790, 791, 792, 793, 794, 795, 796, 797, 798, 799, 800, 801, 802, 803, 804, 805, 806, 807, 808, 809, 810, 811, 812] (by decide +kernel) (by decide +kernel)
set_option maxRecDepth 20000 in
theorem gL_law_X12_rules : GoodIn wsL_law (wsV RL 74 RX12 yX12_rules wsX12_rules) := goodIn_app (goodIn_of _ (by decide +kernel)) ggL_law_X12_rules
set_option maxRecDepth 20000 in
theorem ggL_law_X11_record : GoodIn wsL_law wsX11_record := goodIn_r _ [577, 15, 578, 579, 580, 276, 277, 278, 14, 279, 224, 42, 581, 582, 583, 253, 232, 254, 237, 584, 585, 751, 752, 753, 754, 755, 756, 757, 758, 759, 760, 761, 762, 852, 853, 854, 855, 856, 857, 858, 859, 860, 844, 845, 846, 847, 848, 849, 850, 851, 861, 862, 863, 864, 865, 866, 867, 868, 869, 870, 813, 814, 815, 816, 817, 818, 819] (by decide +kernel) (by decide +kernel)
set_option maxRecDepth 20000 in
theorem gL_law_X11_record : GoodIn wsL_law (wsV RL 75 RX11 yX11_record wsX11_record) := goodIn_app (goodIn_of _ (by decide +kernel)) ggL_law_X11_record
set_option maxRecDepth 20000 in
theorem ggL_law_X12_record : GoodIn wsL_law wsX12_record := goodIn_r _ [589, 79, 80, 81, 82, 301, 302, 303, 5, 304, 261, 165, 166, 167, 763, 764, 765, 766, 767, 768, 769, 770, 771, 772, 773, 774, 775, 776, 777, 778, 779, 780, 781, 782, 783, 784, 785, 786, 787, 788, 789, 790, 791, 792, 793, 794, 795, 796, 797, 798, 799, 800, 801, 802, 803, 804, 805, 806, 807, 808, 809, 810, 811, 812] (by decide +kernel) (by decide +kernel)
set_option maxRecDepth 20000 in
theorem gL_law_X12_record : GoodIn wsL_law (wsV RL 78 RX12 yX12_record wsX12_record) := goodIn_app (goodIn_of _ (by decide +kernel)) ggL_law_X12_record
set_option maxRecDepth 20000 in
theorem ggL_law_X11_lot : GoodIn wsL_law wsX11_lot := goodIn_r _ [593, 15, 274, 276, 277, 278, 14, 279, 224, 42, 122, 123, 2, 124, 594, 595, 596, 211, 597, 228, 229, 598, 599, 751, 752, 753, 754, 755, 756, 757, 758, 759, 760, 761, 762, 813, 814, 815, 816, 817, 818, 819, 844, 845, 846, 847, 848, 849, 850, 851] (by decide +kernel) (by decide +kernel)
set_option maxRecDepth 20000 in
theorem gL_law_X11_lot : GoodIn wsL_law (wsV RL 79 RX11 yX11_lot wsX11_lot) := goodIn_app (goodIn_of _ (by decide +kernel)) ggL_law_X11_lot
set_option maxRecDepth 20000 in
theorem ggL_law_X12_lot : GoodIn wsL_law wsX12_lot := goodIn_r _ [603, 604, 79, 83, 84, 86, 87, 301, 302, 303, 5, 304, 261, 165, 166, 167, 763, 764, 765, 766, 767, 768, 769, 770, 771, 772, 773, 774, 775, 776, 777, 778, 779, 780, 781, 782, 783, 784, 785, 786, 787, 788, 789, 790, 791, 792, 793, 794, 795, 796, 797, 798, 799, 800, 801, 802, 803, 804, 805, 806, 807, 808, 809, 810, 811, 812] (by decide +kernel) (by decide +kernel)
set_option maxRecDepth 20000 in
theorem gL_law_X12_lot : GoodIn wsL_law (wsV RL 82 RX12 yX12_lot wsX12_lot) := goodIn_app (goodIn_of _ (by decide +kernel)) ggL_law_X12_lot
set_option maxRecDepth 20000 in
theorem ggL_law_X11_batch : GoodIn wsL_law wsX11_batch := goodIn_r _ [608, 15, 609, 276, 277, 278, 14, 279, 224, 42, 610, 611, 612, 441, 613, 449, 450, 451, 614, 615, 616, 617, 618, 471, 460, 459, 46, 47, 751, 752, 753, 754, 755, 756, 757, 758, 759, 760, 761, 762, 813, 814, 815, 816, 817, 818, 819, 852, 853, 854, 855, 856, 857, 858, 859, 860] (by decide +kernel) (by decide +kernel)
set_option maxRecDepth 20000 in
theorem gL_law_X11_batch : GoodIn wsL_law (wsV RL 83 RX11 yX11_batch wsX11_batch) := goodIn_app (goodIn_of _ (by decide +kernel)) ggL_law_X11_batch
set_option maxRecDepth 20000 in
theorem ggL_law_X12_batch : GoodIn wsL_law wsX12_batch := goodIn_r _ [622, 623, 624, 79, 90, 91, 92, 94, 95, 93, 96, 301, 302, 303, 5, 304, 261, 165, 166, 167, 763, 764, 765, 766, 767, 768, 769, 770, 771, 772, 773, 774, 775, 776, 777, 778, 779, 780, 781, 782, 783, 784, 785, 786, 787, 788, 789, 790, 791, 792, 793, 794, 795, 796, 797, 798, 799, 800, 801, 802, 803, 804, 805, 806, 807, 808, 809, 810, 811, 812] (by decide +kernel) (by decide +kernel)
set_option maxRecDepth 20000 in
theorem gL_law_X12_batch : GoodIn wsL_law (wsV RL 86 RX12 yX12_batch wsX12_batch) := goodIn_app (goodIn_of _ (by decide +kernel)) ggL_law_X12_batch
set_option maxRecDepth 20000 in
theorem ggL_law_X11_found : GoodIn wsL_law wsX11_found := goodIn_r _ [628, 15, 629, 276, 277, 278, 14, 279, 224, 42, 122, 123, 2, 124, 630, 631, 632, 489, 633, 513, 634, 635, 636, 637, 638, 751, 752, 753, 754, 755, 756, 757, 758, 759, 760, 761, 762, 813, 814, 815, 816, 817, 818, 819, 861, 862, 863, 864, 865, 866, 867, 868, 869, 870] (by decide +kernel) (by decide +kernel)
set_option maxRecDepth 20000 in
theorem gL_law_X11_found : GoodIn wsL_law (wsV RL 87 RX11 yX11_found wsX11_found) := goodIn_app (goodIn_of _ (by decide +kernel)) ggL_law_X11_found
set_option maxRecDepth 20000 in
theorem ggL_law_X12_found : GoodIn wsL_law wsX12_found := goodIn_r _ [642, 368, 79, 97, 301, 302, 303, 5, 304, 261, 165, 166, 167, 763, 764, 765, 766, 767, 768, 769, 770, 771, 772, 773, 774, 775, 776, 777, 778, 779, 780, 781, 782, 783, 784, 785, 786, 787, 788, 789, 790, 791, 792, 793, 794, 795, 796, 797, 798, 799, 800, 801, 802, 803, 804, 805, 806, 807, 808, 809, 810, 811, 812] (by decide +kernel) (by decide +kernel)
set_option maxRecDepth 20000 in
theorem gL_law_X12_found : GoodIn wsL_law (wsV RL 90 RX12 yX12_found wsX12_found) := goodIn_app (goodIn_of _ (by decide +kernel)) ggL_law_X12_found
set_option maxRecDepth 20000 in
theorem ggL_law_X11_about : GoodIn wsL_law wsX11_about := goodIn_r _ [646, 216, 217, 218, 2, 219, 186, 33, 647, 648, 649, 188, 650, 651, 652, 653, 654, 655, 656, 657, 658, 659, 445, 751, 752, 753, 754, 755, 756, 757, 758, 759, 760, 761, 762, 836, 837, 838, 839, 840, 841, 842, 843, 852, 853, 854, 855, 856, 857, 858, 859, 860, 844, 845, 846, 847, 848, 849, 850, 851, 861, 862, 863, 864, 865, 866, 867, 868, 869, 870] (by decide +kernel) (by decide +kernel)
set_option maxRecDepth 20000 in
theorem gL_law_X11_about : GoodIn wsL_law (wsV RL 91 RX11 yX11_about wsX11_about) := goodIn_app (goodIn_of _ (by decide +kernel)) ggL_law_X11_about
set_option maxRecDepth 20000 in
theorem ggL_law_X12_about : GoodIn wsL_law wsX12_about := goodIn_r _ [663, 98, 99, 100, 101, 262, 263, 264, 5, 265, 202, 165, 166, 167, 479, 480, 481, 482, 261, 79, 82, 87, 664, 665, 666, 667, 763, 764, 765, 766, 767, 768, 769, 770, 771, 772, 773, 774, 775, 776, 777, 778, 779, 780, 781, 782, 783, 784, 785, 786, 787, 788, 789, 790, 791, 792, 793, 794, 795, 796, 797, 798, 799, 800, 801, 802, 803, 804, 805, 806, 807, 808, 809, 810, 811, 812] (by decide +kernel) (by decide +kernel)
set_option maxRecDepth 20000 in
theorem gL_law_X12_about : GoodIn wsL_law (wsV RL 94 RX12 yX12_about wsX12_about) := goodIn_app (goodIn_of _ (by decide +kernel)) ggL_law_X12_about
set_option maxRecDepth 20000 in
theorem ggL_law_X11_store : GoodIn wsL_law wsX11_store := goodIn_r _ [671, 672, 31, 673, 674, 122, 123, 2, 124, 751, 752, 753, 754, 755, 756, 757, 758, 759, 760, 761, 762, 828, 829, 830, 831, 832, 833, 834, 835] (by decide +kernel) (by decide +kernel)
set_option maxRecDepth 20000 in
theorem gL_law_X11_store : GoodIn wsL_law (wsV RL 95 RX11 yX11_store wsX11_store) := goodIn_app (goodIn_of _ (by decide +kernel)) ggL_law_X11_store
set_option maxRecDepth 20000 in
theorem ggL_law_X12_store : GoodIn wsL_law wsX12_store := goodIn_r _ [678, 679, 173, 175, 165, 166, 5, 167, 763, 764, 765, 766, 767, 768, 769, 770, 771, 772, 773, 774, 775, 776, 777, 778, 779, 780, 781, 782, 783, 784, 785, 786, 787, 788, 789, 790, 791, 792, 793, 794, 795, 796, 797, 798, 799, 800, 801, 802, 803, 804, 805, 806, 807, 808, 809, 810, 811, 812] (by decide +kernel) (by decide +kernel)
set_option maxRecDepth 20000 in
theorem gL_law_X12_store : GoodIn wsL_law (wsV RL 98 RX12 yX12_store wsX12_store) := goodIn_app (goodIn_of _ (by decide +kernel)) ggL_law_X12_store
set_option maxRecDepth 20000 in
theorem ggL_law_X11_mouths : GoodIn wsL_law wsX11_mouths := goodIn_r _ [683, 31, 684, 685, 122, 123, 2, 124, 751, 752, 753, 754, 755, 756, 757, 758, 759, 760, 761, 762, 828, 829, 830, 831, 832, 833, 834, 835] (by decide +kernel) (by decide +kernel)
set_option maxRecDepth 20000 in
theorem gL_law_X11_mouths : GoodIn wsL_law (wsV RL 99 RX11 yX11_mouths wsX11_mouths) := goodIn_app (goodIn_of _ (by decide +kernel)) ggL_law_X11_mouths
set_option maxRecDepth 20000 in
theorem ggL_law_X12_mouths : GoodIn wsL_law wsX12_mouths := goodIn_r _ [689, 690, 260, 180, 112, 165, 166, 5, 167, 763, 764, 765, 766, 767, 768, 769, 770, 771, 772, 773, 774, 775, 776, 777, 778, 779, 780, 781, 782, 783, 784, 785, 786, 787, 788, 789, 790, 791, 792, 793, 794, 795, 796, 797, 798, 799, 800, 801, 802, 803, 804, 805, 806, 807, 808, 809, 810, 811, 812] (by decide +kernel) (by decide +kernel)
set_option maxRecDepth 20000 in
theorem gL_law_X12_mouths : GoodIn wsL_law (wsV RL 102 RX12 yX12_mouths wsX12_mouths) := goodIn_app (goodIn_of _ (by decide +kernel)) ggL_law_X12_mouths
set_option maxRecDepth 20000 in
theorem ggL_law_X11_ration : GoodIn wsL_law wsX11_ration := goodIn_r _ [694, 31, 695, 122, 123, 2, 124, 751, 752, 753, 754, 755, 756, 757, 758, 759, 760, 761, 762, 828, 829, 830, 831, 832, 833, 834, 835] (by decide +kernel) (by decide +kernel)
set_option maxRecDepth 20000 in
theorem gL_law_X11_ration : GoodIn wsL_law (wsV RL 103 RX11 yX11_ration wsX11_ration) := goodIn_app (goodIn_of _ (by decide +kernel)) ggL_law_X11_ration
set_option maxRecDepth 20000 in
theorem ggL_law_X12_ration : GoodIn wsL_law wsX12_ration := goodIn_r _ [699, 181, 113, 165, 166, 5, 167, 763, 764, 765, 766, 767, 768, 769, 770, 771, 772, 773, 774, 775, 776, 777, 778, 779, 780, 781, 782, 783, 784, 785, 786, 787, 788, 789, 790, 791, 792, 793, 794, 795, 796, 797, 798, 799, 800, 801, 802, 803, 804, 805, 806, 807, 808, 809, 810, 811, 812] (by decide +kernel) (by decide +kernel)
set_option maxRecDepth 20000 in
theorem gL_law_X12_ration : GoodIn wsL_law (wsV RL 106 RX12 yX12_ration wsX12_ration) := goodIn_app (goodIn_of _ (by decide +kernel)) ggL_law_X12_ration
set_option maxRecDepth 20000 in
theorem ggL_law_X11_harvest : GoodIn wsL_law wsX11_harvest := goodIn_r _ [703, 672, 31, 704, 122, 123, 2, 124, 125, 126, 127, 128, 120, 705, 706, 707, 30, 708, 71, 72, 148, 751, 752, 753, 754, 755, 756, 757, 758, 759, 760, 761, 762, 828, 829, 830, 831, 832, 833, 834, 835] (by decide +kernel) (by decide +kernel)
set_option maxRecDepth 20000 in
theorem gL_law_X11_harvest : GoodIn wsL_law (wsV RL 107 RX11 yX11_harvest wsX11_harvest) := goodIn_app (goodIn_of _ (by decide +kernel)) ggL_law_X11_harvest
set_option maxRecDepth 20000 in
theorem ggL_law_X12_harvest : GoodIn wsL_law wsX12_harvest := goodIn_r _ [712, 365, 679, 174, 162, 114, 115, 165, 166, 5, 167, 763, 764, 765, 766, 767, 768, 769, 770, 771, 772, 773, 774, 775, 776, 777, 778, 779, 780, 781, 782, 783, 784, 785, 786, 787, 788, 789, 790, 791, 792, 793, 794, 795, 796, 797, 798, 799, 800, 801, 802, 803, 804, 805, 806, 807, 808, 809, 810, 811, 812] (by decide +kernel) (by decide +kernel)
set_option maxRecDepth 20000 in
theorem gL_law_X12_harvest : GoodIn wsL_law (wsV RL 110 RX12 yX12_harvest wsX12_harvest) := goodIn_app (goodIn_of _ (by decide +kernel)) ggL_law_X12_harvest
set_option maxRecDepth 20000 in
theorem ggL_law_X11_foretell : GoodIn wsL_law wsX11_foretell := goodIn_r _ [716, 31, 122, 123, 2, 124, 125, 126, 127, 128, 120, 717, 718, 719, 30, 720, 133, 139, 140, 141, 142, 143, 73, 149, 150, 151, 152, 153, 71, 154, 155, 137, 156, 751, 752, 753, 754, 755, 756, 757, 758, 759, 760, 761, 762, 828, 829, 830, 831, 832, 833, 834, 835] (by decide +kernel) (by decide +kernel)
set_option maxRecDepth 20000 in
theorem gL_law_X11_foretell : GoodIn wsL_law (wsV RL 111 RX11 yX11_foretell wsX11_foretell) := goodIn_app (goodIn_of _ (by decide +kernel)) ggL_law_X11_foretell
set_option maxRecDepth 20000 in
theorem ggL_law_X12_foretell : GoodIn wsL_law wsX12_foretell := goodIn_r _ [724, 181, 165, 166, 5, 167, 725, 726, 727, 728, 173, 162, 174, 114, 115, 175, 176, 177, 178, 179, 180, 112, 763, 764, 765, 766, 767, 768, 769, 770, 771, 772, 773, 774, 775, 776, 777, 778, 779, 780, 781, 782, 783, 784, 785, 786, 787, 788, 789, 790, 791, 792, 793, 794, 795, 796, 797, 798, 799, 800, 801, 802, 803, 804, 805, 806, 807, 808, 809, 810, 811, 812] (by decide +kernel) (by decide +kernel)
set_option maxRecDepth 20000 in
theorem gL_law_X12_foretell : GoodIn wsL_law (wsV RL 114 RX12 yX12_foretell wsX12_foretell) := goodIn_app (goodIn_of _ (by decide +kernel)) ggL_law_X12_foretell
set_option maxRecDepth 20000 in
theorem ggL_law_X11_order : GoodIn wsL_law wsX11_order := goodIn_r _ [732, 31, 125, 126, 127, 2, 128, 120, 122, 123, 124, 733, 734, 735, 30, 736, 737, 718, 719, 720, 133, 139, 140, 141, 142, 143, 73, 149, 150, 151, 152, 153, 71, 154, 155, 137, 156, 751, 752, 753, 754, 755, 756, 757, 758, 759, 760, 761, 762, 828, 829, 830, 831, 832, 833, 834, 835] (by decide +kernel) (by decide +kernel)
set_option maxRecDepth 20000 in
theorem gL_law_X11_order : GoodIn wsL_law (wsV RL 115 RX11 yX11_order wsX11_order) := goodIn_app (goodIn_of _ (by decide +kernel)) ggL_law_X11_order
set_option maxRecDepth 20000 in
theorem ggL_law_X12_order : GoodIn wsL_law wsX12_order := goodIn_r _ [741, 162, 365, 165, 166, 5, 167, 725, 726, 727, 728, 173, 174, 114, 115, 175, 176, 177, 178, 179, 180, 112, 181, 763, 764, 765, 766, 767, 768, 769, 770, 771, 772, 773, 774, 775, 776, 777, 778, 779, 780, 781, 782, 783, 784, 785, 786, 787, 788, 789, 790, 791, 792, 793, 794, 795, 796, 797, 798, 799, 800, 801, 802, 803, 804, 805, 806, 807, 808, 809, 810, 811, 812] (by decide +kernel) (by decide +kernel)
set_option maxRecDepth 20000 in
theorem gL_law_X12_order : GoodIn wsL_law (wsV RL 118 RX12 yX12_order wsX12_order) := goodIn_app (goodIn_of _ (by decide +kernel)) ggL_law_X12_order
set_option maxRecDepth 20000 in
theorem ggL_law_X11_told : GoodIn wsL_law wsX11_told := goodIn_r _ [745, 120, 186, 23, 339, 15, 212, 289, 31, 673, 746, 695, 704, 125, 126, 127, 2, 128, 751, 752, 753, 754, 755, 756, 757, 758, 759, 760, 761, 762, 822, 823, 813, 814, 815, 816, 817, 818, 819, 828, 829, 830, 831, 832, 833, 834, 835] (by decide +kernel) (by decide +kernel)
set_option maxRecDepth 20000 in
theorem gL_law_X11_told : GoodIn wsL_law (wsV RL 119 RX11 yX11_told wsX11_told) := goodIn_app (goodIn_of _ (by decide +kernel)) ggL_law_X11_told
set_option maxRecDepth 20000 in
theorem ggL_law_X12_told : GoodIn wsL_law wsX12_told := goodIn_r _ [750, 162, 163, 202, 369, 261, 300, 173, 172, 113, 174, 763, 764, 765, 766, 767, 768, 769, 770, 771, 772, 773, 774, 775, 776, 777, 778, 779, 780, 781, 782, 783, 784, 785, 786, 787, 788, 789, 790, 791, 792, 793, 794, 795, 796, 797, 798, 799, 800, 801, 802, 803, 804, 805, 806, 807, 808, 809, 810, 811, 812] (by decide +kernel) (by decide +kernel)
set_option maxRecDepth 20000 in
theorem gL_law_X12_told : GoodIn wsL_law (wsV RL 122 RX12 yX12_told wsX12_told) := goodIn_app (goodIn_of _ (by decide +kernel)) ggL_law_X12_told
theorem dL_law_0 : decode cL_law 0 = .ok (.new 7, 3) := by decide +kernel
theorem dL_law_3 : decode cL_law 3 = .ok (.dup, 1) := by decide +kernel
theorem dL_law_4 : decode cL_law 4 = .ok (.invokespecial 9, 3) := by decide +kernel
theorem dL_law_7 : decode cL_law 7 = .ok (.astore_n 1, 1) := by decide +kernel
theorem dL_law_8 : decode cL_law 8 = .ok (.new 10, 3) := by decide +kernel
theorem dL_law_11 : decode cL_law 11 = .ok (.dup, 1) := by decide +kernel
theorem dL_law_12 : decode cL_law 12 = .ok (.invokespecial 12, 3) := by decide +kernel
theorem dL_law_15 : decode cL_law 15 = .ok (.astore_n 2, 1) := by decide +kernel
theorem dL_law_16 : decode cL_law 16 = .ok (.iconst 0, 1) := by decide +kernel
theorem dL_law_17 : decode cL_law 17 = .ok (.istore_n 3, 1) := by decide +kernel
theorem dL_law_18 : decode cL_law 18 = .ok (.iload_n 3, 1) := by decide +kernel
theorem dL_law_19 : decode cL_law 19 = .ok (.aload_n 0, 1) := by decide +kernel
theorem dL_law_20 : decode cL_law 20 = .ok (.arraylength, 1) := by decide +kernel
theorem dL_law_21 : decode cL_law 21 = .ok (.bipush 6, 2) := by decide +kernel
theorem dL_law_23 : decode cL_law 23 = .ok (.isub, 1) := by decide +kernel
theorem dL_law_24 : decode cL_law 24 = .ok (.if_icmp .gt 902, 3) := by decide +kernel
theorem dL_law_27 : decode cL_law 27 = .ok (.aload_n 0, 1) := by decide +kernel
theorem dL_law_28 : decode cL_law 28 = .ok (.iload_n 3, 1) := by decide +kernel
theorem dL_law_29 : decode cL_law 29 = .ok (.iaload, 1) := by decide +kernel
theorem dL_law_30 : decode cL_law 30 = .ok (.bipush 31, 2) := by decide +kernel
theorem dL_law_32 : decode cL_law 32 = .ok (.iand, 1) := by decide +kernel
theorem dL_law_33 : decode cL_law 33 = .ok (.tableswitch 887 0 25 #[119, 142, 155, 198, 221, 244, 267, 330, 373, 396, 429, 482, 495, 508, 541, 574, 607, 640, 673, 706, 729, 762, 785, 818, 841, 864], 119) := by decide +kernel
theorem dL_law_152 : decode cL_law 152 = .ok (.aload_n 1, 1) := by decide +kernel
theorem dL_law_153 : decode cL_law 153 = .ok (.aload_n 0, 1) := by decide +kernel
theorem dL_law_154 : decode cL_law 154 = .ok (.iload_n 3, 1) := by decide +kernel
theorem dL_law_155 : decode cL_law 155 = .ok (.iconst 1, 1) := by decide +kernel
theorem dL_law_156 : decode cL_law 156 = .ok (.iadd, 1) := by decide +kernel
theorem dL_law_157 : decode cL_law 157 = .ok (.iaload, 1) := by decide +kernel
theorem dL_law_158 : decode cL_law 158 = .ok (.invokevirtual 13, 3) := by decide +kernel
theorem dL_law_161 : decode cL_law 161 = .ok (.aload_n 2, 1) := by decide +kernel
theorem dL_law_162 : decode cL_law 162 = .ok (.aload_n 0, 1) := by decide +kernel
theorem dL_law_163 : decode cL_law 163 = .ok (.iload_n 3, 1) := by decide +kernel
theorem dL_law_164 : decode cL_law 164 = .ok (.iconst 1, 1) := by decide +kernel
theorem dL_law_165 : decode cL_law 165 = .ok (.iadd, 1) := by decide +kernel
theorem dL_law_166 : decode cL_law 166 = .ok (.iaload, 1) := by decide +kernel
theorem dL_law_167 : decode cL_law 167 = .ok (.invokevirtual 17, 3) := by decide +kernel
theorem dL_law_170 : decode cL_law 170 = .ok (.if_icmp .eq 750, 3) := by decide +kernel
theorem dL_law_173 : decode cL_law 173 = .ok (.iconst 0, 1) := by decide +kernel
theorem dL_law_174 : decode cL_law 174 = .ok (.ireturn, 1) := by decide +kernel
theorem dL_law_175 : decode cL_law 175 = .ok (.aload_n 1, 1) := by decide +kernel
theorem dL_law_176 : decode cL_law 176 = .ok (.invokevirtual 18, 3) := by decide +kernel
theorem dL_law_179 : decode cL_law 179 = .ok (.aload_n 2, 1) := by decide +kernel
theorem dL_law_180 : decode cL_law 180 = .ok (.invokevirtual 22, 3) := by decide +kernel
theorem dL_law_183 : decode cL_law 183 = .ok (.if_icmp .eq 737, 3) := by decide +kernel
theorem dL_law_186 : decode cL_law 186 = .ok (.iconst 0, 1) := by decide +kernel
theorem dL_law_187 : decode cL_law 187 = .ok (.ireturn, 1) := by decide +kernel
theorem dL_law_188 : decode cL_law 188 = .ok (.aload_n 1, 1) := by decide +kernel
theorem dL_law_189 : decode cL_law 189 = .ok (.aload_n 0, 1) := by decide +kernel
theorem dL_law_190 : decode cL_law 190 = .ok (.iload_n 3, 1) := by decide +kernel
theorem dL_law_191 : decode cL_law 191 = .ok (.iconst 1, 1) := by decide +kernel
theorem dL_law_192 : decode cL_law 192 = .ok (.iadd, 1) := by decide +kernel
theorem dL_law_193 : decode cL_law 193 = .ok (.iaload, 1) := by decide +kernel
theorem dL_law_194 : decode cL_law 194 = .ok (.aload_n 0, 1) := by decide +kernel
theorem dL_law_195 : decode cL_law 195 = .ok (.iload_n 3, 1) := by decide +kernel
theorem dL_law_196 : decode cL_law 196 = .ok (.iconst 2, 1) := by decide +kernel
theorem dL_law_197 : decode cL_law 197 = .ok (.iadd, 1) := by decide +kernel
theorem dL_law_198 : decode cL_law 198 = .ok (.iaload, 1) := by decide +kernel
theorem dL_law_199 : decode cL_law 199 = .ok (.aload_n 0, 1) := by decide +kernel
theorem dL_law_200 : decode cL_law 200 = .ok (.iload_n 3, 1) := by decide +kernel
theorem dL_law_201 : decode cL_law 201 = .ok (.iconst 3, 1) := by decide +kernel
theorem dL_law_202 : decode cL_law 202 = .ok (.iadd, 1) := by decide +kernel
theorem dL_law_203 : decode cL_law 203 = .ok (.iaload, 1) := by decide +kernel
theorem dL_law_204 : decode cL_law 204 = .ok (.invokevirtual 23, 3) := by decide +kernel
theorem dL_law_207 : decode cL_law 207 = .ok (.aload_n 2, 1) := by decide +kernel
theorem dL_law_208 : decode cL_law 208 = .ok (.aload_n 0, 1) := by decide +kernel
theorem dL_law_209 : decode cL_law 209 = .ok (.iload_n 3, 1) := by decide +kernel
theorem dL_law_210 : decode cL_law 210 = .ok (.iconst 1, 1) := by decide +kernel
theorem dL_law_211 : decode cL_law 211 = .ok (.iadd, 1) := by decide +kernel
theorem dL_law_212 : decode cL_law 212 = .ok (.iaload, 1) := by decide +kernel
theorem dL_law_213 : decode cL_law 213 = .ok (.aload_n 0, 1) := by decide +kernel
theorem dL_law_214 : decode cL_law 214 = .ok (.iload_n 3, 1) := by decide +kernel
theorem dL_law_215 : decode cL_law 215 = .ok (.iconst 2, 1) := by decide +kernel
theorem dL_law_216 : decode cL_law 216 = .ok (.iadd, 1) := by decide +kernel
theorem dL_law_217 : decode cL_law 217 = .ok (.iaload, 1) := by decide +kernel
theorem dL_law_218 : decode cL_law 218 = .ok (.aload_n 0, 1) := by decide +kernel
theorem dL_law_219 : decode cL_law 219 = .ok (.iload_n 3, 1) := by decide +kernel
theorem dL_law_220 : decode cL_law 220 = .ok (.iconst 3, 1) := by decide +kernel
theorem dL_law_221 : decode cL_law 221 = .ok (.iadd, 1) := by decide +kernel
theorem dL_law_222 : decode cL_law 222 = .ok (.iaload, 1) := by decide +kernel
theorem dL_law_223 : decode cL_law 223 = .ok (.invokevirtual 27, 3) := by decide +kernel
theorem dL_law_226 : decode cL_law 226 = .ok (.if_icmp .eq 694, 3) := by decide +kernel
theorem dL_law_229 : decode cL_law 229 = .ok (.iconst 0, 1) := by decide +kernel
theorem dL_law_230 : decode cL_law 230 = .ok (.ireturn, 1) := by decide +kernel
theorem dL_law_231 : decode cL_law 231 = .ok (.aload_n 1, 1) := by decide +kernel
theorem dL_law_232 : decode cL_law 232 = .ok (.aload_n 0, 1) := by decide +kernel
theorem dL_law_233 : decode cL_law 233 = .ok (.iload_n 3, 1) := by decide +kernel
theorem dL_law_234 : decode cL_law 234 = .ok (.iconst 1, 1) := by decide +kernel
theorem dL_law_235 : decode cL_law 235 = .ok (.iadd, 1) := by decide +kernel
theorem dL_law_236 : decode cL_law 236 = .ok (.iaload, 1) := by decide +kernel
theorem dL_law_237 : decode cL_law 237 = .ok (.invokevirtual 28, 3) := by decide +kernel
theorem dL_law_240 : decode cL_law 240 = .ok (.aload_n 2, 1) := by decide +kernel
theorem dL_law_241 : decode cL_law 241 = .ok (.aload_n 0, 1) := by decide +kernel
theorem dL_law_242 : decode cL_law 242 = .ok (.iload_n 3, 1) := by decide +kernel
theorem dL_law_243 : decode cL_law 243 = .ok (.iconst 1, 1) := by decide +kernel
theorem dL_law_244 : decode cL_law 244 = .ok (.iadd, 1) := by decide +kernel
theorem dL_law_245 : decode cL_law 245 = .ok (.iaload, 1) := by decide +kernel
theorem dL_law_246 : decode cL_law 246 = .ok (.invokevirtual 31, 3) := by decide +kernel
theorem dL_law_249 : decode cL_law 249 = .ok (.if_icmp .eq 671, 3) := by decide +kernel
theorem dL_law_252 : decode cL_law 252 = .ok (.iconst 0, 1) := by decide +kernel
theorem dL_law_253 : decode cL_law 253 = .ok (.ireturn, 1) := by decide +kernel
theorem dL_law_254 : decode cL_law 254 = .ok (.aload_n 1, 1) := by decide +kernel
theorem dL_law_255 : decode cL_law 255 = .ok (.aload_n 0, 1) := by decide +kernel
theorem dL_law_256 : decode cL_law 256 = .ok (.iload_n 3, 1) := by decide +kernel
theorem dL_law_257 : decode cL_law 257 = .ok (.iconst 1, 1) := by decide +kernel
theorem dL_law_258 : decode cL_law 258 = .ok (.iadd, 1) := by decide +kernel
theorem dL_law_259 : decode cL_law 259 = .ok (.iaload, 1) := by decide +kernel
theorem dL_law_260 : decode cL_law 260 = .ok (.invokevirtual 32, 3) := by decide +kernel
theorem dL_law_263 : decode cL_law 263 = .ok (.aload_n 2, 1) := by decide +kernel
theorem dL_law_264 : decode cL_law 264 = .ok (.aload_n 0, 1) := by decide +kernel
theorem dL_law_265 : decode cL_law 265 = .ok (.iload_n 3, 1) := by decide +kernel
theorem dL_law_266 : decode cL_law 266 = .ok (.iconst 1, 1) := by decide +kernel
theorem dL_law_267 : decode cL_law 267 = .ok (.iadd, 1) := by decide +kernel
theorem dL_law_268 : decode cL_law 268 = .ok (.iaload, 1) := by decide +kernel
theorem dL_law_269 : decode cL_law 269 = .ok (.invokevirtual 35, 3) := by decide +kernel
theorem dL_law_272 : decode cL_law 272 = .ok (.if_icmp .eq 648, 3) := by decide +kernel
theorem dL_law_275 : decode cL_law 275 = .ok (.iconst 0, 1) := by decide +kernel
theorem dL_law_276 : decode cL_law 276 = .ok (.ireturn, 1) := by decide +kernel
theorem dL_law_277 : decode cL_law 277 = .ok (.aload_n 1, 1) := by decide +kernel
theorem dL_law_278 : decode cL_law 278 = .ok (.aload_n 0, 1) := by decide +kernel
theorem dL_law_279 : decode cL_law 279 = .ok (.iload_n 3, 1) := by decide +kernel
theorem dL_law_280 : decode cL_law 280 = .ok (.iconst 1, 1) := by decide +kernel
theorem dL_law_281 : decode cL_law 281 = .ok (.iadd, 1) := by decide +kernel
theorem dL_law_282 : decode cL_law 282 = .ok (.iaload, 1) := by decide +kernel
theorem dL_law_283 : decode cL_law 283 = .ok (.invokevirtual 36, 3) := by decide +kernel
theorem dL_law_286 : decode cL_law 286 = .ok (.aload_n 2, 1) := by decide +kernel
theorem dL_law_287 : decode cL_law 287 = .ok (.aload_n 0, 1) := by decide +kernel
theorem dL_law_288 : decode cL_law 288 = .ok (.iload_n 3, 1) := by decide +kernel
theorem dL_law_289 : decode cL_law 289 = .ok (.iconst 1, 1) := by decide +kernel
theorem dL_law_290 : decode cL_law 290 = .ok (.iadd, 1) := by decide +kernel
theorem dL_law_291 : decode cL_law 291 = .ok (.iaload, 1) := by decide +kernel
theorem dL_law_292 : decode cL_law 292 = .ok (.invokevirtual 39, 3) := by decide +kernel
theorem dL_law_295 : decode cL_law 295 = .ok (.if_icmp .eq 625, 3) := by decide +kernel
theorem dL_law_298 : decode cL_law 298 = .ok (.iconst 0, 1) := by decide +kernel
theorem dL_law_299 : decode cL_law 299 = .ok (.ireturn, 1) := by decide +kernel
theorem dL_law_300 : decode cL_law 300 = .ok (.aload_n 1, 1) := by decide +kernel
theorem dL_law_301 : decode cL_law 301 = .ok (.aload_n 0, 1) := by decide +kernel
theorem dL_law_302 : decode cL_law 302 = .ok (.iload_n 3, 1) := by decide +kernel
theorem dL_law_303 : decode cL_law 303 = .ok (.iconst 1, 1) := by decide +kernel
theorem dL_law_304 : decode cL_law 304 = .ok (.iadd, 1) := by decide +kernel
theorem dL_law_305 : decode cL_law 305 = .ok (.iaload, 1) := by decide +kernel
theorem dL_law_306 : decode cL_law 306 = .ok (.aload_n 0, 1) := by decide +kernel
theorem dL_law_307 : decode cL_law 307 = .ok (.iload_n 3, 1) := by decide +kernel
theorem dL_law_308 : decode cL_law 308 = .ok (.iconst 2, 1) := by decide +kernel
theorem dL_law_309 : decode cL_law 309 = .ok (.iadd, 1) := by decide +kernel
theorem dL_law_310 : decode cL_law 310 = .ok (.iaload, 1) := by decide +kernel
theorem dL_law_311 : decode cL_law 311 = .ok (.aload_n 0, 1) := by decide +kernel
theorem dL_law_312 : decode cL_law 312 = .ok (.iload_n 3, 1) := by decide +kernel
theorem dL_law_313 : decode cL_law 313 = .ok (.iconst 3, 1) := by decide +kernel
theorem dL_law_314 : decode cL_law 314 = .ok (.iadd, 1) := by decide +kernel
theorem dL_law_315 : decode cL_law 315 = .ok (.iaload, 1) := by decide +kernel
theorem dL_law_316 : decode cL_law 316 = .ok (.aload_n 0, 1) := by decide +kernel
theorem dL_law_317 : decode cL_law 317 = .ok (.iload_n 3, 1) := by decide +kernel
theorem dL_law_318 : decode cL_law 318 = .ok (.iconst 4, 1) := by decide +kernel
theorem dL_law_319 : decode cL_law 319 = .ok (.iadd, 1) := by decide +kernel
theorem dL_law_320 : decode cL_law 320 = .ok (.iaload, 1) := by decide +kernel
theorem dL_law_321 : decode cL_law 321 = .ok (.aload_n 0, 1) := by decide +kernel
theorem dL_law_322 : decode cL_law 322 = .ok (.iload_n 3, 1) := by decide +kernel
theorem dL_law_323 : decode cL_law 323 = .ok (.iconst 5, 1) := by decide +kernel
theorem dL_law_324 : decode cL_law 324 = .ok (.iadd, 1) := by decide +kernel
theorem dL_law_325 : decode cL_law 325 = .ok (.iaload, 1) := by decide +kernel
theorem dL_law_326 : decode cL_law 326 = .ok (.invokevirtual 40, 3) := by decide +kernel
theorem dL_law_329 : decode cL_law 329 = .ok (.aload_n 2, 1) := by decide +kernel
theorem dL_law_330 : decode cL_law 330 = .ok (.aload_n 0, 1) := by decide +kernel
theorem dL_law_331 : decode cL_law 331 = .ok (.iload_n 3, 1) := by decide +kernel
theorem dL_law_332 : decode cL_law 332 = .ok (.iconst 1, 1) := by decide +kernel
theorem dL_law_333 : decode cL_law 333 = .ok (.iadd, 1) := by decide +kernel
theorem dL_law_334 : decode cL_law 334 = .ok (.iaload, 1) := by decide +kernel
theorem dL_law_335 : decode cL_law 335 = .ok (.aload_n 0, 1) := by decide +kernel
theorem dL_law_336 : decode cL_law 336 = .ok (.iload_n 3, 1) := by decide +kernel
theorem dL_law_337 : decode cL_law 337 = .ok (.iconst 2, 1) := by decide +kernel
theorem dL_law_338 : decode cL_law 338 = .ok (.iadd, 1) := by decide +kernel
theorem dL_law_339 : decode cL_law 339 = .ok (.iaload, 1) := by decide +kernel
theorem dL_law_340 : decode cL_law 340 = .ok (.aload_n 0, 1) := by decide +kernel
theorem dL_law_341 : decode cL_law 341 = .ok (.iload_n 3, 1) := by decide +kernel
theorem dL_law_342 : decode cL_law 342 = .ok (.iconst 3, 1) := by decide +kernel
theorem dL_law_343 : decode cL_law 343 = .ok (.iadd, 1) := by decide +kernel
theorem dL_law_344 : decode cL_law 344 = .ok (.iaload, 1) := by decide +kernel
theorem dL_law_345 : decode cL_law 345 = .ok (.aload_n 0, 1) := by decide +kernel
theorem dL_law_346 : decode cL_law 346 = .ok (.iload_n 3, 1) := by decide +kernel
theorem dL_law_347 : decode cL_law 347 = .ok (.iconst 4, 1) := by decide +kernel
theorem dL_law_348 : decode cL_law 348 = .ok (.iadd, 1) := by decide +kernel
theorem dL_law_349 : decode cL_law 349 = .ok (.iaload, 1) := by decide +kernel
theorem dL_law_350 : decode cL_law 350 = .ok (.aload_n 0, 1) := by decide +kernel
theorem dL_law_351 : decode cL_law 351 = .ok (.iload_n 3, 1) := by decide +kernel
theorem dL_law_352 : decode cL_law 352 = .ok (.iconst 5, 1) := by decide +kernel
theorem dL_law_353 : decode cL_law 353 = .ok (.iadd, 1) := by decide +kernel
theorem dL_law_354 : decode cL_law 354 = .ok (.iaload, 1) := by decide +kernel
theorem dL_law_355 : decode cL_law 355 = .ok (.invokevirtual 44, 3) := by decide +kernel
theorem dL_law_358 : decode cL_law 358 = .ok (.if_icmp .eq 562, 3) := by decide +kernel
theorem dL_law_361 : decode cL_law 361 = .ok (.iconst 0, 1) := by decide +kernel
theorem dL_law_362 : decode cL_law 362 = .ok (.ireturn, 1) := by decide +kernel
theorem dL_law_363 : decode cL_law 363 = .ok (.aload_n 1, 1) := by decide +kernel
theorem dL_law_364 : decode cL_law 364 = .ok (.aload_n 0, 1) := by decide +kernel
theorem dL_law_365 : decode cL_law 365 = .ok (.iload_n 3, 1) := by decide +kernel
theorem dL_law_366 : decode cL_law 366 = .ok (.iconst 1, 1) := by decide +kernel
theorem dL_law_367 : decode cL_law 367 = .ok (.iadd, 1) := by decide +kernel
theorem dL_law_368 : decode cL_law 368 = .ok (.iaload, 1) := by decide +kernel
theorem dL_law_369 : decode cL_law 369 = .ok (.aload_n 0, 1) := by decide +kernel
theorem dL_law_370 : decode cL_law 370 = .ok (.iload_n 3, 1) := by decide +kernel
theorem dL_law_371 : decode cL_law 371 = .ok (.iconst 2, 1) := by decide +kernel
theorem dL_law_372 : decode cL_law 372 = .ok (.iadd, 1) := by decide +kernel
theorem dL_law_373 : decode cL_law 373 = .ok (.iaload, 1) := by decide +kernel
theorem dL_law_374 : decode cL_law 374 = .ok (.aload_n 0, 1) := by decide +kernel
theorem dL_law_375 : decode cL_law 375 = .ok (.iload_n 3, 1) := by decide +kernel
theorem dL_law_376 : decode cL_law 376 = .ok (.iconst 3, 1) := by decide +kernel
theorem dL_law_377 : decode cL_law 377 = .ok (.iadd, 1) := by decide +kernel
theorem dL_law_378 : decode cL_law 378 = .ok (.iaload, 1) := by decide +kernel
theorem dL_law_379 : decode cL_law 379 = .ok (.invokevirtual 45, 3) := by decide +kernel
theorem dL_law_382 : decode cL_law 382 = .ok (.aload_n 2, 1) := by decide +kernel
theorem dL_law_383 : decode cL_law 383 = .ok (.aload_n 0, 1) := by decide +kernel
theorem dL_law_384 : decode cL_law 384 = .ok (.iload_n 3, 1) := by decide +kernel
theorem dL_law_385 : decode cL_law 385 = .ok (.iconst 1, 1) := by decide +kernel
theorem dL_law_386 : decode cL_law 386 = .ok (.iadd, 1) := by decide +kernel
theorem dL_law_387 : decode cL_law 387 = .ok (.iaload, 1) := by decide +kernel
theorem dL_law_388 : decode cL_law 388 = .ok (.aload_n 0, 1) := by decide +kernel
theorem dL_law_389 : decode cL_law 389 = .ok (.iload_n 3, 1) := by decide +kernel
theorem dL_law_390 : decode cL_law 390 = .ok (.iconst 2, 1) := by decide +kernel
theorem dL_law_391 : decode cL_law 391 = .ok (.iadd, 1) := by decide +kernel
theorem dL_law_392 : decode cL_law 392 = .ok (.iaload, 1) := by decide +kernel
theorem dL_law_393 : decode cL_law 393 = .ok (.aload_n 0, 1) := by decide +kernel
theorem dL_law_394 : decode cL_law 394 = .ok (.iload_n 3, 1) := by decide +kernel
theorem dL_law_395 : decode cL_law 395 = .ok (.iconst 3, 1) := by decide +kernel
theorem dL_law_396 : decode cL_law 396 = .ok (.iadd, 1) := by decide +kernel
theorem dL_law_397 : decode cL_law 397 = .ok (.iaload, 1) := by decide +kernel
theorem dL_law_398 : decode cL_law 398 = .ok (.invokevirtual 48, 3) := by decide +kernel
theorem dL_law_401 : decode cL_law 401 = .ok (.if_icmp .eq 519, 3) := by decide +kernel
theorem dL_law_404 : decode cL_law 404 = .ok (.iconst 0, 1) := by decide +kernel
theorem dL_law_405 : decode cL_law 405 = .ok (.ireturn, 1) := by decide +kernel
theorem dL_law_406 : decode cL_law 406 = .ok (.aload_n 1, 1) := by decide +kernel
theorem dL_law_407 : decode cL_law 407 = .ok (.aload_n 0, 1) := by decide +kernel
theorem dL_law_408 : decode cL_law 408 = .ok (.iload_n 3, 1) := by decide +kernel
theorem dL_law_409 : decode cL_law 409 = .ok (.iconst 1, 1) := by decide +kernel
theorem dL_law_410 : decode cL_law 410 = .ok (.iadd, 1) := by decide +kernel
theorem dL_law_411 : decode cL_law 411 = .ok (.iaload, 1) := by decide +kernel
theorem dL_law_412 : decode cL_law 412 = .ok (.invokevirtual 49, 3) := by decide +kernel
theorem dL_law_415 : decode cL_law 415 = .ok (.aload_n 2, 1) := by decide +kernel
theorem dL_law_416 : decode cL_law 416 = .ok (.aload_n 0, 1) := by decide +kernel
theorem dL_law_417 : decode cL_law 417 = .ok (.iload_n 3, 1) := by decide +kernel
theorem dL_law_418 : decode cL_law 418 = .ok (.iconst 1, 1) := by decide +kernel
theorem dL_law_419 : decode cL_law 419 = .ok (.iadd, 1) := by decide +kernel
theorem dL_law_420 : decode cL_law 420 = .ok (.iaload, 1) := by decide +kernel
theorem dL_law_421 : decode cL_law 421 = .ok (.invokevirtual 52, 3) := by decide +kernel
theorem dL_law_424 : decode cL_law 424 = .ok (.if_icmp .eq 496, 3) := by decide +kernel
theorem dL_law_427 : decode cL_law 427 = .ok (.iconst 0, 1) := by decide +kernel
theorem dL_law_428 : decode cL_law 428 = .ok (.ireturn, 1) := by decide +kernel
theorem dL_law_429 : decode cL_law 429 = .ok (.aload_n 1, 1) := by decide +kernel
theorem dL_law_430 : decode cL_law 430 = .ok (.aload_n 0, 1) := by decide +kernel
theorem dL_law_431 : decode cL_law 431 = .ok (.iload_n 3, 1) := by decide +kernel
theorem dL_law_432 : decode cL_law 432 = .ok (.iconst 1, 1) := by decide +kernel
theorem dL_law_433 : decode cL_law 433 = .ok (.iadd, 1) := by decide +kernel
theorem dL_law_434 : decode cL_law 434 = .ok (.iaload, 1) := by decide +kernel
theorem dL_law_435 : decode cL_law 435 = .ok (.aload_n 0, 1) := by decide +kernel
theorem dL_law_436 : decode cL_law 436 = .ok (.iload_n 3, 1) := by decide +kernel
theorem dL_law_437 : decode cL_law 437 = .ok (.iconst 2, 1) := by decide +kernel
theorem dL_law_438 : decode cL_law 438 = .ok (.iadd, 1) := by decide +kernel
theorem dL_law_439 : decode cL_law 439 = .ok (.iaload, 1) := by decide +kernel
theorem dL_law_440 : decode cL_law 440 = .ok (.invokevirtual 53, 3) := by decide +kernel
theorem dL_law_443 : decode cL_law 443 = .ok (.aload_n 2, 1) := by decide +kernel
theorem dL_law_444 : decode cL_law 444 = .ok (.aload_n 0, 1) := by decide +kernel
theorem dL_law_445 : decode cL_law 445 = .ok (.iload_n 3, 1) := by decide +kernel
theorem dL_law_446 : decode cL_law 446 = .ok (.iconst 1, 1) := by decide +kernel
theorem dL_law_447 : decode cL_law 447 = .ok (.iadd, 1) := by decide +kernel
theorem dL_law_448 : decode cL_law 448 = .ok (.iaload, 1) := by decide +kernel
theorem dL_law_449 : decode cL_law 449 = .ok (.aload_n 0, 1) := by decide +kernel
theorem dL_law_450 : decode cL_law 450 = .ok (.iload_n 3, 1) := by decide +kernel
theorem dL_law_451 : decode cL_law 451 = .ok (.iconst 2, 1) := by decide +kernel
theorem dL_law_452 : decode cL_law 452 = .ok (.iadd, 1) := by decide +kernel
theorem dL_law_453 : decode cL_law 453 = .ok (.iaload, 1) := by decide +kernel
theorem dL_law_454 : decode cL_law 454 = .ok (.invokevirtual 57, 3) := by decide +kernel
theorem dL_law_457 : decode cL_law 457 = .ok (.if_icmp .eq 463, 3) := by decide +kernel
theorem dL_law_460 : decode cL_law 460 = .ok (.iconst 0, 1) := by decide +kernel
theorem dL_law_461 : decode cL_law 461 = .ok (.ireturn, 1) := by decide +kernel
theorem dL_law_462 : decode cL_law 462 = .ok (.aload_n 1, 1) := by decide +kernel
theorem dL_law_463 : decode cL_law 463 = .ok (.aload_n 0, 1) := by decide +kernel
theorem dL_law_464 : decode cL_law 464 = .ok (.iload_n 3, 1) := by decide +kernel
theorem dL_law_465 : decode cL_law 465 = .ok (.iconst 1, 1) := by decide +kernel
theorem dL_law_466 : decode cL_law 466 = .ok (.iadd, 1) := by decide +kernel
theorem dL_law_467 : decode cL_law 467 = .ok (.iaload, 1) := by decide +kernel
theorem dL_law_468 : decode cL_law 468 = .ok (.aload_n 0, 1) := by decide +kernel
theorem dL_law_469 : decode cL_law 469 = .ok (.iload_n 3, 1) := by decide +kernel
theorem dL_law_470 : decode cL_law 470 = .ok (.iconst 2, 1) := by decide +kernel
theorem dL_law_471 : decode cL_law 471 = .ok (.iadd, 1) := by decide +kernel
theorem dL_law_472 : decode cL_law 472 = .ok (.iaload, 1) := by decide +kernel
theorem dL_law_473 : decode cL_law 473 = .ok (.aload_n 0, 1) := by decide +kernel
theorem dL_law_474 : decode cL_law 474 = .ok (.iload_n 3, 1) := by decide +kernel
theorem dL_law_475 : decode cL_law 475 = .ok (.iconst 3, 1) := by decide +kernel
theorem dL_law_476 : decode cL_law 476 = .ok (.iadd, 1) := by decide +kernel
theorem dL_law_477 : decode cL_law 477 = .ok (.iaload, 1) := by decide +kernel
theorem dL_law_478 : decode cL_law 478 = .ok (.aload_n 0, 1) := by decide +kernel
theorem dL_law_479 : decode cL_law 479 = .ok (.iload_n 3, 1) := by decide +kernel
theorem dL_law_480 : decode cL_law 480 = .ok (.iconst 4, 1) := by decide +kernel
theorem dL_law_481 : decode cL_law 481 = .ok (.iadd, 1) := by decide +kernel
theorem dL_law_482 : decode cL_law 482 = .ok (.iaload, 1) := by decide +kernel
theorem dL_law_483 : decode cL_law 483 = .ok (.invokevirtual 58, 3) := by decide +kernel
theorem dL_law_486 : decode cL_law 486 = .ok (.aload_n 2, 1) := by decide +kernel
theorem dL_law_487 : decode cL_law 487 = .ok (.aload_n 0, 1) := by decide +kernel
theorem dL_law_488 : decode cL_law 488 = .ok (.iload_n 3, 1) := by decide +kernel
theorem dL_law_489 : decode cL_law 489 = .ok (.iconst 1, 1) := by decide +kernel
theorem dL_law_490 : decode cL_law 490 = .ok (.iadd, 1) := by decide +kernel
theorem dL_law_491 : decode cL_law 491 = .ok (.iaload, 1) := by decide +kernel
theorem dL_law_492 : decode cL_law 492 = .ok (.aload_n 0, 1) := by decide +kernel
theorem dL_law_493 : decode cL_law 493 = .ok (.iload_n 3, 1) := by decide +kernel
theorem dL_law_494 : decode cL_law 494 = .ok (.iconst 2, 1) := by decide +kernel
theorem dL_law_495 : decode cL_law 495 = .ok (.iadd, 1) := by decide +kernel
theorem dL_law_496 : decode cL_law 496 = .ok (.iaload, 1) := by decide +kernel
theorem dL_law_497 : decode cL_law 497 = .ok (.aload_n 0, 1) := by decide +kernel
theorem dL_law_498 : decode cL_law 498 = .ok (.iload_n 3, 1) := by decide +kernel
theorem dL_law_499 : decode cL_law 499 = .ok (.iconst 3, 1) := by decide +kernel
theorem dL_law_500 : decode cL_law 500 = .ok (.iadd, 1) := by decide +kernel
theorem dL_law_501 : decode cL_law 501 = .ok (.iaload, 1) := by decide +kernel
theorem dL_law_502 : decode cL_law 502 = .ok (.aload_n 0, 1) := by decide +kernel
theorem dL_law_503 : decode cL_law 503 = .ok (.iload_n 3, 1) := by decide +kernel
theorem dL_law_504 : decode cL_law 504 = .ok (.iconst 4, 1) := by decide +kernel
theorem dL_law_505 : decode cL_law 505 = .ok (.iadd, 1) := by decide +kernel
theorem dL_law_506 : decode cL_law 506 = .ok (.iaload, 1) := by decide +kernel
theorem dL_law_507 : decode cL_law 507 = .ok (.invokevirtual 62, 3) := by decide +kernel
theorem dL_law_510 : decode cL_law 510 = .ok (.if_icmp .eq 410, 3) := by decide +kernel
theorem dL_law_513 : decode cL_law 513 = .ok (.iconst 0, 1) := by decide +kernel
theorem dL_law_514 : decode cL_law 514 = .ok (.ireturn, 1) := by decide +kernel
theorem dL_law_515 : decode cL_law 515 = .ok (.aload_n 1, 1) := by decide +kernel
theorem dL_law_516 : decode cL_law 516 = .ok (.invokevirtual 63, 3) := by decide +kernel
theorem dL_law_519 : decode cL_law 519 = .ok (.aload_n 2, 1) := by decide +kernel
theorem dL_law_520 : decode cL_law 520 = .ok (.invokevirtual 66, 3) := by decide +kernel
theorem dL_law_523 : decode cL_law 523 = .ok (.if_icmp .eq 397, 3) := by decide +kernel
theorem dL_law_526 : decode cL_law 526 = .ok (.iconst 0, 1) := by decide +kernel
theorem dL_law_527 : decode cL_law 527 = .ok (.ireturn, 1) := by decide +kernel
theorem dL_law_528 : decode cL_law 528 = .ok (.aload_n 1, 1) := by decide +kernel
theorem dL_law_529 : decode cL_law 529 = .ok (.invokevirtual 67, 3) := by decide +kernel
theorem dL_law_532 : decode cL_law 532 = .ok (.aload_n 2, 1) := by decide +kernel
theorem dL_law_533 : decode cL_law 533 = .ok (.invokevirtual 70, 3) := by decide +kernel
theorem dL_law_536 : decode cL_law 536 = .ok (.if_icmp .eq 384, 3) := by decide +kernel
theorem dL_law_539 : decode cL_law 539 = .ok (.iconst 0, 1) := by decide +kernel
theorem dL_law_540 : decode cL_law 540 = .ok (.ireturn, 1) := by decide +kernel
theorem dL_law_541 : decode cL_law 541 = .ok (.aload_n 1, 1) := by decide +kernel
theorem dL_law_542 : decode cL_law 542 = .ok (.aload_n 0, 1) := by decide +kernel
theorem dL_law_543 : decode cL_law 543 = .ok (.iload_n 3, 1) := by decide +kernel
theorem dL_law_544 : decode cL_law 544 = .ok (.iconst 1, 1) := by decide +kernel
theorem dL_law_545 : decode cL_law 545 = .ok (.iadd, 1) := by decide +kernel
theorem dL_law_546 : decode cL_law 546 = .ok (.iaload, 1) := by decide +kernel
theorem dL_law_547 : decode cL_law 547 = .ok (.aload_n 0, 1) := by decide +kernel
theorem dL_law_548 : decode cL_law 548 = .ok (.iload_n 3, 1) := by decide +kernel
theorem dL_law_549 : decode cL_law 549 = .ok (.iconst 2, 1) := by decide +kernel
theorem dL_law_550 : decode cL_law 550 = .ok (.iadd, 1) := by decide +kernel
theorem dL_law_551 : decode cL_law 551 = .ok (.iaload, 1) := by decide +kernel
theorem dL_law_552 : decode cL_law 552 = .ok (.invokevirtual 71, 3) := by decide +kernel
theorem dL_law_555 : decode cL_law 555 = .ok (.aload_n 2, 1) := by decide +kernel
theorem dL_law_556 : decode cL_law 556 = .ok (.aload_n 0, 1) := by decide +kernel
theorem dL_law_557 : decode cL_law 557 = .ok (.iload_n 3, 1) := by decide +kernel
theorem dL_law_558 : decode cL_law 558 = .ok (.iconst 1, 1) := by decide +kernel
theorem dL_law_559 : decode cL_law 559 = .ok (.iadd, 1) := by decide +kernel
theorem dL_law_560 : decode cL_law 560 = .ok (.iaload, 1) := by decide +kernel
theorem dL_law_561 : decode cL_law 561 = .ok (.aload_n 0, 1) := by decide +kernel
theorem dL_law_562 : decode cL_law 562 = .ok (.iload_n 3, 1) := by decide +kernel
theorem dL_law_563 : decode cL_law 563 = .ok (.iconst 2, 1) := by decide +kernel
theorem dL_law_564 : decode cL_law 564 = .ok (.iadd, 1) := by decide +kernel
theorem dL_law_565 : decode cL_law 565 = .ok (.iaload, 1) := by decide +kernel
theorem dL_law_566 : decode cL_law 566 = .ok (.invokevirtual 74, 3) := by decide +kernel
theorem dL_law_569 : decode cL_law 569 = .ok (.if_icmp .eq 351, 3) := by decide +kernel
theorem dL_law_572 : decode cL_law 572 = .ok (.iconst 0, 1) := by decide +kernel
theorem dL_law_573 : decode cL_law 573 = .ok (.ireturn, 1) := by decide +kernel
theorem dL_law_574 : decode cL_law 574 = .ok (.aload_n 1, 1) := by decide +kernel
theorem dL_law_575 : decode cL_law 575 = .ok (.aload_n 0, 1) := by decide +kernel
theorem dL_law_576 : decode cL_law 576 = .ok (.iload_n 3, 1) := by decide +kernel
theorem dL_law_577 : decode cL_law 577 = .ok (.iconst 1, 1) := by decide +kernel
theorem dL_law_578 : decode cL_law 578 = .ok (.iadd, 1) := by decide +kernel
theorem dL_law_579 : decode cL_law 579 = .ok (.iaload, 1) := by decide +kernel
theorem dL_law_580 : decode cL_law 580 = .ok (.aload_n 0, 1) := by decide +kernel
theorem dL_law_581 : decode cL_law 581 = .ok (.iload_n 3, 1) := by decide +kernel
theorem dL_law_582 : decode cL_law 582 = .ok (.iconst 2, 1) := by decide +kernel
theorem dL_law_583 : decode cL_law 583 = .ok (.iadd, 1) := by decide +kernel
theorem dL_law_584 : decode cL_law 584 = .ok (.iaload, 1) := by decide +kernel
theorem dL_law_585 : decode cL_law 585 = .ok (.invokevirtual 75, 3) := by decide +kernel
theorem dL_law_588 : decode cL_law 588 = .ok (.aload_n 2, 1) := by decide +kernel
theorem dL_law_589 : decode cL_law 589 = .ok (.aload_n 0, 1) := by decide +kernel
theorem dL_law_590 : decode cL_law 590 = .ok (.iload_n 3, 1) := by decide +kernel
theorem dL_law_591 : decode cL_law 591 = .ok (.iconst 1, 1) := by decide +kernel
theorem dL_law_592 : decode cL_law 592 = .ok (.iadd, 1) := by decide +kernel
theorem dL_law_593 : decode cL_law 593 = .ok (.iaload, 1) := by decide +kernel
theorem dL_law_594 : decode cL_law 594 = .ok (.aload_n 0, 1) := by decide +kernel
theorem dL_law_595 : decode cL_law 595 = .ok (.iload_n 3, 1) := by decide +kernel
theorem dL_law_596 : decode cL_law 596 = .ok (.iconst 2, 1) := by decide +kernel
theorem dL_law_597 : decode cL_law 597 = .ok (.iadd, 1) := by decide +kernel
theorem dL_law_598 : decode cL_law 598 = .ok (.iaload, 1) := by decide +kernel
theorem dL_law_599 : decode cL_law 599 = .ok (.invokevirtual 78, 3) := by decide +kernel
theorem dL_law_602 : decode cL_law 602 = .ok (.if_icmp .eq 318, 3) := by decide +kernel
theorem dL_law_605 : decode cL_law 605 = .ok (.iconst 0, 1) := by decide +kernel
theorem dL_law_606 : decode cL_law 606 = .ok (.ireturn, 1) := by decide +kernel
theorem dL_law_607 : decode cL_law 607 = .ok (.aload_n 1, 1) := by decide +kernel
theorem dL_law_608 : decode cL_law 608 = .ok (.aload_n 0, 1) := by decide +kernel
theorem dL_law_609 : decode cL_law 609 = .ok (.iload_n 3, 1) := by decide +kernel
theorem dL_law_610 : decode cL_law 610 = .ok (.iconst 1, 1) := by decide +kernel
theorem dL_law_611 : decode cL_law 611 = .ok (.iadd, 1) := by decide +kernel
theorem dL_law_612 : decode cL_law 612 = .ok (.iaload, 1) := by decide +kernel
theorem dL_law_613 : decode cL_law 613 = .ok (.aload_n 0, 1) := by decide +kernel
theorem dL_law_614 : decode cL_law 614 = .ok (.iload_n 3, 1) := by decide +kernel
theorem dL_law_615 : decode cL_law 615 = .ok (.iconst 2, 1) := by decide +kernel
theorem dL_law_616 : decode cL_law 616 = .ok (.iadd, 1) := by decide +kernel
theorem dL_law_617 : decode cL_law 617 = .ok (.iaload, 1) := by decide +kernel
theorem dL_law_618 : decode cL_law 618 = .ok (.invokevirtual 79, 3) := by decide +kernel
theorem dL_law_621 : decode cL_law 621 = .ok (.aload_n 2, 1) := by decide +kernel
theorem dL_law_622 : decode cL_law 622 = .ok (.aload_n 0, 1) := by decide +kernel
theorem dL_law_623 : decode cL_law 623 = .ok (.iload_n 3, 1) := by decide +kernel
theorem dL_law_624 : decode cL_law 624 = .ok (.iconst 1, 1) := by decide +kernel
theorem dL_law_625 : decode cL_law 625 = .ok (.iadd, 1) := by decide +kernel
theorem dL_law_626 : decode cL_law 626 = .ok (.iaload, 1) := by decide +kernel
theorem dL_law_627 : decode cL_law 627 = .ok (.aload_n 0, 1) := by decide +kernel
theorem dL_law_628 : decode cL_law 628 = .ok (.iload_n 3, 1) := by decide +kernel
theorem dL_law_629 : decode cL_law 629 = .ok (.iconst 2, 1) := by decide +kernel
theorem dL_law_630 : decode cL_law 630 = .ok (.iadd, 1) := by decide +kernel
theorem dL_law_631 : decode cL_law 631 = .ok (.iaload, 1) := by decide +kernel
theorem dL_law_632 : decode cL_law 632 = .ok (.invokevirtual 82, 3) := by decide +kernel
theorem dL_law_635 : decode cL_law 635 = .ok (.if_icmp .eq 285, 3) := by decide +kernel
theorem dL_law_638 : decode cL_law 638 = .ok (.iconst 0, 1) := by decide +kernel
theorem dL_law_639 : decode cL_law 639 = .ok (.ireturn, 1) := by decide +kernel
theorem dL_law_640 : decode cL_law 640 = .ok (.aload_n 1, 1) := by decide +kernel
theorem dL_law_641 : decode cL_law 641 = .ok (.aload_n 0, 1) := by decide +kernel
theorem dL_law_642 : decode cL_law 642 = .ok (.iload_n 3, 1) := by decide +kernel
theorem dL_law_643 : decode cL_law 643 = .ok (.iconst 1, 1) := by decide +kernel
theorem dL_law_644 : decode cL_law 644 = .ok (.iadd, 1) := by decide +kernel
theorem dL_law_645 : decode cL_law 645 = .ok (.iaload, 1) := by decide +kernel
theorem dL_law_646 : decode cL_law 646 = .ok (.aload_n 0, 1) := by decide +kernel
theorem dL_law_647 : decode cL_law 647 = .ok (.iload_n 3, 1) := by decide +kernel
theorem dL_law_648 : decode cL_law 648 = .ok (.iconst 2, 1) := by decide +kernel
theorem dL_law_649 : decode cL_law 649 = .ok (.iadd, 1) := by decide +kernel
theorem dL_law_650 : decode cL_law 650 = .ok (.iaload, 1) := by decide +kernel
theorem dL_law_651 : decode cL_law 651 = .ok (.invokevirtual 83, 3) := by decide +kernel
theorem dL_law_654 : decode cL_law 654 = .ok (.aload_n 2, 1) := by decide +kernel
theorem dL_law_655 : decode cL_law 655 = .ok (.aload_n 0, 1) := by decide +kernel
theorem dL_law_656 : decode cL_law 656 = .ok (.iload_n 3, 1) := by decide +kernel
theorem dL_law_657 : decode cL_law 657 = .ok (.iconst 1, 1) := by decide +kernel
theorem dL_law_658 : decode cL_law 658 = .ok (.iadd, 1) := by decide +kernel
theorem dL_law_659 : decode cL_law 659 = .ok (.iaload, 1) := by decide +kernel
theorem dL_law_660 : decode cL_law 660 = .ok (.aload_n 0, 1) := by decide +kernel
theorem dL_law_661 : decode cL_law 661 = .ok (.iload_n 3, 1) := by decide +kernel
theorem dL_law_662 : decode cL_law 662 = .ok (.iconst 2, 1) := by decide +kernel
theorem dL_law_663 : decode cL_law 663 = .ok (.iadd, 1) := by decide +kernel
theorem dL_law_664 : decode cL_law 664 = .ok (.iaload, 1) := by decide +kernel
theorem dL_law_665 : decode cL_law 665 = .ok (.invokevirtual 86, 3) := by decide +kernel
theorem dL_law_668 : decode cL_law 668 = .ok (.if_icmp .eq 252, 3) := by decide +kernel
theorem dL_law_671 : decode cL_law 671 = .ok (.iconst 0, 1) := by decide +kernel
theorem dL_law_672 : decode cL_law 672 = .ok (.ireturn, 1) := by decide +kernel
theorem dL_law_673 : decode cL_law 673 = .ok (.aload_n 1, 1) := by decide +kernel
theorem dL_law_674 : decode cL_law 674 = .ok (.aload_n 0, 1) := by decide +kernel
theorem dL_law_675 : decode cL_law 675 = .ok (.iload_n 3, 1) := by decide +kernel
theorem dL_law_676 : decode cL_law 676 = .ok (.iconst 1, 1) := by decide +kernel
theorem dL_law_677 : decode cL_law 677 = .ok (.iadd, 1) := by decide +kernel
theorem dL_law_678 : decode cL_law 678 = .ok (.iaload, 1) := by decide +kernel
theorem dL_law_679 : decode cL_law 679 = .ok (.aload_n 0, 1) := by decide +kernel
theorem dL_law_680 : decode cL_law 680 = .ok (.iload_n 3, 1) := by decide +kernel
theorem dL_law_681 : decode cL_law 681 = .ok (.iconst 2, 1) := by decide +kernel
theorem dL_law_682 : decode cL_law 682 = .ok (.iadd, 1) := by decide +kernel
theorem dL_law_683 : decode cL_law 683 = .ok (.iaload, 1) := by decide +kernel
theorem dL_law_684 : decode cL_law 684 = .ok (.invokevirtual 87, 3) := by decide +kernel
theorem dL_law_687 : decode cL_law 687 = .ok (.aload_n 2, 1) := by decide +kernel
theorem dL_law_688 : decode cL_law 688 = .ok (.aload_n 0, 1) := by decide +kernel
theorem dL_law_689 : decode cL_law 689 = .ok (.iload_n 3, 1) := by decide +kernel
theorem dL_law_690 : decode cL_law 690 = .ok (.iconst 1, 1) := by decide +kernel
theorem dL_law_691 : decode cL_law 691 = .ok (.iadd, 1) := by decide +kernel
theorem dL_law_692 : decode cL_law 692 = .ok (.iaload, 1) := by decide +kernel
theorem dL_law_693 : decode cL_law 693 = .ok (.aload_n 0, 1) := by decide +kernel
theorem dL_law_694 : decode cL_law 694 = .ok (.iload_n 3, 1) := by decide +kernel
theorem dL_law_695 : decode cL_law 695 = .ok (.iconst 2, 1) := by decide +kernel
theorem dL_law_696 : decode cL_law 696 = .ok (.iadd, 1) := by decide +kernel
theorem dL_law_697 : decode cL_law 697 = .ok (.iaload, 1) := by decide +kernel
theorem dL_law_698 : decode cL_law 698 = .ok (.invokevirtual 90, 3) := by decide +kernel
theorem dL_law_701 : decode cL_law 701 = .ok (.if_icmp .eq 219, 3) := by decide +kernel
theorem dL_law_704 : decode cL_law 704 = .ok (.iconst 0, 1) := by decide +kernel
theorem dL_law_705 : decode cL_law 705 = .ok (.ireturn, 1) := by decide +kernel
theorem dL_law_706 : decode cL_law 706 = .ok (.aload_n 1, 1) := by decide +kernel
theorem dL_law_707 : decode cL_law 707 = .ok (.aload_n 0, 1) := by decide +kernel
theorem dL_law_708 : decode cL_law 708 = .ok (.iload_n 3, 1) := by decide +kernel
theorem dL_law_709 : decode cL_law 709 = .ok (.iconst 1, 1) := by decide +kernel
theorem dL_law_710 : decode cL_law 710 = .ok (.iadd, 1) := by decide +kernel
theorem dL_law_711 : decode cL_law 711 = .ok (.iaload, 1) := by decide +kernel
theorem dL_law_712 : decode cL_law 712 = .ok (.aload_n 0, 1) := by decide +kernel
theorem dL_law_713 : decode cL_law 713 = .ok (.iload_n 3, 1) := by decide +kernel
theorem dL_law_714 : decode cL_law 714 = .ok (.iconst 2, 1) := by decide +kernel
theorem dL_law_715 : decode cL_law 715 = .ok (.iadd, 1) := by decide +kernel
theorem dL_law_716 : decode cL_law 716 = .ok (.iaload, 1) := by decide +kernel
theorem dL_law_717 : decode cL_law 717 = .ok (.invokevirtual 91, 3) := by decide +kernel
theorem dL_law_720 : decode cL_law 720 = .ok (.aload_n 2, 1) := by decide +kernel
theorem dL_law_721 : decode cL_law 721 = .ok (.aload_n 0, 1) := by decide +kernel
theorem dL_law_722 : decode cL_law 722 = .ok (.iload_n 3, 1) := by decide +kernel
theorem dL_law_723 : decode cL_law 723 = .ok (.iconst 1, 1) := by decide +kernel
theorem dL_law_724 : decode cL_law 724 = .ok (.iadd, 1) := by decide +kernel
theorem dL_law_725 : decode cL_law 725 = .ok (.iaload, 1) := by decide +kernel
theorem dL_law_726 : decode cL_law 726 = .ok (.aload_n 0, 1) := by decide +kernel
theorem dL_law_727 : decode cL_law 727 = .ok (.iload_n 3, 1) := by decide +kernel
theorem dL_law_728 : decode cL_law 728 = .ok (.iconst 2, 1) := by decide +kernel
theorem dL_law_729 : decode cL_law 729 = .ok (.iadd, 1) := by decide +kernel
theorem dL_law_730 : decode cL_law 730 = .ok (.iaload, 1) := by decide +kernel
theorem dL_law_731 : decode cL_law 731 = .ok (.invokevirtual 94, 3) := by decide +kernel
theorem dL_law_734 : decode cL_law 734 = .ok (.if_icmp .eq 186, 3) := by decide +kernel
theorem dL_law_737 : decode cL_law 737 = .ok (.iconst 0, 1) := by decide +kernel
theorem dL_law_738 : decode cL_law 738 = .ok (.ireturn, 1) := by decide +kernel
theorem dL_law_739 : decode cL_law 739 = .ok (.aload_n 1, 1) := by decide +kernel
theorem dL_law_740 : decode cL_law 740 = .ok (.aload_n 0, 1) := by decide +kernel
theorem dL_law_741 : decode cL_law 741 = .ok (.iload_n 3, 1) := by decide +kernel
theorem dL_law_742 : decode cL_law 742 = .ok (.iconst 1, 1) := by decide +kernel
theorem dL_law_743 : decode cL_law 743 = .ok (.iadd, 1) := by decide +kernel
theorem dL_law_744 : decode cL_law 744 = .ok (.iaload, 1) := by decide +kernel
theorem dL_law_745 : decode cL_law 745 = .ok (.invokevirtual 95, 3) := by decide +kernel
theorem dL_law_748 : decode cL_law 748 = .ok (.aload_n 2, 1) := by decide +kernel
theorem dL_law_749 : decode cL_law 749 = .ok (.aload_n 0, 1) := by decide +kernel
theorem dL_law_750 : decode cL_law 750 = .ok (.iload_n 3, 1) := by decide +kernel
theorem dL_law_751 : decode cL_law 751 = .ok (.iconst 1, 1) := by decide +kernel
theorem dL_law_752 : decode cL_law 752 = .ok (.iadd, 1) := by decide +kernel
theorem dL_law_753 : decode cL_law 753 = .ok (.iaload, 1) := by decide +kernel
theorem dL_law_754 : decode cL_law 754 = .ok (.invokevirtual 98, 3) := by decide +kernel
theorem dL_law_757 : decode cL_law 757 = .ok (.if_icmp .eq 163, 3) := by decide +kernel
theorem dL_law_760 : decode cL_law 760 = .ok (.iconst 0, 1) := by decide +kernel
theorem dL_law_761 : decode cL_law 761 = .ok (.ireturn, 1) := by decide +kernel
theorem dL_law_762 : decode cL_law 762 = .ok (.aload_n 1, 1) := by decide +kernel
theorem dL_law_763 : decode cL_law 763 = .ok (.aload_n 0, 1) := by decide +kernel
theorem dL_law_764 : decode cL_law 764 = .ok (.iload_n 3, 1) := by decide +kernel
theorem dL_law_765 : decode cL_law 765 = .ok (.iconst 1, 1) := by decide +kernel
theorem dL_law_766 : decode cL_law 766 = .ok (.iadd, 1) := by decide +kernel
theorem dL_law_767 : decode cL_law 767 = .ok (.iaload, 1) := by decide +kernel
theorem dL_law_768 : decode cL_law 768 = .ok (.aload_n 0, 1) := by decide +kernel
theorem dL_law_769 : decode cL_law 769 = .ok (.iload_n 3, 1) := by decide +kernel
theorem dL_law_770 : decode cL_law 770 = .ok (.iconst 2, 1) := by decide +kernel
theorem dL_law_771 : decode cL_law 771 = .ok (.iadd, 1) := by decide +kernel
theorem dL_law_772 : decode cL_law 772 = .ok (.iaload, 1) := by decide +kernel
theorem dL_law_773 : decode cL_law 773 = .ok (.invokevirtual 99, 3) := by decide +kernel
theorem dL_law_776 : decode cL_law 776 = .ok (.aload_n 2, 1) := by decide +kernel
theorem dL_law_777 : decode cL_law 777 = .ok (.aload_n 0, 1) := by decide +kernel
theorem dL_law_778 : decode cL_law 778 = .ok (.iload_n 3, 1) := by decide +kernel
theorem dL_law_779 : decode cL_law 779 = .ok (.iconst 1, 1) := by decide +kernel
theorem dL_law_780 : decode cL_law 780 = .ok (.iadd, 1) := by decide +kernel
theorem dL_law_781 : decode cL_law 781 = .ok (.iaload, 1) := by decide +kernel
theorem dL_law_782 : decode cL_law 782 = .ok (.aload_n 0, 1) := by decide +kernel
theorem dL_law_783 : decode cL_law 783 = .ok (.iload_n 3, 1) := by decide +kernel
theorem dL_law_784 : decode cL_law 784 = .ok (.iconst 2, 1) := by decide +kernel
theorem dL_law_785 : decode cL_law 785 = .ok (.iadd, 1) := by decide +kernel
theorem dL_law_786 : decode cL_law 786 = .ok (.iaload, 1) := by decide +kernel
theorem dL_law_787 : decode cL_law 787 = .ok (.invokevirtual 102, 3) := by decide +kernel
theorem dL_law_790 : decode cL_law 790 = .ok (.if_icmp .eq 130, 3) := by decide +kernel
theorem dL_law_793 : decode cL_law 793 = .ok (.iconst 0, 1) := by decide +kernel
theorem dL_law_794 : decode cL_law 794 = .ok (.ireturn, 1) := by decide +kernel
theorem dL_law_795 : decode cL_law 795 = .ok (.aload_n 1, 1) := by decide +kernel
theorem dL_law_796 : decode cL_law 796 = .ok (.aload_n 0, 1) := by decide +kernel
theorem dL_law_797 : decode cL_law 797 = .ok (.iload_n 3, 1) := by decide +kernel
theorem dL_law_798 : decode cL_law 798 = .ok (.iconst 1, 1) := by decide +kernel
theorem dL_law_799 : decode cL_law 799 = .ok (.iadd, 1) := by decide +kernel
theorem dL_law_800 : decode cL_law 800 = .ok (.iaload, 1) := by decide +kernel
theorem dL_law_801 : decode cL_law 801 = .ok (.invokevirtual 103, 3) := by decide +kernel
theorem dL_law_804 : decode cL_law 804 = .ok (.aload_n 2, 1) := by decide +kernel
theorem dL_law_805 : decode cL_law 805 = .ok (.aload_n 0, 1) := by decide +kernel
theorem dL_law_806 : decode cL_law 806 = .ok (.iload_n 3, 1) := by decide +kernel
theorem dL_law_807 : decode cL_law 807 = .ok (.iconst 1, 1) := by decide +kernel
theorem dL_law_808 : decode cL_law 808 = .ok (.iadd, 1) := by decide +kernel
theorem dL_law_809 : decode cL_law 809 = .ok (.iaload, 1) := by decide +kernel
theorem dL_law_810 : decode cL_law 810 = .ok (.invokevirtual 106, 3) := by decide +kernel
theorem dL_law_813 : decode cL_law 813 = .ok (.if_icmp .eq 107, 3) := by decide +kernel
theorem dL_law_816 : decode cL_law 816 = .ok (.iconst 0, 1) := by decide +kernel
theorem dL_law_817 : decode cL_law 817 = .ok (.ireturn, 1) := by decide +kernel
theorem dL_law_818 : decode cL_law 818 = .ok (.aload_n 1, 1) := by decide +kernel
theorem dL_law_819 : decode cL_law 819 = .ok (.aload_n 0, 1) := by decide +kernel
theorem dL_law_820 : decode cL_law 820 = .ok (.iload_n 3, 1) := by decide +kernel
theorem dL_law_821 : decode cL_law 821 = .ok (.iconst 1, 1) := by decide +kernel
theorem dL_law_822 : decode cL_law 822 = .ok (.iadd, 1) := by decide +kernel
theorem dL_law_823 : decode cL_law 823 = .ok (.iaload, 1) := by decide +kernel
theorem dL_law_824 : decode cL_law 824 = .ok (.aload_n 0, 1) := by decide +kernel
theorem dL_law_825 : decode cL_law 825 = .ok (.iload_n 3, 1) := by decide +kernel
theorem dL_law_826 : decode cL_law 826 = .ok (.iconst 2, 1) := by decide +kernel
theorem dL_law_827 : decode cL_law 827 = .ok (.iadd, 1) := by decide +kernel
theorem dL_law_828 : decode cL_law 828 = .ok (.iaload, 1) := by decide +kernel
theorem dL_law_829 : decode cL_law 829 = .ok (.invokevirtual 107, 3) := by decide +kernel
theorem dL_law_832 : decode cL_law 832 = .ok (.aload_n 2, 1) := by decide +kernel
theorem dL_law_833 : decode cL_law 833 = .ok (.aload_n 0, 1) := by decide +kernel
theorem dL_law_834 : decode cL_law 834 = .ok (.iload_n 3, 1) := by decide +kernel
theorem dL_law_835 : decode cL_law 835 = .ok (.iconst 1, 1) := by decide +kernel
theorem dL_law_836 : decode cL_law 836 = .ok (.iadd, 1) := by decide +kernel
theorem dL_law_837 : decode cL_law 837 = .ok (.iaload, 1) := by decide +kernel
theorem dL_law_838 : decode cL_law 838 = .ok (.aload_n 0, 1) := by decide +kernel
theorem dL_law_839 : decode cL_law 839 = .ok (.iload_n 3, 1) := by decide +kernel
theorem dL_law_840 : decode cL_law 840 = .ok (.iconst 2, 1) := by decide +kernel
theorem dL_law_841 : decode cL_law 841 = .ok (.iadd, 1) := by decide +kernel
theorem dL_law_842 : decode cL_law 842 = .ok (.iaload, 1) := by decide +kernel
theorem dL_law_843 : decode cL_law 843 = .ok (.invokevirtual 110, 3) := by decide +kernel
theorem dL_law_846 : decode cL_law 846 = .ok (.if_icmp .eq 74, 3) := by decide +kernel
theorem dL_law_849 : decode cL_law 849 = .ok (.iconst 0, 1) := by decide +kernel
theorem dL_law_850 : decode cL_law 850 = .ok (.ireturn, 1) := by decide +kernel
theorem dL_law_851 : decode cL_law 851 = .ok (.aload_n 1, 1) := by decide +kernel
theorem dL_law_852 : decode cL_law 852 = .ok (.aload_n 0, 1) := by decide +kernel
theorem dL_law_853 : decode cL_law 853 = .ok (.iload_n 3, 1) := by decide +kernel
theorem dL_law_854 : decode cL_law 854 = .ok (.iconst 1, 1) := by decide +kernel
theorem dL_law_855 : decode cL_law 855 = .ok (.iadd, 1) := by decide +kernel
theorem dL_law_856 : decode cL_law 856 = .ok (.iaload, 1) := by decide +kernel
theorem dL_law_857 : decode cL_law 857 = .ok (.invokevirtual 111, 3) := by decide +kernel
theorem dL_law_860 : decode cL_law 860 = .ok (.aload_n 2, 1) := by decide +kernel
theorem dL_law_861 : decode cL_law 861 = .ok (.aload_n 0, 1) := by decide +kernel
theorem dL_law_862 : decode cL_law 862 = .ok (.iload_n 3, 1) := by decide +kernel
theorem dL_law_863 : decode cL_law 863 = .ok (.iconst 1, 1) := by decide +kernel
theorem dL_law_864 : decode cL_law 864 = .ok (.iadd, 1) := by decide +kernel
theorem dL_law_865 : decode cL_law 865 = .ok (.iaload, 1) := by decide +kernel
theorem dL_law_866 : decode cL_law 866 = .ok (.invokevirtual 114, 3) := by decide +kernel
theorem dL_law_869 : decode cL_law 869 = .ok (.if_icmp .eq 51, 3) := by decide +kernel
theorem dL_law_872 : decode cL_law 872 = .ok (.iconst 0, 1) := by decide +kernel
theorem dL_law_873 : decode cL_law 873 = .ok (.ireturn, 1) := by decide +kernel
theorem dL_law_874 : decode cL_law 874 = .ok (.aload_n 1, 1) := by decide +kernel
theorem dL_law_875 : decode cL_law 875 = .ok (.aload_n 0, 1) := by decide +kernel
theorem dL_law_876 : decode cL_law 876 = .ok (.iload_n 3, 1) := by decide +kernel
theorem dL_law_877 : decode cL_law 877 = .ok (.iconst 1, 1) := by decide +kernel
theorem dL_law_878 : decode cL_law 878 = .ok (.iadd, 1) := by decide +kernel
theorem dL_law_879 : decode cL_law 879 = .ok (.iaload, 1) := by decide +kernel
theorem dL_law_880 : decode cL_law 880 = .ok (.invokevirtual 115, 3) := by decide +kernel
theorem dL_law_883 : decode cL_law 883 = .ok (.aload_n 2, 1) := by decide +kernel
theorem dL_law_884 : decode cL_law 884 = .ok (.aload_n 0, 1) := by decide +kernel
theorem dL_law_885 : decode cL_law 885 = .ok (.iload_n 3, 1) := by decide +kernel
theorem dL_law_886 : decode cL_law 886 = .ok (.iconst 1, 1) := by decide +kernel
theorem dL_law_887 : decode cL_law 887 = .ok (.iadd, 1) := by decide +kernel
theorem dL_law_888 : decode cL_law 888 = .ok (.iaload, 1) := by decide +kernel
theorem dL_law_889 : decode cL_law 889 = .ok (.invokevirtual 118, 3) := by decide +kernel
theorem dL_law_892 : decode cL_law 892 = .ok (.if_icmp .eq 28, 3) := by decide +kernel
theorem dL_law_895 : decode cL_law 895 = .ok (.iconst 0, 1) := by decide +kernel
theorem dL_law_896 : decode cL_law 896 = .ok (.ireturn, 1) := by decide +kernel
theorem dL_law_897 : decode cL_law 897 = .ok (.aload_n 1, 1) := by decide +kernel
theorem dL_law_898 : decode cL_law 898 = .ok (.aload_n 0, 1) := by decide +kernel
theorem dL_law_899 : decode cL_law 899 = .ok (.iload_n 3, 1) := by decide +kernel
theorem dL_law_900 : decode cL_law 900 = .ok (.iconst 1, 1) := by decide +kernel
theorem dL_law_901 : decode cL_law 901 = .ok (.iadd, 1) := by decide +kernel
theorem dL_law_902 : decode cL_law 902 = .ok (.iaload, 1) := by decide +kernel
theorem dL_law_903 : decode cL_law 903 = .ok (.invokevirtual 119, 3) := by decide +kernel
theorem dL_law_906 : decode cL_law 906 = .ok (.aload_n 2, 1) := by decide +kernel
theorem dL_law_907 : decode cL_law 907 = .ok (.aload_n 0, 1) := by decide +kernel
theorem dL_law_908 : decode cL_law 908 = .ok (.iload_n 3, 1) := by decide +kernel
theorem dL_law_909 : decode cL_law 909 = .ok (.iconst 1, 1) := by decide +kernel
theorem dL_law_910 : decode cL_law 910 = .ok (.iadd, 1) := by decide +kernel
theorem dL_law_911 : decode cL_law 911 = .ok (.iaload, 1) := by decide +kernel
theorem dL_law_912 : decode cL_law 912 = .ok (.invokevirtual 122, 3) := by decide +kernel
theorem dL_law_915 : decode cL_law 915 = .ok (.if_icmp .eq 5, 3) := by decide +kernel
theorem dL_law_918 : decode cL_law 918 = .ok (.iconst 0, 1) := by decide +kernel
theorem dL_law_919 : decode cL_law 919 = .ok (.ireturn, 1) := by decide +kernel
theorem dL_law_920 : decode cL_law 920 = .ok (.iinc 3 6, 3) := by decide +kernel
theorem dL_law_923 : decode cL_law 923 = .ok (.goto (-905), 3) := by decide +kernel
theorem dL_law_926 : decode cL_law 926 = .ok (.iconst 1, 1) := by decide +kernel
theorem dL_law_927 : decode cL_law 927 = .ok (.ireturn, 1) := by decide +kernel
end
section
-- THE HEAP AS PLAIN FUNCTIONS: how many cells since n0; kind and length of each; int fields, reference fields (by field's number, by cell); rows of ints, longs, references (by cell, by place). Cells are counted from n0 on.
abbrev Hp : Type := Nat × (Nat → Nat) × (Nat → Nat) × (Nat → Nat → Int32) × (Nat → Nat → Option Nat) × (Nat → Nat → Int32) × (Nat → Nat → Int64) × (Nat → Nat → Option Nat)
def zn (z : Hp) : Nat := z.1
def zK (z : Hp) : Nat → Nat := z.2.1
def zL (z : Hp) : Nat → Nat := z.2.2.1
def zF (z : Hp) : Nat → Nat → Int32 := z.2.2.2.1
def zG (z : Hp) : Nat → Nat → Option Nat := z.2.2.2.2.1
def zA (z : Hp) : Nat → Nat → Int32 := z.2.2.2.2.2.1
def zJ (z : Hp) : Nat → Nat → Int64 := z.2.2.2.2.2.2.1
def zR (z : Hp) : Nat → Nat → Option Nat := z.2.2.2.2.2.2.2
def u2 {α : Type} (f : Nat → Nat → α) (a b : Nat) (v : α) : Nat → Nat → α := fun x y => if x = a ∧ y = b then v else f x y
def zsF (z : Hp) (f a : Nat) (v : Int32) : Hp := (zn z, zK z, zL z, u2 (zF z) f a v, zG z, zA z, zJ z, zR z)
def zsG (z : Hp) (f a : Nat) (v : Option Nat) : Hp := (zn z, zK z, zL z, zF z, u2 (zG z) f a v, zA z, zJ z, zR z)
def zsA (z : Hp) (a i : Nat) (v : Int32) : Hp := (zn z, zK z, zL z, zF z, zG z, u2 (zA z) a i v, zJ z, zR z)
def zsJ (z : Hp) (a i : Nat) (v : Int64) : Hp := (zn z, zK z, zL z, zF z, zG z, zA z, u2 (zJ z) a i v, zR z)
def zsR (z : Hp) (a i : Nat) (v : Option Nat) : Hp := (zn z, zK z, zL z, zF z, zG z, zA z, zJ z, u2 (zR z) a i v)
/-- a new cell of a kind, all its values 0 or null -/
def zal (z : Hp) (k len : Nat) : Hp := (zn z + 1, va_up (zK z) (zn z) k, va_up (zL z) (zn z) len, fun f a => if a = zn z then 0 else zF z f a, fun f a => if a = zn z then none else zG z f a, fun a i => if a = zn z then 0 else zA z a i, fun a i => if a = zn z then 0 else zJ z a i, fun a i => if a = zn z then none else zR z a i)
theorem zF_sF (z : Hp) (f a : Nat) (v : Int32) (g b : Nat) : zF (zsF z f a v) g b = if g = f ∧ b = a then v else zF z g b := rfl
theorem zG_sF (z : Hp) (f a : Nat) (v : Int32) : zG (zsF z f a v) = zG z := rfl
theorem zF_sG (z : Hp) (f a : Nat) (v : Option Nat) : zF (zsG z f a v) = zF z := rfl
theorem zG_sG (z : Hp) (f a : Nat) (v : Option Nat) (g b : Nat) : zG (zsG z f a v) g b = if g = f ∧ b = a then v else zG z g b := rfl
theorem zF_al_self (z : Hp) (k n g : Nat) : zF (zal z k n) g (zn z) = 0 := by simp [zF, zal]
theorem zG_al_self (z : Hp) (k n g : Nat) : zG (zal z k n) g (zn z) = none := by simp [zG, zal]
def rv (n0 : Nat) (r : Option Nat) : Value := match r with
  | none => .null
  | some a => .ref (n0 + a)
theorem rv_rf (n0 : Nat) (r : Option Nat) : va_rf (r.map (n0 + ·)) = rv n0 r := by cases r <;> rfl
/-- the values of an object, by its kind -/
def fv (n0 : Nat) (z : Hp) (k a : Nat) : List Value := match k with
  | 0 => [.int (zF z 0 a), .int (zF z 1 a), .int (zF z 2 a), .int (zF z 3 a), .int (zF z 4 a), .int (zF z 5 a), .int (zF z 6 a), rv n0 (zG z 7 a)]
  | 1 => [.int (zF z 768 a), .int (zF z 769 a), .int (zF z 770 a), .int (zF z 771 a), .int (zF z 68 a), .int (zF z 69 a), .int (zF z 70 a), .int (zF z 71 a), .int (zF z 72 a)]
  | 2 => [rv n0 (zG z 128 a), rv n0 (zG z 129 a), rv n0 (zG z 130 a), rv n0 (zG z 131 a), .int (zF z 132 a), .int (zF z 133 a), .int (zF z 134 a)]
  | 3 => [rv n0 (zG z 192 a), rv n0 (zG z 193 a), .int (zF z 194 a), .int (zF z 195 a), .int (zF z 196 a), .int (zF z 197 a), .int (zF z 198 a), .int (zF z 199 a)]
  | 4 => [rv n0 (zG z 256 a), .int (zF z 257 a)]
  | 5 => [.int (zF z 768 a), .int (zF z 769 a), .int (zF z 770 a), .int (zF z 771 a), .int (zF z 324 a), .int (zF z 325 a), .int (zF z 326 a), .int (zF z 327 a)]
  | 6 => [rv n0 (zG z 384 a), rv n0 (zG z 385 a)]
  | 7 => [.int (zF z 768 a), .int (zF z 769 a), .int (zF z 770 a), .int (zF z 771 a), .int (zF z 452 a), .int (zF z 453 a), .int (zF z 454 a), .int (zF z 455 a), .int (zF z 456 a), .int (zF z 457 a)]
  | 8 => [.int (zF z 512 a), .int (zF z 513 a), .int (zF z 514 a), rv n0 (zG z 515 a), rv n0 (zG z 516 a), rv n0 (zG z 517 a), .int (zF z 518 a)]
  | 9 => [rv n0 (zG z 576 a), .int (zF z 577 a), .int (zF z 578 a), .int (zF z 579 a)]
  | 10 => [rv n0 (zG z 640 a), rv n0 (zG z 641 a), rv n0 (zG z 642 a), rv n0 (zG z 643 a), rv n0 (zG z 644 a), rv n0 (zG z 645 a), .int (zF z 646 a), .int (zF z 647 a), .int (zF z 648 a), .int (zF z 649 a), .int (zF z 650 a), .int (zF z 651 a)]
  | 11 => [.int (zF z 704 a), .int (zF z 705 a), .int (zF z 706 a), rv n0 (zG z 707 a), rv n0 (zG z 708 a), rv n0 (zG z 709 a), rv n0 (zG z 710 a), .int (zF z 711 a), rv n0 (zG z 712 a), rv n0 (zG z 713 a), rv n0 (zG z 714 a), rv n0 (zG z 715 a), rv n0 (zG z 716 a), .int (zF z 717 a), .int (zF z 718 a), .int (zF z 719 a), rv n0 (zG z 720 a), rv n0 (zG z 721 a), rv n0 (zG z 722 a), rv n0 (zG z 723 a), rv n0 (zG z 724 a), rv n0 (zG z 725 a), rv n0 (zG z 726 a), .int (zF z 727 a), rv n0 (zG z 728 a), rv n0 (zG z 729 a), rv n0 (zG z 730 a), rv n0 (zG z 731 a), rv n0 (zG z 732 a), rv n0 (zG z 733 a), rv n0 (zG z 734 a), rv n0 (zG z 735 a), rv n0 (zG z 736 a), rv n0 (zG z 737 a), rv n0 (zG z 738 a), .int (zF z 739 a), rv n0 (zG z 740 a), .int (zF z 741 a), .int (zF z 742 a), .int (zF z 743 a), .int (zF z 744 a), .int (zF z 745 a), .int (zF z 746 a), .int (zF z 747 a), .int (zF z 748 a), .int (zF z 749 a), .int (zF z 750 a), rv n0 (zG z 751 a), rv n0 (zG z 752 a), .int (zF z 753 a)]
  | _ => []
theorem st_0_0 (n0 : Nat) (z : Hp) (a : Nat) (x : Int32) : fv n0 (zsF z 0 a x) 0 a = (fv n0 z 0 a).set 0 (.int x) := by simp [fv, zF_sF, zG_sF]
theorem st_0_1 (n0 : Nat) (z : Hp) (a : Nat) (x : Int32) : fv n0 (zsF z 1 a x) 0 a = (fv n0 z 0 a).set 1 (.int x) := by simp [fv, zF_sF, zG_sF]
theorem st_0_2 (n0 : Nat) (z : Hp) (a : Nat) (x : Int32) : fv n0 (zsF z 2 a x) 0 a = (fv n0 z 0 a).set 2 (.int x) := by simp [fv, zF_sF, zG_sF]
theorem st_0_3 (n0 : Nat) (z : Hp) (a : Nat) (x : Int32) : fv n0 (zsF z 3 a x) 0 a = (fv n0 z 0 a).set 3 (.int x) := by simp [fv, zF_sF, zG_sF]
theorem st_0_4 (n0 : Nat) (z : Hp) (a : Nat) (x : Int32) : fv n0 (zsF z 4 a x) 0 a = (fv n0 z 0 a).set 4 (.int x) := by simp [fv, zF_sF, zG_sF]
theorem st_0_5 (n0 : Nat) (z : Hp) (a : Nat) (x : Int32) : fv n0 (zsF z 5 a x) 0 a = (fv n0 z 0 a).set 5 (.int x) := by simp [fv, zF_sF, zG_sF]
theorem st_0_6 (n0 : Nat) (z : Hp) (a : Nat) (x : Int32) : fv n0 (zsF z 6 a x) 0 a = (fv n0 z 0 a).set 6 (.int x) := by simp [fv, zF_sF, zG_sF]
theorem st_0_7 (n0 : Nat) (z : Hp) (a : Nat) (x : Option Nat) : fv n0 (zsG z 7 a x) 0 a = (fv n0 z 0 a).set 7 (rv n0 x) := by simp [fv, zF_sG, zG_sG]
theorem nw_0 (n0 : Nat) (z : Hp) (j : Nat) (hj : j < 8) : defaultValue (tyX0 j) = vp_V (fv n0 (zal z 0 0) 0 (zn z)) j := by
  have h : fv n0 (zal z 0 0) 0 (zn z) = [.int 0, .int 0, .int 0, .int 0, .int 0, .int 0, .int 0, .null] := by simp [fv, zF_al_self, zG_al_self, rv]
  rw [h]
  rcases (show j = 0 ∨ j = 1 ∨ j = 2 ∨ j = 3 ∨ j = 4 ∨ j = 5 ∨ j = 6 ∨ j = 7 by omega) with rfl | rfl | rfl | rfl | rfl | rfl | rfl | rfl <;> rfl
theorem st_1_0 (n0 : Nat) (z : Hp) (a : Nat) (x : Int32) : fv n0 (zsF z 768 a x) 1 a = (fv n0 z 1 a).set 0 (.int x) := by simp [fv, zF_sF, zG_sF]
theorem st_1_1 (n0 : Nat) (z : Hp) (a : Nat) (x : Int32) : fv n0 (zsF z 769 a x) 1 a = (fv n0 z 1 a).set 1 (.int x) := by simp [fv, zF_sF, zG_sF]
theorem st_1_2 (n0 : Nat) (z : Hp) (a : Nat) (x : Int32) : fv n0 (zsF z 770 a x) 1 a = (fv n0 z 1 a).set 2 (.int x) := by simp [fv, zF_sF, zG_sF]
theorem st_1_3 (n0 : Nat) (z : Hp) (a : Nat) (x : Int32) : fv n0 (zsF z 771 a x) 1 a = (fv n0 z 1 a).set 3 (.int x) := by simp [fv, zF_sF, zG_sF]
theorem st_1_4 (n0 : Nat) (z : Hp) (a : Nat) (x : Int32) : fv n0 (zsF z 68 a x) 1 a = (fv n0 z 1 a).set 4 (.int x) := by simp [fv, zF_sF, zG_sF]
theorem st_1_5 (n0 : Nat) (z : Hp) (a : Nat) (x : Int32) : fv n0 (zsF z 69 a x) 1 a = (fv n0 z 1 a).set 5 (.int x) := by simp [fv, zF_sF, zG_sF]
theorem st_1_6 (n0 : Nat) (z : Hp) (a : Nat) (x : Int32) : fv n0 (zsF z 70 a x) 1 a = (fv n0 z 1 a).set 6 (.int x) := by simp [fv, zF_sF, zG_sF]
theorem st_1_7 (n0 : Nat) (z : Hp) (a : Nat) (x : Int32) : fv n0 (zsF z 71 a x) 1 a = (fv n0 z 1 a).set 7 (.int x) := by simp [fv, zF_sF, zG_sF]
theorem st_1_8 (n0 : Nat) (z : Hp) (a : Nat) (x : Int32) : fv n0 (zsF z 72 a x) 1 a = (fv n0 z 1 a).set 8 (.int x) := by simp [fv, zF_sF, zG_sF]
theorem nw_1 (n0 : Nat) (z : Hp) (j : Nat) (hj : j < 9) : defaultValue (tyX1 j) = vp_V (fv n0 (zal z 1 0) 1 (zn z)) j := by
  have h : fv n0 (zal z 1 0) 1 (zn z) = [.int 0, .int 0, .int 0, .int 0, .int 0, .int 0, .int 0, .int 0, .int 0] := by simp [fv, zF_al_self, zG_al_self, rv]
  rw [h]
  rcases (show j = 0 ∨ j = 1 ∨ j = 2 ∨ j = 3 ∨ j = 4 ∨ j = 5 ∨ j = 6 ∨ j = 7 ∨ j = 8 by omega) with rfl | rfl | rfl | rfl | rfl | rfl | rfl | rfl | rfl <;> rfl
theorem st_2_0 (n0 : Nat) (z : Hp) (a : Nat) (x : Option Nat) : fv n0 (zsG z 128 a x) 2 a = (fv n0 z 2 a).set 0 (rv n0 x) := by simp [fv, zF_sG, zG_sG]
theorem st_2_1 (n0 : Nat) (z : Hp) (a : Nat) (x : Option Nat) : fv n0 (zsG z 129 a x) 2 a = (fv n0 z 2 a).set 1 (rv n0 x) := by simp [fv, zF_sG, zG_sG]
theorem st_2_2 (n0 : Nat) (z : Hp) (a : Nat) (x : Option Nat) : fv n0 (zsG z 130 a x) 2 a = (fv n0 z 2 a).set 2 (rv n0 x) := by simp [fv, zF_sG, zG_sG]
theorem st_2_3 (n0 : Nat) (z : Hp) (a : Nat) (x : Option Nat) : fv n0 (zsG z 131 a x) 2 a = (fv n0 z 2 a).set 3 (rv n0 x) := by simp [fv, zF_sG, zG_sG]
theorem st_2_4 (n0 : Nat) (z : Hp) (a : Nat) (x : Int32) : fv n0 (zsF z 132 a x) 2 a = (fv n0 z 2 a).set 4 (.int x) := by simp [fv, zF_sF, zG_sF]
theorem st_2_5 (n0 : Nat) (z : Hp) (a : Nat) (x : Int32) : fv n0 (zsF z 133 a x) 2 a = (fv n0 z 2 a).set 5 (.int x) := by simp [fv, zF_sF, zG_sF]
theorem st_2_6 (n0 : Nat) (z : Hp) (a : Nat) (x : Int32) : fv n0 (zsF z 134 a x) 2 a = (fv n0 z 2 a).set 6 (.int x) := by simp [fv, zF_sF, zG_sF]
theorem nw_2 (n0 : Nat) (z : Hp) (j : Nat) (hj : j < 7) : defaultValue (tyX2 j) = vp_V (fv n0 (zal z 2 0) 2 (zn z)) j := by
  have h : fv n0 (zal z 2 0) 2 (zn z) = [.null, .null, .null, .null, .int 0, .int 0, .int 0] := by simp [fv, zF_al_self, zG_al_self, rv]
  rw [h]
  rcases (show j = 0 ∨ j = 1 ∨ j = 2 ∨ j = 3 ∨ j = 4 ∨ j = 5 ∨ j = 6 by omega) with rfl | rfl | rfl | rfl | rfl | rfl | rfl <;> rfl
theorem st_3_0 (n0 : Nat) (z : Hp) (a : Nat) (x : Option Nat) : fv n0 (zsG z 192 a x) 3 a = (fv n0 z 3 a).set 0 (rv n0 x) := by simp [fv, zF_sG, zG_sG]
theorem st_3_1 (n0 : Nat) (z : Hp) (a : Nat) (x : Option Nat) : fv n0 (zsG z 193 a x) 3 a = (fv n0 z 3 a).set 1 (rv n0 x) := by simp [fv, zF_sG, zG_sG]
theorem st_3_2 (n0 : Nat) (z : Hp) (a : Nat) (x : Int32) : fv n0 (zsF z 194 a x) 3 a = (fv n0 z 3 a).set 2 (.int x) := by simp [fv, zF_sF, zG_sF]
theorem st_3_3 (n0 : Nat) (z : Hp) (a : Nat) (x : Int32) : fv n0 (zsF z 195 a x) 3 a = (fv n0 z 3 a).set 3 (.int x) := by simp [fv, zF_sF, zG_sF]
theorem st_3_4 (n0 : Nat) (z : Hp) (a : Nat) (x : Int32) : fv n0 (zsF z 196 a x) 3 a = (fv n0 z 3 a).set 4 (.int x) := by simp [fv, zF_sF, zG_sF]
theorem st_3_5 (n0 : Nat) (z : Hp) (a : Nat) (x : Int32) : fv n0 (zsF z 197 a x) 3 a = (fv n0 z 3 a).set 5 (.int x) := by simp [fv, zF_sF, zG_sF]
theorem st_3_6 (n0 : Nat) (z : Hp) (a : Nat) (x : Int32) : fv n0 (zsF z 198 a x) 3 a = (fv n0 z 3 a).set 6 (.int x) := by simp [fv, zF_sF, zG_sF]
theorem st_3_7 (n0 : Nat) (z : Hp) (a : Nat) (x : Int32) : fv n0 (zsF z 199 a x) 3 a = (fv n0 z 3 a).set 7 (.int x) := by simp [fv, zF_sF, zG_sF]
theorem nw_3 (n0 : Nat) (z : Hp) (j : Nat) (hj : j < 8) : defaultValue (tyX4 j) = vp_V (fv n0 (zal z 3 0) 3 (zn z)) j := by
  have h : fv n0 (zal z 3 0) 3 (zn z) = [.null, .null, .int 0, .int 0, .int 0, .int 0, .int 0, .int 0] := by simp [fv, zF_al_self, zG_al_self, rv]
  rw [h]
  rcases (show j = 0 ∨ j = 1 ∨ j = 2 ∨ j = 3 ∨ j = 4 ∨ j = 5 ∨ j = 6 ∨ j = 7 by omega) with rfl | rfl | rfl | rfl | rfl | rfl | rfl | rfl <;> rfl
theorem st_4_0 (n0 : Nat) (z : Hp) (a : Nat) (x : Option Nat) : fv n0 (zsG z 256 a x) 4 a = (fv n0 z 4 a).set 0 (rv n0 x) := by simp [fv, zF_sG, zG_sG]
theorem st_4_1 (n0 : Nat) (z : Hp) (a : Nat) (x : Int32) : fv n0 (zsF z 257 a x) 4 a = (fv n0 z 4 a).set 1 (.int x) := by simp [fv, zF_sF, zG_sF]
theorem nw_4 (n0 : Nat) (z : Hp) (j : Nat) (hj : j < 2) : defaultValue (tyX5 j) = vp_V (fv n0 (zal z 4 0) 4 (zn z)) j := by
  have h : fv n0 (zal z 4 0) 4 (zn z) = [.null, .int 0] := by simp [fv, zF_al_self, zG_al_self, rv]
  rw [h]
  rcases (show j = 0 ∨ j = 1 by omega) with rfl | rfl <;> rfl
theorem st_5_0 (n0 : Nat) (z : Hp) (a : Nat) (x : Int32) : fv n0 (zsF z 768 a x) 5 a = (fv n0 z 5 a).set 0 (.int x) := by simp [fv, zF_sF, zG_sF]
theorem st_5_1 (n0 : Nat) (z : Hp) (a : Nat) (x : Int32) : fv n0 (zsF z 769 a x) 5 a = (fv n0 z 5 a).set 1 (.int x) := by simp [fv, zF_sF, zG_sF]
theorem st_5_2 (n0 : Nat) (z : Hp) (a : Nat) (x : Int32) : fv n0 (zsF z 770 a x) 5 a = (fv n0 z 5 a).set 2 (.int x) := by simp [fv, zF_sF, zG_sF]
theorem st_5_3 (n0 : Nat) (z : Hp) (a : Nat) (x : Int32) : fv n0 (zsF z 771 a x) 5 a = (fv n0 z 5 a).set 3 (.int x) := by simp [fv, zF_sF, zG_sF]
theorem st_5_4 (n0 : Nat) (z : Hp) (a : Nat) (x : Int32) : fv n0 (zsF z 324 a x) 5 a = (fv n0 z 5 a).set 4 (.int x) := by simp [fv, zF_sF, zG_sF]
theorem st_5_5 (n0 : Nat) (z : Hp) (a : Nat) (x : Int32) : fv n0 (zsF z 325 a x) 5 a = (fv n0 z 5 a).set 5 (.int x) := by simp [fv, zF_sF, zG_sF]
theorem st_5_6 (n0 : Nat) (z : Hp) (a : Nat) (x : Int32) : fv n0 (zsF z 326 a x) 5 a = (fv n0 z 5 a).set 6 (.int x) := by simp [fv, zF_sF, zG_sF]
theorem st_5_7 (n0 : Nat) (z : Hp) (a : Nat) (x : Int32) : fv n0 (zsF z 327 a x) 5 a = (fv n0 z 5 a).set 7 (.int x) := by simp [fv, zF_sF, zG_sF]
theorem nw_5 (n0 : Nat) (z : Hp) (j : Nat) (hj : j < 8) : defaultValue (tyX6 j) = vp_V (fv n0 (zal z 5 0) 5 (zn z)) j := by
  have h : fv n0 (zal z 5 0) 5 (zn z) = [.int 0, .int 0, .int 0, .int 0, .int 0, .int 0, .int 0, .int 0] := by simp [fv, zF_al_self, zG_al_self, rv]
  rw [h]
  rcases (show j = 0 ∨ j = 1 ∨ j = 2 ∨ j = 3 ∨ j = 4 ∨ j = 5 ∨ j = 6 ∨ j = 7 by omega) with rfl | rfl | rfl | rfl | rfl | rfl | rfl | rfl <;> rfl
theorem st_6_0 (n0 : Nat) (z : Hp) (a : Nat) (x : Option Nat) : fv n0 (zsG z 384 a x) 6 a = (fv n0 z 6 a).set 0 (rv n0 x) := by simp [fv, zF_sG, zG_sG]
theorem st_6_1 (n0 : Nat) (z : Hp) (a : Nat) (x : Option Nat) : fv n0 (zsG z 385 a x) 6 a = (fv n0 z 6 a).set 1 (rv n0 x) := by simp [fv, zF_sG, zG_sG]
theorem nw_6 (n0 : Nat) (z : Hp) (j : Nat) (hj : j < 2) : defaultValue (tyX7 j) = vp_V (fv n0 (zal z 6 0) 6 (zn z)) j := by
  have h : fv n0 (zal z 6 0) 6 (zn z) = [.null, .null] := by simp [fv, zF_al_self, zG_al_self, rv]
  rw [h]
  rcases (show j = 0 ∨ j = 1 by omega) with rfl | rfl <;> rfl
theorem st_7_0 (n0 : Nat) (z : Hp) (a : Nat) (x : Int32) : fv n0 (zsF z 768 a x) 7 a = (fv n0 z 7 a).set 0 (.int x) := by simp [fv, zF_sF, zG_sF]
theorem st_7_1 (n0 : Nat) (z : Hp) (a : Nat) (x : Int32) : fv n0 (zsF z 769 a x) 7 a = (fv n0 z 7 a).set 1 (.int x) := by simp [fv, zF_sF, zG_sF]
theorem st_7_2 (n0 : Nat) (z : Hp) (a : Nat) (x : Int32) : fv n0 (zsF z 770 a x) 7 a = (fv n0 z 7 a).set 2 (.int x) := by simp [fv, zF_sF, zG_sF]
theorem st_7_3 (n0 : Nat) (z : Hp) (a : Nat) (x : Int32) : fv n0 (zsF z 771 a x) 7 a = (fv n0 z 7 a).set 3 (.int x) := by simp [fv, zF_sF, zG_sF]
theorem st_7_4 (n0 : Nat) (z : Hp) (a : Nat) (x : Int32) : fv n0 (zsF z 452 a x) 7 a = (fv n0 z 7 a).set 4 (.int x) := by simp [fv, zF_sF, zG_sF]
theorem st_7_5 (n0 : Nat) (z : Hp) (a : Nat) (x : Int32) : fv n0 (zsF z 453 a x) 7 a = (fv n0 z 7 a).set 5 (.int x) := by simp [fv, zF_sF, zG_sF]
theorem st_7_6 (n0 : Nat) (z : Hp) (a : Nat) (x : Int32) : fv n0 (zsF z 454 a x) 7 a = (fv n0 z 7 a).set 6 (.int x) := by simp [fv, zF_sF, zG_sF]
theorem st_7_7 (n0 : Nat) (z : Hp) (a : Nat) (x : Int32) : fv n0 (zsF z 455 a x) 7 a = (fv n0 z 7 a).set 7 (.int x) := by simp [fv, zF_sF, zG_sF]
theorem st_7_8 (n0 : Nat) (z : Hp) (a : Nat) (x : Int32) : fv n0 (zsF z 456 a x) 7 a = (fv n0 z 7 a).set 8 (.int x) := by simp [fv, zF_sF, zG_sF]
theorem st_7_9 (n0 : Nat) (z : Hp) (a : Nat) (x : Int32) : fv n0 (zsF z 457 a x) 7 a = (fv n0 z 7 a).set 9 (.int x) := by simp [fv, zF_sF, zG_sF]
theorem nw_7 (n0 : Nat) (z : Hp) (j : Nat) (hj : j < 10) : defaultValue (tyX8 j) = vp_V (fv n0 (zal z 7 0) 7 (zn z)) j := by
  have h : fv n0 (zal z 7 0) 7 (zn z) = [.int 0, .int 0, .int 0, .int 0, .int 0, .int 0, .int 0, .int 0, .int 0, .int 0] := by simp [fv, zF_al_self, zG_al_self, rv]
  rw [h]
  rcases (show j = 0 ∨ j = 1 ∨ j = 2 ∨ j = 3 ∨ j = 4 ∨ j = 5 ∨ j = 6 ∨ j = 7 ∨ j = 8 ∨ j = 9 by omega) with rfl | rfl | rfl | rfl | rfl | rfl | rfl | rfl | rfl | rfl <;> rfl
theorem st_8_0 (n0 : Nat) (z : Hp) (a : Nat) (x : Int32) : fv n0 (zsF z 512 a x) 8 a = (fv n0 z 8 a).set 0 (.int x) := by simp [fv, zF_sF, zG_sF]
theorem st_8_1 (n0 : Nat) (z : Hp) (a : Nat) (x : Int32) : fv n0 (zsF z 513 a x) 8 a = (fv n0 z 8 a).set 1 (.int x) := by simp [fv, zF_sF, zG_sF]
theorem st_8_2 (n0 : Nat) (z : Hp) (a : Nat) (x : Int32) : fv n0 (zsF z 514 a x) 8 a = (fv n0 z 8 a).set 2 (.int x) := by simp [fv, zF_sF, zG_sF]
theorem st_8_3 (n0 : Nat) (z : Hp) (a : Nat) (x : Option Nat) : fv n0 (zsG z 515 a x) 8 a = (fv n0 z 8 a).set 3 (rv n0 x) := by simp [fv, zF_sG, zG_sG]
theorem st_8_4 (n0 : Nat) (z : Hp) (a : Nat) (x : Option Nat) : fv n0 (zsG z 516 a x) 8 a = (fv n0 z 8 a).set 4 (rv n0 x) := by simp [fv, zF_sG, zG_sG]
theorem st_8_5 (n0 : Nat) (z : Hp) (a : Nat) (x : Option Nat) : fv n0 (zsG z 517 a x) 8 a = (fv n0 z 8 a).set 5 (rv n0 x) := by simp [fv, zF_sG, zG_sG]
theorem st_8_6 (n0 : Nat) (z : Hp) (a : Nat) (x : Int32) : fv n0 (zsF z 518 a x) 8 a = (fv n0 z 8 a).set 6 (.int x) := by simp [fv, zF_sF, zG_sF]
theorem nw_8 (n0 : Nat) (z : Hp) (j : Nat) (hj : j < 7) : defaultValue (tyX9 j) = vp_V (fv n0 (zal z 8 0) 8 (zn z)) j := by
  have h : fv n0 (zal z 8 0) 8 (zn z) = [.int 0, .int 0, .int 0, .null, .null, .null, .int 0] := by simp [fv, zF_al_self, zG_al_self, rv]
  rw [h]
  rcases (show j = 0 ∨ j = 1 ∨ j = 2 ∨ j = 3 ∨ j = 4 ∨ j = 5 ∨ j = 6 by omega) with rfl | rfl | rfl | rfl | rfl | rfl | rfl <;> rfl
theorem st_9_0 (n0 : Nat) (z : Hp) (a : Nat) (x : Option Nat) : fv n0 (zsG z 576 a x) 9 a = (fv n0 z 9 a).set 0 (rv n0 x) := by simp [fv, zF_sG, zG_sG]
theorem st_9_1 (n0 : Nat) (z : Hp) (a : Nat) (x : Int32) : fv n0 (zsF z 577 a x) 9 a = (fv n0 z 9 a).set 1 (.int x) := by simp [fv, zF_sF, zG_sF]
theorem st_9_2 (n0 : Nat) (z : Hp) (a : Nat) (x : Int32) : fv n0 (zsF z 578 a x) 9 a = (fv n0 z 9 a).set 2 (.int x) := by simp [fv, zF_sF, zG_sF]
theorem st_9_3 (n0 : Nat) (z : Hp) (a : Nat) (x : Int32) : fv n0 (zsF z 579 a x) 9 a = (fv n0 z 9 a).set 3 (.int x) := by simp [fv, zF_sF, zG_sF]
theorem nw_9 (n0 : Nat) (z : Hp) (j : Nat) (hj : j < 4) : defaultValue (tyX10 j) = vp_V (fv n0 (zal z 9 0) 9 (zn z)) j := by
  have h : fv n0 (zal z 9 0) 9 (zn z) = [.null, .int 0, .int 0, .int 0] := by simp [fv, zF_al_self, zG_al_self, rv]
  rw [h]
  rcases (show j = 0 ∨ j = 1 ∨ j = 2 ∨ j = 3 by omega) with rfl | rfl | rfl | rfl <;> rfl
theorem st_10_0 (n0 : Nat) (z : Hp) (a : Nat) (x : Option Nat) : fv n0 (zsG z 640 a x) 10 a = (fv n0 z 10 a).set 0 (rv n0 x) := by simp [fv, zF_sG, zG_sG]
theorem st_10_1 (n0 : Nat) (z : Hp) (a : Nat) (x : Option Nat) : fv n0 (zsG z 641 a x) 10 a = (fv n0 z 10 a).set 1 (rv n0 x) := by simp [fv, zF_sG, zG_sG]
theorem st_10_2 (n0 : Nat) (z : Hp) (a : Nat) (x : Option Nat) : fv n0 (zsG z 642 a x) 10 a = (fv n0 z 10 a).set 2 (rv n0 x) := by simp [fv, zF_sG, zG_sG]
theorem st_10_3 (n0 : Nat) (z : Hp) (a : Nat) (x : Option Nat) : fv n0 (zsG z 643 a x) 10 a = (fv n0 z 10 a).set 3 (rv n0 x) := by simp [fv, zF_sG, zG_sG]
theorem st_10_4 (n0 : Nat) (z : Hp) (a : Nat) (x : Option Nat) : fv n0 (zsG z 644 a x) 10 a = (fv n0 z 10 a).set 4 (rv n0 x) := by simp [fv, zF_sG, zG_sG]
theorem st_10_5 (n0 : Nat) (z : Hp) (a : Nat) (x : Option Nat) : fv n0 (zsG z 645 a x) 10 a = (fv n0 z 10 a).set 5 (rv n0 x) := by simp [fv, zF_sG, zG_sG]
theorem st_10_6 (n0 : Nat) (z : Hp) (a : Nat) (x : Int32) : fv n0 (zsF z 646 a x) 10 a = (fv n0 z 10 a).set 6 (.int x) := by simp [fv, zF_sF, zG_sF]
theorem st_10_7 (n0 : Nat) (z : Hp) (a : Nat) (x : Int32) : fv n0 (zsF z 647 a x) 10 a = (fv n0 z 10 a).set 7 (.int x) := by simp [fv, zF_sF, zG_sF]
theorem st_10_8 (n0 : Nat) (z : Hp) (a : Nat) (x : Int32) : fv n0 (zsF z 648 a x) 10 a = (fv n0 z 10 a).set 8 (.int x) := by simp [fv, zF_sF, zG_sF]
theorem st_10_9 (n0 : Nat) (z : Hp) (a : Nat) (x : Int32) : fv n0 (zsF z 649 a x) 10 a = (fv n0 z 10 a).set 9 (.int x) := by simp [fv, zF_sF, zG_sF]
theorem st_10_10 (n0 : Nat) (z : Hp) (a : Nat) (x : Int32) : fv n0 (zsF z 650 a x) 10 a = (fv n0 z 10 a).set 10 (.int x) := by simp [fv, zF_sF, zG_sF]
theorem st_10_11 (n0 : Nat) (z : Hp) (a : Nat) (x : Int32) : fv n0 (zsF z 651 a x) 10 a = (fv n0 z 10 a).set 11 (.int x) := by simp [fv, zF_sF, zG_sF]
theorem nw_10 (n0 : Nat) (z : Hp) (j : Nat) (hj : j < 12) : defaultValue (tyX11 j) = vp_V (fv n0 (zal z 10 0) 10 (zn z)) j := by
  have h : fv n0 (zal z 10 0) 10 (zn z) = [.null, .null, .null, .null, .null, .null, .int 0, .int 0, .int 0, .int 0, .int 0, .int 0] := by simp [fv, zF_al_self, zG_al_self, rv]
  rw [h]
  rcases (show j = 0 ∨ j = 1 ∨ j = 2 ∨ j = 3 ∨ j = 4 ∨ j = 5 ∨ j = 6 ∨ j = 7 ∨ j = 8 ∨ j = 9 ∨ j = 10 ∨ j = 11 by omega) with rfl | rfl | rfl | rfl | rfl | rfl | rfl | rfl | rfl | rfl | rfl | rfl <;> rfl
theorem st_11_0 (n0 : Nat) (z : Hp) (a : Nat) (x : Int32) : fv n0 (zsF z 704 a x) 11 a = (fv n0 z 11 a).set 0 (.int x) := by simp [fv, zF_sF, zG_sF]
theorem st_11_1 (n0 : Nat) (z : Hp) (a : Nat) (x : Int32) : fv n0 (zsF z 705 a x) 11 a = (fv n0 z 11 a).set 1 (.int x) := by simp [fv, zF_sF, zG_sF]
theorem st_11_2 (n0 : Nat) (z : Hp) (a : Nat) (x : Int32) : fv n0 (zsF z 706 a x) 11 a = (fv n0 z 11 a).set 2 (.int x) := by simp [fv, zF_sF, zG_sF]
theorem st_11_3 (n0 : Nat) (z : Hp) (a : Nat) (x : Option Nat) : fv n0 (zsG z 707 a x) 11 a = (fv n0 z 11 a).set 3 (rv n0 x) := by simp [fv, zF_sG, zG_sG]
theorem st_11_4 (n0 : Nat) (z : Hp) (a : Nat) (x : Option Nat) : fv n0 (zsG z 708 a x) 11 a = (fv n0 z 11 a).set 4 (rv n0 x) := by simp [fv, zF_sG, zG_sG]
theorem st_11_5 (n0 : Nat) (z : Hp) (a : Nat) (x : Option Nat) : fv n0 (zsG z 709 a x) 11 a = (fv n0 z 11 a).set 5 (rv n0 x) := by simp [fv, zF_sG, zG_sG]
theorem st_11_6 (n0 : Nat) (z : Hp) (a : Nat) (x : Option Nat) : fv n0 (zsG z 710 a x) 11 a = (fv n0 z 11 a).set 6 (rv n0 x) := by simp [fv, zF_sG, zG_sG]
theorem st_11_7 (n0 : Nat) (z : Hp) (a : Nat) (x : Int32) : fv n0 (zsF z 711 a x) 11 a = (fv n0 z 11 a).set 7 (.int x) := by simp [fv, zF_sF, zG_sF]
theorem st_11_8 (n0 : Nat) (z : Hp) (a : Nat) (x : Option Nat) : fv n0 (zsG z 712 a x) 11 a = (fv n0 z 11 a).set 8 (rv n0 x) := by simp [fv, zF_sG, zG_sG]
theorem st_11_9 (n0 : Nat) (z : Hp) (a : Nat) (x : Option Nat) : fv n0 (zsG z 713 a x) 11 a = (fv n0 z 11 a).set 9 (rv n0 x) := by simp [fv, zF_sG, zG_sG]
theorem st_11_10 (n0 : Nat) (z : Hp) (a : Nat) (x : Option Nat) : fv n0 (zsG z 714 a x) 11 a = (fv n0 z 11 a).set 10 (rv n0 x) := by simp [fv, zF_sG, zG_sG]
theorem st_11_11 (n0 : Nat) (z : Hp) (a : Nat) (x : Option Nat) : fv n0 (zsG z 715 a x) 11 a = (fv n0 z 11 a).set 11 (rv n0 x) := by simp [fv, zF_sG, zG_sG]
theorem st_11_12 (n0 : Nat) (z : Hp) (a : Nat) (x : Option Nat) : fv n0 (zsG z 716 a x) 11 a = (fv n0 z 11 a).set 12 (rv n0 x) := by simp [fv, zF_sG, zG_sG]
theorem st_11_13 (n0 : Nat) (z : Hp) (a : Nat) (x : Int32) : fv n0 (zsF z 717 a x) 11 a = (fv n0 z 11 a).set 13 (.int x) := by simp [fv, zF_sF, zG_sF]
theorem st_11_14 (n0 : Nat) (z : Hp) (a : Nat) (x : Int32) : fv n0 (zsF z 718 a x) 11 a = (fv n0 z 11 a).set 14 (.int x) := by simp [fv, zF_sF, zG_sF]
theorem st_11_15 (n0 : Nat) (z : Hp) (a : Nat) (x : Int32) : fv n0 (zsF z 719 a x) 11 a = (fv n0 z 11 a).set 15 (.int x) := by simp [fv, zF_sF, zG_sF]
theorem st_11_16 (n0 : Nat) (z : Hp) (a : Nat) (x : Option Nat) : fv n0 (zsG z 720 a x) 11 a = (fv n0 z 11 a).set 16 (rv n0 x) := by simp [fv, zF_sG, zG_sG]
theorem st_11_17 (n0 : Nat) (z : Hp) (a : Nat) (x : Option Nat) : fv n0 (zsG z 721 a x) 11 a = (fv n0 z 11 a).set 17 (rv n0 x) := by simp [fv, zF_sG, zG_sG]
theorem st_11_18 (n0 : Nat) (z : Hp) (a : Nat) (x : Option Nat) : fv n0 (zsG z 722 a x) 11 a = (fv n0 z 11 a).set 18 (rv n0 x) := by simp [fv, zF_sG, zG_sG]
theorem st_11_19 (n0 : Nat) (z : Hp) (a : Nat) (x : Option Nat) : fv n0 (zsG z 723 a x) 11 a = (fv n0 z 11 a).set 19 (rv n0 x) := by simp [fv, zF_sG, zG_sG]
theorem st_11_20 (n0 : Nat) (z : Hp) (a : Nat) (x : Option Nat) : fv n0 (zsG z 724 a x) 11 a = (fv n0 z 11 a).set 20 (rv n0 x) := by simp [fv, zF_sG, zG_sG]
theorem st_11_21 (n0 : Nat) (z : Hp) (a : Nat) (x : Option Nat) : fv n0 (zsG z 725 a x) 11 a = (fv n0 z 11 a).set 21 (rv n0 x) := by simp [fv, zF_sG, zG_sG]
theorem st_11_22 (n0 : Nat) (z : Hp) (a : Nat) (x : Option Nat) : fv n0 (zsG z 726 a x) 11 a = (fv n0 z 11 a).set 22 (rv n0 x) := by simp [fv, zF_sG, zG_sG]
theorem st_11_23 (n0 : Nat) (z : Hp) (a : Nat) (x : Int32) : fv n0 (zsF z 727 a x) 11 a = (fv n0 z 11 a).set 23 (.int x) := by simp [fv, zF_sF, zG_sF]
theorem st_11_24 (n0 : Nat) (z : Hp) (a : Nat) (x : Option Nat) : fv n0 (zsG z 728 a x) 11 a = (fv n0 z 11 a).set 24 (rv n0 x) := by simp [fv, zF_sG, zG_sG]
theorem st_11_25 (n0 : Nat) (z : Hp) (a : Nat) (x : Option Nat) : fv n0 (zsG z 729 a x) 11 a = (fv n0 z 11 a).set 25 (rv n0 x) := by simp [fv, zF_sG, zG_sG]
theorem st_11_26 (n0 : Nat) (z : Hp) (a : Nat) (x : Option Nat) : fv n0 (zsG z 730 a x) 11 a = (fv n0 z 11 a).set 26 (rv n0 x) := by simp [fv, zF_sG, zG_sG]
theorem st_11_27 (n0 : Nat) (z : Hp) (a : Nat) (x : Option Nat) : fv n0 (zsG z 731 a x) 11 a = (fv n0 z 11 a).set 27 (rv n0 x) := by simp [fv, zF_sG, zG_sG]
theorem st_11_28 (n0 : Nat) (z : Hp) (a : Nat) (x : Option Nat) : fv n0 (zsG z 732 a x) 11 a = (fv n0 z 11 a).set 28 (rv n0 x) := by simp [fv, zF_sG, zG_sG]
theorem st_11_29 (n0 : Nat) (z : Hp) (a : Nat) (x : Option Nat) : fv n0 (zsG z 733 a x) 11 a = (fv n0 z 11 a).set 29 (rv n0 x) := by simp [fv, zF_sG, zG_sG]
theorem st_11_30 (n0 : Nat) (z : Hp) (a : Nat) (x : Option Nat) : fv n0 (zsG z 734 a x) 11 a = (fv n0 z 11 a).set 30 (rv n0 x) := by simp [fv, zF_sG, zG_sG]
theorem st_11_31 (n0 : Nat) (z : Hp) (a : Nat) (x : Option Nat) : fv n0 (zsG z 735 a x) 11 a = (fv n0 z 11 a).set 31 (rv n0 x) := by simp [fv, zF_sG, zG_sG]
theorem st_11_32 (n0 : Nat) (z : Hp) (a : Nat) (x : Option Nat) : fv n0 (zsG z 736 a x) 11 a = (fv n0 z 11 a).set 32 (rv n0 x) := by simp [fv, zF_sG, zG_sG]
theorem st_11_33 (n0 : Nat) (z : Hp) (a : Nat) (x : Option Nat) : fv n0 (zsG z 737 a x) 11 a = (fv n0 z 11 a).set 33 (rv n0 x) := by simp [fv, zF_sG, zG_sG]
theorem st_11_34 (n0 : Nat) (z : Hp) (a : Nat) (x : Option Nat) : fv n0 (zsG z 738 a x) 11 a = (fv n0 z 11 a).set 34 (rv n0 x) := by simp [fv, zF_sG, zG_sG]
theorem st_11_35 (n0 : Nat) (z : Hp) (a : Nat) (x : Int32) : fv n0 (zsF z 739 a x) 11 a = (fv n0 z 11 a).set 35 (.int x) := by simp [fv, zF_sF, zG_sF]
theorem st_11_36 (n0 : Nat) (z : Hp) (a : Nat) (x : Option Nat) : fv n0 (zsG z 740 a x) 11 a = (fv n0 z 11 a).set 36 (rv n0 x) := by simp [fv, zF_sG, zG_sG]
theorem st_11_37 (n0 : Nat) (z : Hp) (a : Nat) (x : Int32) : fv n0 (zsF z 741 a x) 11 a = (fv n0 z 11 a).set 37 (.int x) := by simp [fv, zF_sF, zG_sF]
theorem st_11_38 (n0 : Nat) (z : Hp) (a : Nat) (x : Int32) : fv n0 (zsF z 742 a x) 11 a = (fv n0 z 11 a).set 38 (.int x) := by simp [fv, zF_sF, zG_sF]
theorem st_11_39 (n0 : Nat) (z : Hp) (a : Nat) (x : Int32) : fv n0 (zsF z 743 a x) 11 a = (fv n0 z 11 a).set 39 (.int x) := by simp [fv, zF_sF, zG_sF]
theorem st_11_40 (n0 : Nat) (z : Hp) (a : Nat) (x : Int32) : fv n0 (zsF z 744 a x) 11 a = (fv n0 z 11 a).set 40 (.int x) := by simp [fv, zF_sF, zG_sF]
theorem st_11_41 (n0 : Nat) (z : Hp) (a : Nat) (x : Int32) : fv n0 (zsF z 745 a x) 11 a = (fv n0 z 11 a).set 41 (.int x) := by simp [fv, zF_sF, zG_sF]
theorem st_11_42 (n0 : Nat) (z : Hp) (a : Nat) (x : Int32) : fv n0 (zsF z 746 a x) 11 a = (fv n0 z 11 a).set 42 (.int x) := by simp [fv, zF_sF, zG_sF]
theorem st_11_43 (n0 : Nat) (z : Hp) (a : Nat) (x : Int32) : fv n0 (zsF z 747 a x) 11 a = (fv n0 z 11 a).set 43 (.int x) := by simp [fv, zF_sF, zG_sF]
theorem st_11_44 (n0 : Nat) (z : Hp) (a : Nat) (x : Int32) : fv n0 (zsF z 748 a x) 11 a = (fv n0 z 11 a).set 44 (.int x) := by simp [fv, zF_sF, zG_sF]
theorem st_11_45 (n0 : Nat) (z : Hp) (a : Nat) (x : Int32) : fv n0 (zsF z 749 a x) 11 a = (fv n0 z 11 a).set 45 (.int x) := by simp [fv, zF_sF, zG_sF]
theorem st_11_46 (n0 : Nat) (z : Hp) (a : Nat) (x : Int32) : fv n0 (zsF z 750 a x) 11 a = (fv n0 z 11 a).set 46 (.int x) := by simp [fv, zF_sF, zG_sF]
theorem st_11_47 (n0 : Nat) (z : Hp) (a : Nat) (x : Option Nat) : fv n0 (zsG z 751 a x) 11 a = (fv n0 z 11 a).set 47 (rv n0 x) := by simp [fv, zF_sG, zG_sG]
theorem st_11_48 (n0 : Nat) (z : Hp) (a : Nat) (x : Option Nat) : fv n0 (zsG z 752 a x) 11 a = (fv n0 z 11 a).set 48 (rv n0 x) := by simp [fv, zF_sG, zG_sG]
theorem st_11_49 (n0 : Nat) (z : Hp) (a : Nat) (x : Int32) : fv n0 (zsF z 753 a x) 11 a = (fv n0 z 11 a).set 49 (.int x) := by simp [fv, zF_sF, zG_sF]
theorem nw_11 (n0 : Nat) (z : Hp) (j : Nat) (hj : j < 50) : defaultValue (tyX12 j) = vp_V (fv n0 (zal z 11 0) 11 (zn z)) j := by
  have h : fv n0 (zal z 11 0) 11 (zn z) = [.int 0, .int 0, .int 0, .null, .null, .null, .null, .int 0, .null, .null, .null, .null, .null, .int 0, .int 0, .int 0, .null, .null, .null, .null, .null, .null, .null, .int 0, .null, .null, .null, .null, .null, .null, .null, .null, .null, .null, .null, .int 0, .null, .int 0, .int 0, .int 0, .int 0, .int 0, .int 0, .int 0, .int 0, .int 0, .int 0, .null, .null, .int 0] := by simp [fv, zF_al_self, zG_al_self, rv]
  rw [h]
  rcases (show j = 0 ∨ j = 1 ∨ j = 2 ∨ j = 3 ∨ j = 4 ∨ j = 5 ∨ j = 6 ∨ j = 7 ∨ j = 8 ∨ j = 9 ∨ j = 10 ∨ j = 11 ∨ j = 12 ∨ j = 13 ∨ j = 14 ∨ j = 15 ∨ j = 16 ∨ j = 17 ∨ j = 18 ∨ j = 19 ∨ j = 20 ∨ j = 21 ∨ j = 22 ∨ j = 23 ∨ j = 24 ∨ j = 25 ∨ j = 26 ∨ j = 27 ∨ j = 28 ∨ j = 29 ∨ j = 30 ∨ j = 31 ∨ j = 32 ∨ j = 33 ∨ j = 34 ∨ j = 35 ∨ j = 36 ∨ j = 37 ∨ j = 38 ∨ j = 39 ∨ j = 40 ∨ j = 41 ∨ j = 42 ∨ j = 43 ∨ j = 44 ∨ j = 45 ∨ j = 46 ∨ j = 47 ∨ j = 48 ∨ j = 49 by omega) with rfl | rfl | rfl | rfl | rfl | rfl | rfl | rfl | rfl | rfl | rfl | rfl | rfl | rfl | rfl | rfl | rfl | rfl | rfl | rfl | rfl | rfl | rfl | rfl | rfl | rfl | rfl | rfl | rfl | rfl | rfl | rfl | rfl | rfl | rfl | rfl | rfl | rfl | rfl | rfl | rfl | rfl | rfl | rfl | rfl | rfl | rfl | rfl | rfl | rfl <;> rfl
/-- the cell -/
def cE (n0 : Nat) (Y : Nat → ClassId) (z : Hp) (a : Nat) : va_E :=
  if zK z a = 12 ∨ zK z a = 14 then .inl (Y (zK z a), zL z a, .inl (zA z a))
  else if zK z a = 13 then .inl (Y 13, zL z a, .inr (.inl (zJ z a)))
  else if 15 ≤ zK z a then .inl (Y (zK z a), zL z a, .inr (.inr (.inr (.inr (fun j => (zR z a j).map (n0 + ·))))))
  else .inr (zK z a, fv n0 z (zK z a) a)
theorem cE_o {n0 : Nat} {Y : Nat → ClassId} {z : Hp} {a k : Nat} (h : zK z a = k) (hk : k < 12) : cE n0 Y z a = .inr (k, fv n0 z k a) := by
  subst h
  unfold cE
  rw [if_neg (by omega), if_neg (by omega), if_neg (by omega)]
theorem cE_i {n0 : Nat} {Y : Nat → ClassId} {z : Hp} {a : Nat} (h : zK z a = 12) : cE n0 Y z a = .inl (Y 12, zL z a, .inl (zA z a)) := by
  unfold cE
  rw [if_pos (Or.inl h), h]
theorem cE_z {n0 : Nat} {Y : Nat → ClassId} {z : Hp} {a : Nat} (h : zK z a = 14) : cE n0 Y z a = .inl (Y 14, zL z a, .inl (zA z a)) := by
  unfold cE
  rw [if_pos (Or.inr h), h]
theorem cE_j {n0 : Nat} {Y : Nat → ClassId} {z : Hp} {a : Nat} (h : zK z a = 13) : cE n0 Y z a = .inl (Y 13, zL z a, .inr (.inl (zJ z a))) := by
  unfold cE
  rw [if_neg (by omega), if_pos h]
theorem cE_r {n0 : Nat} {Y : Nat → ClassId} {z : Hp} {a k : Nat} (h : zK z a = k) (hk : 15 ≤ k) : cE n0 Y z a = .inl (Y k, zL z a, .inr (.inr (.inr (.inr (fun j => (zR z a j).map (n0 + ·)))))) := by
  subst h
  unfold cE
  rw [if_neg (by omega), if_neg (by omega), if_pos hk]
theorem fv_congr {n0 : Nat} {z z' : Hp} {a : Nat} (k : Nat) (hF : ∀ f, zF z' f a = zF z f a) (hG : ∀ f, zG z' f a = zG z f a) : fv n0 z' k a = fv n0 z k a := by
  unfold fv
  split <;> simp only [hF, hG]
theorem cE_congr {n0 : Nat} {Y : Nat → ClassId} {z z' : Hp} {a : Nat} (hK : zK z' a = zK z a) (hL : zL z' a = zL z a) (hF : ∀ f, zF z' f a = zF z f a) (hG : ∀ f, zG z' f a = zG z f a) (hA : zA z' a = zA z a) (hJ : zJ z' a = zJ z a) (hR : zR z' a = zR z a) : cE n0 Y z' a = cE n0 Y z a := by
  unfold cE
  rw [hK, hL, hA, hJ, hR, fv_congr (zK z a) hF hG]
/-- the heap H holds z from n0 on -/
def Rp (n0 : Nat) (D : va_G) (Y : Nat → ClassId) (z : Hp) (H : Heap) : Prop := H.size = n0 + zn z ∧ ∀ a, a < zn z → va_at D vwCl (n0 + a, cE n0 Y z a) H
/-- what the tables say -/
def KK (D : va_G) (Y : Nat → ClassId) (U : State) : Prop :=
  va_K D vwCl [(Y 12, .int), (Y 13, .long), (Y 14, .boolean), (Y 15, .object RX0), (Y 16, .object RX3), (Y 17, .object RX6), (Y 18, .object RX9)] U ∧
  (va_AO RX0 U ∧ va_AO RX3 U ∧ va_AO RX6 U ∧ va_AO RX9 U) ∧
  (va_Nc RX1 RX6 U ∧ va_Nc RX8 RX6 U ∧ va_Nc RX6 RX1 U ∧ va_Nc RX8 RX1 U ∧ va_Nc RX1 RX8 U ∧ va_Nc RX6 RX8 U) ∧
  (va_Nw (.castable RX6 RX3) U ∧ va_Nw (.castable RX1 RX3) U ∧ va_Nw (.castable RX8 RX3) U) ∧
  va_Nw (.methodLinkNest RX11 82 yX0_init RX11) U
theorem KK.warm {D : va_G} {Y : Nat → ClassId} {s U : State} (hW : s.WarmedH U.vm) (h : KK D Y s) : KK D Y U :=
  ⟨va_K.moved hW.alike h.1, ⟨va_AO.moved hW.alike h.2.1.1, va_AO.moved hW.alike h.2.1.2.1, va_AO.moved hW.alike h.2.1.2.2.1, va_AO.moved hW.alike h.2.1.2.2.2⟩,
   ⟨va_Nc.moved hW.alike h.2.2.1.1, va_Nc.moved hW.alike h.2.2.1.2.1, va_Nc.moved hW.alike h.2.2.1.2.2.1, va_Nc.moved hW.alike h.2.2.1.2.2.2.1, va_Nc.moved hW.alike h.2.2.1.2.2.2.2.1, va_Nc.moved hW.alike h.2.2.1.2.2.2.2.2⟩,
   ⟨va_Nw.warmC hW h.2.2.2.1.1, va_Nw.warmC hW h.2.2.2.1.2.1, va_Nw.warmC hW h.2.2.2.1.2.2⟩, va_Nw.warmM hW h.2.2.2.2⟩
theorem KK.same {D : va_G} {Y : Nat → ClassId} {U V : State} (e : U.vm = V.vm) (h : KK D Y U) : KK D Y V := by
  have a : U.vm.Alike V.vm := e ▸ Vm.Alike.refl U.vm
  exact ⟨va_K.moved a h.1, ⟨va_AO.moved a h.2.1.1, va_AO.moved a h.2.1.2.1, va_AO.moved a h.2.1.2.2.1, va_AO.moved a h.2.1.2.2.2⟩,
   ⟨va_Nc.moved a h.2.2.1.1, va_Nc.moved a h.2.2.1.2.1, va_Nc.moved a h.2.2.1.2.2.1, va_Nc.moved a h.2.2.1.2.2.2.1, va_Nc.moved a h.2.2.1.2.2.2.2.1, va_Nc.moved a h.2.2.1.2.2.2.2.2⟩,
   ⟨va_Nw.same rfl e h.2.2.2.1.1, va_Nw.same rfl e h.2.2.2.1.2.1, va_Nw.same rfl e h.2.2.2.1.2.2⟩, va_Nw.same rfl e h.2.2.2.2⟩
def AA (n0 : Nat) : Nat → Prop := fun q => n0 ≤ q
/-- the world: the heap holds z, nothing below n0 has changed -/
def Wd (n0 : Nat) (D : va_G) (Y : Nat → ClassId) (z : Hp) (s : State) (H : Heap) (locs : List Loc) : Prop := Rp n0 D Y z H ∧ va_S (AA n0) s.heap H locs
/-- what holds all through a method's body -/
def Cx (n0 : Nat) (D : va_G) (Y : Nat → ClassId) (own : String) (cc : ByteArray) (ret : Option FieldType) (mL : Nat) (ws : List Cond) (nm : String) (p : Program) (s : State) (m : MethodId) (args : Array Value) (meth : Method) (c : Code) : Prop :=
  p.tables.exec = Jvm.exec ∧ c.code = cc ∧ meth.sig.returnType = ret ∧ c.maxLocals = mL ∧ s.vm.findClass own = some m.cls ∧ (∀ w ∈ ws, w.before args s = true) ∧ meth.locks = false ∧ meth.name = nm ∧ KK D Y s
-- the words of the functions
noncomputable def gd {α : Type} (c : Prop) (k : Option α) : Option α := @ite _ c (Classical.propDecidable c) k none
theorem gdE {α : Type} {c : Prop} {k : Option α} {x : α} (h : gd c k = some x) : c ∧ k = some x := by
  unfold gd at h
  by_cases hc : c
  · rw [if_pos hc] at h; exact ⟨hc, h⟩
  · rw [if_neg hc] at h; cases h
theorem gd_t {α : Type} {c : Prop} {k : Option α} (h : c) : gd c k = k := if_pos h
noncomputable def br {α : Type} (c : Prop) (A B : Option α) : Option α := @ite _ c (Classical.propDecidable c) A B
theorem br_y {α : Type} {c : Prop} {A B : Option α} (h : c) : br c A B = A := if_pos h
theorem br_n {α : Type} {c : Prop} {A B : Option α} (h : ¬ c) : br c A B = B := if_neg h
theorem brT {α : Type} {c : Prop} {A B : Option α} {x : Option α} (h : br c A B = x) (hc : c) : A = x := by rw [br_y hc] at h; exact h
theorem brF {α : Type} {c : Prop} {A B : Option α} {x : Option α} (h : br c A B = x) (hc : ¬ c) : B = x := by rw [br_n hc] at h; exact h
def bd {α β : Type} (x : α) (k : α → β) : β := k x
theorem bdE {α β : Type} {x : α} {k : α → β} {r : β} (h : bd x k = r) : ∃ y, y = x ∧ k y = r := ⟨x, rfl, h⟩
def bo {α β : Type} (x : Option α) (k : α → Option β) : Option β := match x with
  | none => none
  | some a => k a
theorem boE {α β : Type} {x : Option α} {k : α → Option β} {r : β} (h : bo x k = some r) : ∃ y, x = some y ∧ k y = some r := by
  cases x with
  | none => cases h
  | some a => exact ⟨a, rfl, h⟩
def bp {α β γ : Type} (x : Option (α × β)) (k : α → β → Option γ) : Option γ := match x with
  | none => none
  | some w => k w.1 w.2
theorem bpE {α β γ : Type} {x : Option (α × β)} {k : α → β → Option γ} {r : γ} (h : bp x k = some r) : ∃ a b, x = some (a, b) ∧ k a b = some r := by
  cases x with
  | none => cases h
  | some w => exact ⟨w.1, w.2, rfl, h⟩
def irm (x y : Int32) : Int32 := x - x / y * y
theorem ok_new (z : Hp) (k n : Nat) : zn z < zn (zal z k n) ∧ zK (zal z k n) (zn z) = k := ⟨Nat.lt_succ_self _, va_up_self _ _ _⟩
theorem ok_al {z : Hp} {a k : Nat} (k' n : Nat) (g : a < zn z ∧ zK z a = k) : a < zn (zal z k' n) ∧ zK (zal z k' n) a = k := ⟨Nat.lt_succ_of_lt g.1, by rw [← g.2]; exact va_up_ne _ _ (Nat.ne_of_lt g.1)⟩
def cs {α : Type} (r : Option Nat) (A : Option α) (B : Nat → Option α) : Option α := match r with
  | none => A
  | some a => B a
theorem csN {α : Type} {A : Option α} {B : Nat → Option α} {x : Option α} (h : cs none A B = x) : A = x := h
theorem csS {α : Type} {a : Nat} {A : Option α} {B : Nat → Option α} {x : Option α} (h : cs (some a) A B = x) : B a = x := h
def lf {α β : Type} (x : Option α) : Option (β ⊕ α) := match x with
  | none => none
  | some a => some (.inr a)
theorem lfE {α β : Type} {x : Option α} {y : β ⊕ α} (h : lf x = some y) : ∃ r, x = some r ∧ y = .inr r := by
  cases x with
  | none => cases h
  | some a => cases h; exact ⟨a, rfl, rfl⟩
def wh {S R : Type} (f : S → Option (S ⊕ R)) : Nat → S → Option R
  | 0, _ => none
  | n + 1, s => match f s with
    | none => none
    | some (.inl s') => wh f n s'
    | some (.inr r) => some r
def Fn {S R : Type} (P : S → Prop) (G : R → Prop) : S ⊕ R → Prop
  | .inl s => P s
  | .inr r => G r
theorem wh_ind {S R : Type} {f : S → Option (S ⊕ R)} {P : S → Prop} {G : R → Prop} (hs : ∀ s x, f s = some x → Fn P G x → P s) : ∀ n s r, wh f n s = some r → G r → P s := by
  intro n
  induction n with
  | zero => intro s r h; cases h
  | succ n ih =>
    intro s r h hG
    cases hf : f s with
    | none => simp only [wh, hf] at h; cases h
    | some x =>
      cases x with
      | inl s' => simp only [wh, hf] at h; exact hs s _ hf (ih s' r h hG)
      | inr r' => simp only [wh, hf] at h; cases h; exact hs s _ hf hG
-- contracts
def PreC (n0 : Nat) (D : va_G) (Y : Nat → ClassId) (z : Hp) (av : List Value) : Array Value → State → Prop := va_Pc av (fun U => Rp n0 D Y z U.heap ∧ KK D Y U)
def PosI (n0 : Nat) (D : va_G) (Y : Nat → ClassId) (z : Hp) (r : Int32) : Array Value → State → Outcome → State → Prop := va_Qi (fun (r' : Int32) (_ : Unit) => r' = r) (fun _ t => Rp n0 D Y z t.heap) (AA n0)
def PosV (n0 : Nat) (D : va_G) (Y : Nat → ClassId) (z : Hp) : Array Value → State → Outcome → State → Prop := va_Qv (fun (_ : Unit) => True) (fun _ t => Rp n0 D Y z t.heap) (AA n0)
def PosQ (n0 : Nat) (D : va_G) (Y : Nat → ClassId) (z : Hp) (r : Option Nat) : Array Value → State → Outcome → State → Prop := va_Qq (fun (r' : Option Nat) (_ : Unit) => r' = r.map (n0 + ·)) (fun _ t => Rp n0 D Y z t.heap) (AA n0)
theorem PreC.blind {n0 : Nat} {D : va_G} {Y : Nat → ClassId} {z : Hp} {av : List Value} : FrameBlind (PreC n0 D Y z av) := fun _ U g mk h => ⟨h.1, h.2.1, KK.same (U := U) rfl h.2.2⟩
theorem Rp.le {n0 : Nat} {D : va_G} {Y : Nat → ClassId} {z : Hp} {H : Heap} (h : Rp n0 D Y z H) : n0 ≤ H.size := by rw [h.1]; omega
section
variable {n0 : Nat} {D : va_G} {Y : Nat → ClassId} {own nm : String} {cc : ByteArray} {ret : Option FieldType} {mL : Nat} {ws : List Cond} {z z' : Hp}
variable {p : Program} {l : Launch} {e : Env} {R : Room} {s : State} {m : MethodId} {args : Array Value} {below : List Frame} {meth : Method} {c : Code} {H : Heap} {locs : List Loc} {cells slots : Nat} {Q : State → Prop} {pc : Nat} {ls : Array Slot} {rest : List Value} {a : Nat}
theorem Wd.at (hw : Wd n0 D Y z s H locs) (h : a < zn z) : va_at D vwCl (n0 + a, cE n0 Y z a) H := hw.1.2 a h
theorem Wd.one (hw : Wd n0 D Y z s H locs) (h : a < zn z) {x : va_E} (e : cE n0 Y z a = x) : va_P D vwCl [(n0 + a, x)] H := by
  intro k q hk
  have hz : k < 1 := (List.getElem?_eq_some_iff.mp hk).1
  rw [show k = 0 by omega] at hk
  cases hk
  rw [← e]
  exact hw.at h
/-- a cell is written -/
theorem Wd.put (hw : Wd n0 D Y z s H locs) (ha : a < zn z) {H' : Heap} {k : Nat} (hn : zn z' = zn z) (ho : ∀ b, b ≠ a → cE n0 Y z' b = cE n0 Y z b) (h1 : va_at D vwCl (n0 + a, cE n0 Y z' a) H') (hz : H'.size = H.size) (oq : ∀ q, q ≠ n0 + a → H'[q]? = H[q]?) : Wd n0 D Y z' s H' (locs ++ [⟨n0 + a, k⟩]) := by
  refine ⟨⟨by rw [hz, hw.1.1, hn], fun b hb => ?_⟩, hw.2.put hz oq (Nat.le_add_right n0 a)⟩
  by_cases h : b = a
  · subst h; exact h1
  · rw [ho b h]
    exact (hw.at (by omega)).kept (oq _ (fun (q : n0 + b = n0 + a) => h (by omega)))
/-- a cell is made -/
theorem Wd.new (hw : Wd n0 D Y z s H locs) {H' : Heap} {k len : Nat} (h1 : va_at D vwCl (n0 + zn z, cE n0 Y (zal z k len) (zn z)) H') (hz : H'.size = H.size + 1) (oq : ∀ q, q < H.size → H'[q]? = H[q]?) : Wd n0 D Y (zal z k len) s H' locs := by
  refine ⟨⟨by rw [hz, hw.1.1]; rfl, fun b hb => ?_⟩, Nat.le_trans hw.2.1 (by omega), fun q h1 h2 => (oq q (Nat.lt_of_lt_of_le h1 hw.2.1)).trans (hw.2.2.1 q h1 h2), hw.2.2.2⟩
  by_cases h : b = zn z
  · subst h; exact h1
  · have hb' : b < zn z := by have : zn (zal z k len) = zn z + 1 := rfl; omega
    have hc : cE n0 Y (zal z k len) b = cE n0 Y z b := by
      refine cE_congr ?_ ?_ (fun f => ?_) (fun f => ?_) ?_ ?_ ?_
      · exact va_up_ne _ _ h
      · exact va_up_ne _ _ h
      · show (if b = zn z then _ else _) = _; rw [if_neg h]
      · show (if b = zn z then _ else _) = _; rw [if_neg h]
      · funext i; show (if b = zn z then _ else _) = _; rw [if_neg h]
      · funext i; show (if b = zn z then _ else _) = _; rw [if_neg h]
      · funext i; show (if b = zn z then _ else _) = _; rw [if_neg h]
    rw [hc]
    exact (hw.at hb').kept (oq _ (by rw [hw.1.1]; show n0 + b < n0 + zn z; omega))
theorem cE_sF {f b : Nat} {x : Int32} (h : b ≠ a) : cE n0 Y (zsF z f a x) b = cE n0 Y z b := cE_congr rfl rfl (fun g => by rw [zF_sF, if_neg (fun q => h q.2)]) (fun _ => rfl) rfl rfl rfl
theorem cE_sG {f b : Nat} {x : Option Nat} (h : b ≠ a) : cE n0 Y (zsG z f a x) b = cE n0 Y z b := cE_congr rfl rfl (fun _ => rfl) (fun g => by rw [zG_sG, if_neg (fun q => h q.2)]) rfl rfl rfl
theorem cE_sA {i b : Nat} {x : Int32} (h : b ≠ a) : cE n0 Y (zsA z a i x) b = cE n0 Y z b := cE_congr rfl rfl (fun _ => rfl) (fun _ => rfl) (by funext j; show u2 _ _ _ _ b j = _; unfold u2; rw [if_neg (fun q => h q.1)]) rfl rfl
theorem cE_sJ {i b : Nat} {x : Int64} (h : b ≠ a) : cE n0 Y (zsJ z a i x) b = cE n0 Y z b := cE_congr rfl rfl (fun _ => rfl) (fun _ => rfl) rfl (by funext j; show u2 _ _ _ _ b j = _; unfold u2; rw [if_neg (fun q => h q.1)]) rfl
theorem cE_sR {i b : Nat} {x : Option Nat} (h : b ≠ a) : cE n0 Y (zsR z a i x) b = cE n0 Y z b := cE_congr rfl rfl (fun _ => rfl) (fun _ => rfl) rfl rfl (by funext j; show u2 _ _ _ _ b j = _; unfold u2; rw [if_neg (fun q => h q.1)])
-- ROWS
theorem r_get (C : Cx n0 D Y own cc ret mL ws nm p s m args meth c) (hw : Wd n0 D Y z s H locs) {ki : Nat} (g : a < zn z ∧ zK z a = ki) (h12 : ki < 12) {ref Cn : String} {T : u_T} {N index : Nat} (hc : vwCl[ki]? = some (Cn, T, N)) (hin : ∀ w ∈ u_ws Cn T N, w ∈ ws) (k : Nat) (hk : k < N) (hl : Cond.fieldLink own index ref (T k).2.1 (T k).2.2.1 ∈ ws) (hsame : ∀ x, s.fieldFound? (T k).1 (T k).2.1 (T k).2.2.1 = some x → s.fieldFound? ref (T k).2.1 (T k).2.2.1 = some x) {v : Value} (hv : (fv n0 z ki a)[k]? = some v) (hdg : decode cc pc = .ok (.getfield index, 3))
    (kk : W p l e R s m args below meth c H locs cells slots Q (F0 m (pc + 3) ls (v :: rest))) : W p l e R s m args below meth c H locs cells slots Q (F0 m pc ls (.ref (n0 + a) :: rest)) :=
  va_get C.1 C.2.1 C.2.2.2.2.2.1 hin C.2.2.2.2.1 C.2.2.2.2.2.2.2.2.1 (hw.one g.1 (cE_o g.2 h12)) 0 rfl hc k hk (C.2.2.2.2.2.1 _ hl) hsame hv hdg kk
/-- a field of Entry, of a lot, a batch or a search -/
theorem r_getE (C : Cx n0 D Y own cc ret mL ws nm p s m args meth c) (hw : Wd n0 D Y z s H locs) (g : a < zn z ∧ (zK z a = 1 ∨ zK z a = 5 ∨ zK z a = 7)) {ref : String} {index : Nat} (h1 : ∀ w ∈ wsX10, w ∈ ws) (h5 : ∀ w ∈ wsX60, w ∈ ws) (h7 : ∀ w ∈ wsX80, w ∈ ws) (k : Nat) (hk : k < 4) (hl : Cond.fieldLink own index ref (TX6 k).2.1 (TX6 k).2.2.1 ∈ ws) (hsame : ∀ x, s.fieldFound? (TX6 k).1 (TX6 k).2.1 (TX6 k).2.2.1 = some x → s.fieldFound? ref (TX6 k).2.1 (TX6 k).2.2.1 = some x) (hdg : decode cc pc = .ok (.getfield index, 3))
    (kk : W p l e R s m args below meth c H locs cells slots Q (F0 m (pc + 3) ls (.int (zF z (768 + k) a) :: rest))) : W p l e R s m args below meth c H locs cells slots Q (F0 m pc ls (.ref (n0 + a) :: rest)) := by
  obtain ⟨g0, g1 | g1 | g1⟩ := g
  · rcases (show k = 0 ∨ k = 1 ∨ k = 2 ∨ k = 3 by omega) with rfl | rfl | rfl | rfl
    · exact r_get C hw ⟨g0, g1⟩ (by decide) (Cn := RX1) (T := TX1) (N := 9) rfl h1 0 (by decide) hl hsame rfl hdg kk
    · exact r_get C hw ⟨g0, g1⟩ (by decide) (Cn := RX1) (T := TX1) (N := 9) rfl h1 1 (by decide) hl hsame rfl hdg kk
    · exact r_get C hw ⟨g0, g1⟩ (by decide) (Cn := RX1) (T := TX1) (N := 9) rfl h1 2 (by decide) hl hsame rfl hdg kk
    · exact r_get C hw ⟨g0, g1⟩ (by decide) (Cn := RX1) (T := TX1) (N := 9) rfl h1 3 (by decide) hl hsame rfl hdg kk
  · rcases (show k = 0 ∨ k = 1 ∨ k = 2 ∨ k = 3 by omega) with rfl | rfl | rfl | rfl
    · exact r_get C hw ⟨g0, g1⟩ (by decide) (Cn := RX6) (T := TX6) (N := 8) rfl h5 0 (by decide) hl hsame rfl hdg kk
    · exact r_get C hw ⟨g0, g1⟩ (by decide) (Cn := RX6) (T := TX6) (N := 8) rfl h5 1 (by decide) hl hsame rfl hdg kk
    · exact r_get C hw ⟨g0, g1⟩ (by decide) (Cn := RX6) (T := TX6) (N := 8) rfl h5 2 (by decide) hl hsame rfl hdg kk
    · exact r_get C hw ⟨g0, g1⟩ (by decide) (Cn := RX6) (T := TX6) (N := 8) rfl h5 3 (by decide) hl hsame rfl hdg kk
  · rcases (show k = 0 ∨ k = 1 ∨ k = 2 ∨ k = 3 by omega) with rfl | rfl | rfl | rfl
    · exact r_get C hw ⟨g0, g1⟩ (by decide) (Cn := RX8) (T := TX8) (N := 10) rfl h7 0 (by decide) hl hsame rfl hdg kk
    · exact r_get C hw ⟨g0, g1⟩ (by decide) (Cn := RX8) (T := TX8) (N := 10) rfl h7 1 (by decide) hl hsame rfl hdg kk
    · exact r_get C hw ⟨g0, g1⟩ (by decide) (Cn := RX8) (T := TX8) (N := 10) rfl h7 2 (by decide) hl hsame rfl hdg kk
    · exact r_get C hw ⟨g0, g1⟩ (by decide) (Cn := RX8) (T := TX8) (N := 10) rfl h7 3 (by decide) hl hsame rfl hdg kk
theorem r_put0 (C : Cx n0 D Y own cc ret mL ws nm p s m args meth c) (hw : Wd n0 D Y z s H locs) {ki : Nat} (g : a < zn z ∧ zK z a = ki) (h12 : ki < 12) {ref Cn : String} {T : u_T} {N index : Nat} (hc : vwCl[ki]? = some (Cn, T, N)) (hin : ∀ w ∈ u_ws Cn T N, w ∈ ws) (ty0 : Nat → FieldType) (hty : ∀ k, k < N → parseFieldDescriptor (T k).2.2.1 = some (ty0 k)) (hnm : ∀ a, a < N → ∀ b, b < N → a ≠ b → (T a).2.1 ≠ (T b).2.1) (k : Nat) (hk : k < N) (hl : Cond.fieldLink own index ref (T k).2.1 (T k).2.2.1 ∈ ws) (hsame : ∀ x, s.fieldFound? (T k).1 (T k).2.1 (T k).2.2.1 = some x → s.fieldFound? ref (T k).2.1 (T k).2.2.1 = some x) (hfin : (T k).2.2.2 = false ∨ ((T k).2.2.2 = true ∧ nm = "<init>" ∧ (T k).1 = own)) {ty : FieldType} {v : Value} (hd : parseFieldDescriptor (T k).2.2.1 = some ty) (hn : narrow ty v = v) (hfit : fits ty v = true) (hlen : k < (fv n0 z ki a).length)
    (en : zn z' = zn z) (eK : zK z' a = zK z a) (ev : fv n0 z' ki a = (fv n0 z ki a).set k v) (eo : ∀ b, b ≠ a → cE n0 Y z' b = cE n0 Y z b) (hdg : decode cc pc = .ok (.putfield index, 3))
    (kk : ∀ (H : Heap) (locs : List Loc), Wd n0 D Y z' s H locs → W p l e R s m args below meth c H locs cells slots Q (F0 m (pc + 3) ls rest)) : W p l e R s m args below meth c H locs cells slots Q (F0 m pc ls (v :: .ref (n0 + a) :: rest)) := by
  have hts := C.2.2.2.2.2.1
  have hown := C.2.2.2.2.1
  have hK := C.2.2.2.2.2.2.2.2.1
  have hlink := hts _ hl
  have hap := va_apart (own := own) hts hin ty0 hty hnm hK hc
  have hat := hw.at g.1
  rw [cE_o g.2 h12] at hat
  obtain ⟨r, h1, cell, q1, q2, q3, q4⟩ := hat
  have hr : r = (Cn, T, N) := Option.some.inj (h1.symm.trans hc)
  subst hr
  obtain ⟨hS, hfc, kC, hkC, hkind⟩ := hK.1 ki _ hc
  obtain ⟨cf, kf, fi, f, hi, hsl⟩ := hS k hk
  have hlay := hts _ (hin _ (u_in_lay hk))
  unfold u_lay at hlay
  have hst := (u_facts hfc hkC (u_lays hts hin hk) hi).1
  have done : ∀ H' : Heap, H'[n0 + a]? = some (cell.setSlot f.slot v) → H'.size = H.size → (∀ q, q ≠ n0 + a → H'[q]? = H[q]?) → Wd n0 D Y z' s H' (locs ++ [⟨n0 + a, f.slot⟩]) := by
    intro H' e1 e2 e3
    refine hw.put g.1 en eo ?_ e2 e3
    rw [cE_o (eK.trans g.2) h12, ev]
    rw [hsl] at e1
    exact ⟨_, hc, t_OB.to (V := updV (vp_V (fv n0 z ki a)) k v) ⟨_, e1, q2, q3, t_set q4 hap hk v⟩ (fun j _ => vp_updV_set hlen v j)⟩
  rcases hfin with hfin | ⟨hfin, hin2, hdecl⟩
  · rw [if_neg (by rw [hfin]; decide)] at hlay
    have h6 := u_store hfc hkC hkind hlay hi hd hn hfit
    refine W.putK C.1 C.2.1 (f := f) ⟨hown, hlink, ⟨_, _, _, hsame _ hi⟩, hst⟩ (by rw [q2]; exact h6) q1 q3 (by rw [hsl]; exact k2_hasslot (q4 k hk)) rfl rfl hdg fun H' e1 e2 e3 => ?_
    exact kk H' _ (done H' e1 e2 e3)
  · rw [if_pos hfin] at hlay
    have hcf : m.cls = cf := by
      obtain ⟨_, _, c', _, _, _, -, -, hf', -, -, -, hown2, -⟩ := Cond.laysFinal_spec hlay
      have e1 : c' = cf := by have := hi.symm.trans hf'; simp at this; exact this.1.symm
      rw [hdecl] at hown2
      rw [← e1]; exact Option.some.inj (hown.symm.trans hown2)
    have h6 := u_fits hfc hkC hkind (Or.inr hlay) hi hd hn hfit
    refine W.putFinK C.1 C.2.1 hown hlink (hsame _ hi) hst hcf (C.2.2.2.2.2.2.2.1.trans hin2) (by rw [q2]; exact h6) q1 q3 (by rw [hsl]; exact k2_hasslot (q4 k hk)) rfl rfl hdg fun H' e1 e2 e3 => ?_
    exact kk H' _ (done H' e1 e2 e3)
theorem r_putI (C : Cx n0 D Y own cc ret mL ws nm p s m args meth c) (hw : Wd n0 D Y z s H locs) {ki : Nat} (g : a < zn z ∧ zK z a = ki) (h12 : ki < 12) {ref Cn : String} {T : u_T} {N index : Nat} (hc : vwCl[ki]? = some (Cn, T, N)) (hin : ∀ w ∈ u_ws Cn T N, w ∈ ws) (ty0 : Nat → FieldType) (hty : ∀ k, k < N → parseFieldDescriptor (T k).2.2.1 = some (ty0 k)) (hnm : ∀ a, a < N → ∀ b, b < N → a ≠ b → (T a).2.1 ≠ (T b).2.1) (k : Nat) (hk : k < N) (hl : Cond.fieldLink own index ref (T k).2.1 (T k).2.2.1 ∈ ws) (hsame : ∀ x, s.fieldFound? (T k).1 (T k).2.1 (T k).2.2.1 = some x → s.fieldFound? ref (T k).2.1 (T k).2.2.1 = some x) (hfin : (T k).2.2.2 = false ∨ ((T k).2.2.2 = true ∧ nm = "<init>" ∧ (T k).1 = own)) {ty : FieldType} {f : Nat} {x : Int32} (hd : parseFieldDescriptor (T k).2.2.1 = some ty) (hn : narrow ty (.int x) = .int x) (hfit : fits ty (.int x) = true) (hlen : k < (fv n0 z ki a).length)
    (st : fv n0 (zsF z f a x) ki a = (fv n0 z ki a).set k (.int x)) (ez : z' = zsF z f a x) (hdg : decode cc pc = .ok (.putfield index, 3))
    (kk : ∀ (H : Heap) (locs : List Loc), Wd n0 D Y z' s H locs → W p l e R s m args below meth c H locs cells slots Q (F0 m (pc + 3) ls rest)) : W p l e R s m args below meth c H locs cells slots Q (F0 m pc ls (.int x :: .ref (n0 + a) :: rest)) := by
  subst ez
  exact r_put0 (z' := zsF z f a x) C hw g h12 hc hin ty0 hty hnm k hk hl hsame hfin hd hn hfit hlen rfl rfl st (fun b hb => cE_sF hb) hdg kk
theorem r_putG (C : Cx n0 D Y own cc ret mL ws nm p s m args meth c) (hw : Wd n0 D Y z s H locs) {ki : Nat} (g : a < zn z ∧ zK z a = ki) (h12 : ki < 12) {ref Cn : String} {T : u_T} {N index : Nat} (hc : vwCl[ki]? = some (Cn, T, N)) (hin : ∀ w ∈ u_ws Cn T N, w ∈ ws) (ty0 : Nat → FieldType) (hty : ∀ k, k < N → parseFieldDescriptor (T k).2.2.1 = some (ty0 k)) (hnm : ∀ a, a < N → ∀ b, b < N → a ≠ b → (T a).2.1 ≠ (T b).2.1) (k : Nat) (hk : k < N) (hl : Cond.fieldLink own index ref (T k).2.1 (T k).2.2.1 ∈ ws) (hsame : ∀ x, s.fieldFound? (T k).1 (T k).2.1 (T k).2.2.1 = some x → s.fieldFound? ref (T k).2.1 (T k).2.2.1 = some x) (hfin : (T k).2.2.2 = false ∨ ((T k).2.2.2 = true ∧ nm = "<init>" ∧ (T k).1 = own)) {ty : FieldType} {f b : Nat} (hd : parseFieldDescriptor (T k).2.2.1 = some ty) (hn : narrow ty (.ref (n0 + b)) = .ref (n0 + b)) (hfit : fits ty (.ref (n0 + b)) = true) (hlen : k < (fv n0 z ki a).length)
    (st : fv n0 (zsG z f a (some b)) ki a = (fv n0 z ki a).set k (rv n0 (some b))) (ez : z' = zsG z f a (some b)) (hdg : decode cc pc = .ok (.putfield index, 3))
    (kk : ∀ (H : Heap) (locs : List Loc), Wd n0 D Y z' s H locs → W p l e R s m args below meth c H locs cells slots Q (F0 m (pc + 3) ls rest)) : W p l e R s m args below meth c H locs cells slots Q (F0 m pc ls (.ref (n0 + b) :: .ref (n0 + a) :: rest)) := by
  subst ez
  exact r_put0 (z' := zsG z f a (some b)) C hw g h12 hc hin ty0 hty hnm k hk hl hsame hfin hd hn hfit hlen rfl rfl st (fun b hb => cE_sG hb) hdg kk
/-- a field of Entry, written in its constructor -/
theorem r_putE (C : Cx n0 D Y RX3 cc ret mL ws "<init>" p s m args meth c) (hw : Wd n0 D Y z s H locs) (g : a < zn z ∧ (zK z a = 1 ∨ zK z a = 5 ∨ zK z a = 7)) {index : Nat} (h1 : ∀ w ∈ wsX10, w ∈ ws) (h5 : ∀ w ∈ wsX60, w ∈ ws) (h7 : ∀ w ∈ wsX80, w ∈ ws) (k : Nat) (hk : k < 4) (hl : Cond.fieldLink RX3 index "BreadLaw$Entry" (TX6 k).2.1 (TX6 k).2.2.1 ∈ ws) {x : Int32} (ez : z' = zsF z (768 + k) a x) (hdg : decode cc pc = .ok (.putfield index, 3))
    (kk : ∀ (H : Heap) (locs : List Loc), Wd n0 D Y z' s H locs → W p l e R s m args below meth c H locs cells slots Q (F0 m (pc + 3) ls rest)) : W p l e R s m args below meth c H locs cells slots Q (F0 m pc ls (.int x :: .ref (n0 + a) :: rest)) := by
  obtain ⟨g0, g1 | g1 | g1⟩ := g
  · rcases (show k = 0 ∨ k = 1 ∨ k = 2 ∨ k = 3 by omega) with rfl | rfl | rfl | rfl
    · exact r_putI C hw ⟨g0, g1⟩ (by decide) (Cn := RX1) (T := TX1) (N := 9) rfl h1 tyX1 tyX1_ok nmX1 0 (by decide) hl (fun _ h => h) (Or.inr ⟨rfl, rfl, rfl⟩) (ty := .int) (by decide +kernel) rfl rfl (Nat.le_of_ble_eq_true rfl) (st_1_0 n0 z a x) ez hdg kk
    · exact r_putI C hw ⟨g0, g1⟩ (by decide) (Cn := RX1) (T := TX1) (N := 9) rfl h1 tyX1 tyX1_ok nmX1 1 (by decide) hl (fun _ h => h) (Or.inr ⟨rfl, rfl, rfl⟩) (ty := .int) (by decide +kernel) rfl rfl (Nat.le_of_ble_eq_true rfl) (st_1_1 n0 z a x) ez hdg kk
    · exact r_putI C hw ⟨g0, g1⟩ (by decide) (Cn := RX1) (T := TX1) (N := 9) rfl h1 tyX1 tyX1_ok nmX1 2 (by decide) hl (fun _ h => h) (Or.inr ⟨rfl, rfl, rfl⟩) (ty := .int) (by decide +kernel) rfl rfl (Nat.le_of_ble_eq_true rfl) (st_1_2 n0 z a x) ez hdg kk
    · exact r_putI C hw ⟨g0, g1⟩ (by decide) (Cn := RX1) (T := TX1) (N := 9) rfl h1 tyX1 tyX1_ok nmX1 3 (by decide) hl (fun _ h => h) (Or.inr ⟨rfl, rfl, rfl⟩) (ty := .int) (by decide +kernel) rfl rfl (Nat.le_of_ble_eq_true rfl) (st_1_3 n0 z a x) ez hdg kk
  · rcases (show k = 0 ∨ k = 1 ∨ k = 2 ∨ k = 3 by omega) with rfl | rfl | rfl | rfl
    · exact r_putI C hw ⟨g0, g1⟩ (by decide) (Cn := RX6) (T := TX6) (N := 8) rfl h5 tyX6 tyX6_ok nmX6 0 (by decide) hl (fun _ h => h) (Or.inr ⟨rfl, rfl, rfl⟩) (ty := .int) (by decide +kernel) rfl rfl (Nat.le_of_ble_eq_true rfl) (st_5_0 n0 z a x) ez hdg kk
    · exact r_putI C hw ⟨g0, g1⟩ (by decide) (Cn := RX6) (T := TX6) (N := 8) rfl h5 tyX6 tyX6_ok nmX6 1 (by decide) hl (fun _ h => h) (Or.inr ⟨rfl, rfl, rfl⟩) (ty := .int) (by decide +kernel) rfl rfl (Nat.le_of_ble_eq_true rfl) (st_5_1 n0 z a x) ez hdg kk
    · exact r_putI C hw ⟨g0, g1⟩ (by decide) (Cn := RX6) (T := TX6) (N := 8) rfl h5 tyX6 tyX6_ok nmX6 2 (by decide) hl (fun _ h => h) (Or.inr ⟨rfl, rfl, rfl⟩) (ty := .int) (by decide +kernel) rfl rfl (Nat.le_of_ble_eq_true rfl) (st_5_2 n0 z a x) ez hdg kk
    · exact r_putI C hw ⟨g0, g1⟩ (by decide) (Cn := RX6) (T := TX6) (N := 8) rfl h5 tyX6 tyX6_ok nmX6 3 (by decide) hl (fun _ h => h) (Or.inr ⟨rfl, rfl, rfl⟩) (ty := .int) (by decide +kernel) rfl rfl (Nat.le_of_ble_eq_true rfl) (st_5_3 n0 z a x) ez hdg kk
  · rcases (show k = 0 ∨ k = 1 ∨ k = 2 ∨ k = 3 by omega) with rfl | rfl | rfl | rfl
    · exact r_putI C hw ⟨g0, g1⟩ (by decide) (Cn := RX8) (T := TX8) (N := 10) rfl h7 tyX8 tyX8_ok nmX8 0 (by decide) hl (fun _ h => h) (Or.inr ⟨rfl, rfl, rfl⟩) (ty := .int) (by decide +kernel) rfl rfl (Nat.le_of_ble_eq_true rfl) (st_7_0 n0 z a x) ez hdg kk
    · exact r_putI C hw ⟨g0, g1⟩ (by decide) (Cn := RX8) (T := TX8) (N := 10) rfl h7 tyX8 tyX8_ok nmX8 1 (by decide) hl (fun _ h => h) (Or.inr ⟨rfl, rfl, rfl⟩) (ty := .int) (by decide +kernel) rfl rfl (Nat.le_of_ble_eq_true rfl) (st_7_1 n0 z a x) ez hdg kk
    · exact r_putI C hw ⟨g0, g1⟩ (by decide) (Cn := RX8) (T := TX8) (N := 10) rfl h7 tyX8 tyX8_ok nmX8 2 (by decide) hl (fun _ h => h) (Or.inr ⟨rfl, rfl, rfl⟩) (ty := .int) (by decide +kernel) rfl rfl (Nat.le_of_ble_eq_true rfl) (st_7_2 n0 z a x) ez hdg kk
    · exact r_putI C hw ⟨g0, g1⟩ (by decide) (Cn := RX8) (T := TX8) (N := 10) rfl h7 tyX8 tyX8_ok nmX8 3 (by decide) hl (fun _ h => h) (Or.inr ⟨rfl, rfl, rfl⟩) (ty := .int) (by decide +kernel) rfl rfl (Nat.le_of_ble_eq_true rfl) (st_7_3 n0 z a x) ez hdg kk
theorem r_new (C : Cx n0 D Y own cc ret mL ws nm p s m args meth c) (hw : Wd n0 D Y z s H locs) (ki : Nat) (h12 : ki < 12) {Cn : String} {T : u_T} {N index : Nat} (hc : vwCl[ki]? = some (Cn, T, N)) (hin : ∀ w ∈ u_ws Cn T N, w ∈ ws) (ty : Nat → FieldType) (hty : ∀ k, k < N → parseFieldDescriptor (T k).2.2.1 = some (ty k)) (hcl : Cond.classLink own index Cn ∈ ws) (hinst : Cond.instantiable Cn N ∈ ws) (hini : Cond.initialized Cn ∈ ws) (hfs : ∀ j, j < N → defaultValue (ty j) = vp_V (fv n0 (zal z ki 0) ki (zn z)) j) (hcells : cells + 1 ≤ R.cells) (hslots : slots + N ≤ R.slots) (hdg : decode cc pc = .ok (.new index, 3))
    (kk : ∀ H : Heap, Wd n0 D Y (zal z ki 0) s H locs → W p l e R s m args below meth c H locs (cells + 1) (slots + N) Q (F0 m (pc + 3) ls (.ref (n0 + zn z) :: rest))) : W p l e R s m args below meth c H locs cells slots Q (F0 m pc ls rest) := by
  have hts := C.2.2.2.2.2.1
  have hKn := C.2.2.2.2.2.2.2.2.1.1 ki _ hc
  refine W.newcK C.1 C.2.1 C.2.2.2.2.1 (hts _ hcl) (hts _ hinst) (hts _ hini) rfl hdg hcells hslots hKn.2.1 hw.1.1 fun H1 kC hkC e1 z1 o1 => ?_
  refine kk H1 (hw.new ?_ (by rw [z1, hw.1.1]) (fun q hq => o1 q (by rw [← hw.1.1]; exact hq)))
  rw [cE_o (ok_new z ki 0).2 h12]
  exact ⟨_, hc, (u_born ty hts hin hKn hkC e1 hty).to hfs⟩
theorem r_iald (C : Cx n0 D Y own cc ret mL ws nm p s m args meth c) (hw : Wd n0 D Y z s H locs) (g : a < zn z ∧ zK z a = 12) {i : Int32} (hi : ¬ (i < 0 ∨ zL z a ≤ i.toNatClampNeg)) (hdg : decode cc pc = .ok (.iaload, 1))
    (kk : W p l e R s m args below meth c H locs cells slots Q (F0 m (pc + 1) ls (.int (zA z a i.toNatClampNeg) :: rest))) : W p l e R s m args below meth c H locs cells slots Q (F0 m pc ls (.int i :: .ref (n0 + a) :: rest)) :=
  va_iald C.1 C.2.1 C.2.2.2.2.2.2.2.2.1 (hw.one g.1 (cE_i g.2)) 0 0 rfl rfl hi hdg kk
theorem r_zald (C : Cx n0 D Y own cc ret mL ws nm p s m args meth c) (hw : Wd n0 D Y z s H locs) (g : a < zn z ∧ zK z a = 14) {i : Int32} (hi : ¬ (i < 0 ∨ zL z a ≤ i.toNatClampNeg)) (hdg : decode cc pc = .ok (.baload, 1))
    (kk : W p l e R s m args below meth c H locs cells slots Q (F0 m (pc + 1) ls (.int (zA z a i.toNatClampNeg) :: rest))) : W p l e R s m args below meth c H locs cells slots Q (F0 m pc ls (.int i :: .ref (n0 + a) :: rest)) :=
  va_zald C.1 C.2.1 C.2.2.2.2.2.2.2.2.1 (hw.one g.1 (cE_z g.2)) 0 2 rfl rfl hi hdg kk
theorem r_lald (C : Cx n0 D Y own cc ret mL ws nm p s m args meth c) (hw : Wd n0 D Y z s H locs) (g : a < zn z ∧ zK z a = 13) {i : Int32} (hi : ¬ (i < 0 ∨ zL z a ≤ i.toNatClampNeg)) (hdg : decode cc pc = .ok (.laload, 1))
    (kk : W p l e R s m args below meth c H locs cells slots Q (F0 m (pc + 1) ls (.long (zJ z a i.toNatClampNeg) :: rest))) : W p l e R s m args below meth c H locs cells slots Q (F0 m pc ls (.int i :: .ref (n0 + a) :: rest)) :=
  va_lald C.1 C.2.1 C.2.2.2.2.2.2.2.2.1 (hw.one g.1 (cE_j g.2)) 0 1 rfl rfl hi hdg kk
theorem r_aald (C : Cx n0 D Y own cc ret mL ws nm p s m args meth c) (hw : Wd n0 D Y z s H locs) {ki t0 : Nat} {E : String} (g : a < zn z ∧ zK z a = ki) (h15 : 15 ≤ ki) (ht : [(Y 12, FieldType.int), (Y 13, .long), (Y 14, .boolean), (Y 15, .object RX0), (Y 16, .object RX3), (Y 17, .object RX6), (Y 18, .object RX9)][t0]? = some (Y ki, .object E)) {i : Int32} (hi : ¬ (i < 0 ∨ zL z a ≤ i.toNatClampNeg)) (hdg : decode cc pc = .ok (.aaload, 1))
    (kk : W p l e R s m args below meth c H locs cells slots Q (F0 m (pc + 1) ls (rv n0 (zR z a i.toNatClampNeg) :: rest))) : W p l e R s m args below meth c H locs cells slots Q (F0 m pc ls (.int i :: .ref (n0 + a) :: rest)) :=
  va_aldq C.1 C.2.1 C.2.2.2.2.2.2.2.2.1 (hw.one g.1 (cE_r g.2 h15)) 0 t0 rfl ht hi hdg (by rw [rv_rf]; exact kk)
theorem r_alen (C : Cx n0 D Y own cc ret mL ws nm p s m args meth c) (hw : Wd n0 D Y z s H locs) (g : a < zn z ∧ zK z a = 12) (hdg : decode cc pc = .ok (.arraylength, 1))
    (kk : W p l e R s m args below meth c H locs cells slots Q (F0 m (pc + 1) ls (.int (Int32.ofNat (zL z a)) :: rest))) : W p l e R s m args below meth c H locs cells slots Q (F0 m pc ls (.ref (n0 + a) :: rest)) :=
  va_alen C.1 C.2.1 C.2.2.2.2.2.2.2.2.1 (hw.one g.1 (cE_i g.2)) 0 0 rfl rfl rfl hdg kk
theorem r_iast (C : Cx n0 D Y own cc ret mL ws nm p s m args meth c) (hw : Wd n0 D Y z s H locs) (g : a < zn z ∧ zK z a = 12) {i x : Int32} (hi : ¬ (i < 0 ∨ zL z a ≤ i.toNatClampNeg)) (ez : z' = zsA z a i.toNatClampNeg x) (hdg : decode cc pc = .ok (.iastore, 1))
    (kk : ∀ (H : Heap) (locs : List Loc), Wd n0 D Y z' s H locs → W p l e R s m args below meth c H locs cells slots Q (F0 m (pc + 1) ls rest)) : W p l e R s m args below meth c H locs cells slots Q (F0 m pc ls (.int x :: .int i :: .ref (n0 + a) :: rest)) := by
  subst ez
  have hat := hw.at g.1
  rw [cE_i g.2] at hat
  refine W.iast C.1 C.2.1 hat ((C.2.2.2.2.2.2.2.2.1.2 0 _ rfl).1 (zL z a) (fun j => .int (zA z a j))) (fun q => by cases q) (by show ¬ (i < 0 ∨ (arrV _ _ _).slots.size ≤ _); rw [arrV_size]; exact hi) rfl rfl hdg fun H1 e1 z1 o1 => ?_
  refine kk H1 _ (hw.put g.1 rfl (fun b hb => cE_sA hb) ?_ z1 o1)
  rw [cE_i (show zK (zsA z a i.toNatClampNeg x) a = 12 from g.2)]
  show H1[n0 + a]? = some (vp_cell _ _)
  rw [e1, vp_cell_i, vp_cell_i, arrV_store]
  congr 2
  funext q
  by_cases hq : q = i.toNatClampNeg
  · subst hq; simp [updV, zA, zsA, u2]
  · simp [updV, zA, zsA, u2, hq]
theorem r_zast (C : Cx n0 D Y own cc ret mL ws nm p s m args meth c) (hw : Wd n0 D Y z s H locs) (g : a < zn z ∧ zK z a = 14) {i x : Int32} (hi : ¬ (i < 0 ∨ zL z a ≤ i.toNatClampNeg)) (hx : x = 0 ∨ x = 1) (ez : z' = zsA z a i.toNatClampNeg x) (hdg : decode cc pc = .ok (.bastore, 1))
    (kk : ∀ (H : Heap) (locs : List Loc), Wd n0 D Y z' s H locs → W p l e R s m args below meth c H locs cells slots Q (F0 m (pc + 1) ls rest)) : W p l e R s m args below meth c H locs cells slots Q (F0 m pc ls (.int x :: .int i :: .ref (n0 + a) :: rest)) := by
  subst ez
  have hat := hw.at g.1
  rw [cE_z g.2] at hat
  refine W.zast C.1 C.2.1 hat ((C.2.2.2.2.2.2.2.2.1.2 2 _ rfl).1 (zL z a) (fun j => .int (zA z a j))) (fun q => by cases q) (by show ¬ (i < 0 ∨ (arrV _ _ _).slots.size ≤ _); rw [arrV_size]; exact hi) rfl rfl hdg fun H1 e1 z1 o1 => ?_
  refine kk H1 _ (hw.put g.1 rfl (fun b hb => cE_sA hb) ?_ z1 o1)
  rw [cE_z (show zK (zsA z a i.toNatClampNeg x) a = 14 from g.2)]
  show H1[n0 + a]? = some (vp_cell _ _)
  rw [e1, vp_cell_i, vp_cell_i, arrV_store]
  congr 2
  funext q
  by_cases hq : q = i.toNatClampNeg
  · subst hq
    rcases hx with rfl | rfl <;> simp [updV, zA, zsA, u2, narrow]
  · simp [updV, zA, zsA, u2, hq]
theorem r_last (C : Cx n0 D Y own cc ret mL ws nm p s m args meth c) (hw : Wd n0 D Y z s H locs) (g : a < zn z ∧ zK z a = 13) {i : Int32} {x : Int64} (hi : ¬ (i < 0 ∨ zL z a ≤ i.toNatClampNeg)) (ez : z' = zsJ z a i.toNatClampNeg x) (hdg : decode cc pc = .ok (.lastore, 1))
    (kk : ∀ (H : Heap) (locs : List Loc), Wd n0 D Y z' s H locs → W p l e R s m args below meth c H locs cells slots Q (F0 m (pc + 1) ls rest)) : W p l e R s m args below meth c H locs cells slots Q (F0 m pc ls (.long x :: .int i :: .ref (n0 + a) :: rest)) := by
  subst ez
  have hat := hw.at g.1
  rw [cE_j g.2] at hat
  refine W.last C.1 C.2.1 hat ((C.2.2.2.2.2.2.2.2.1.2 1 _ rfl).1 (zL z a) (fun j => .long (zJ z a j))) (fun q => by cases q) (by show ¬ (i < 0 ∨ (arrV _ _ _).slots.size ≤ _); rw [arrV_size]; exact hi) rfl rfl hdg fun H1 e1 z1 o1 => ?_
  refine kk H1 _ (hw.put g.1 rfl (fun b hb => cE_sJ hb) ?_ z1 o1)
  rw [cE_j (show zK (zsJ z a i.toNatClampNeg x) a = 13 from g.2)]
  show H1[n0 + a]? = some (vp_cell _ _)
  rw [e1, vp_cell_l, vp_cell_l, arrV_store]
  congr 2
  funext q
  by_cases hq : q = i.toNatClampNeg
  · subst hq; simp [updV, zJ, zsJ, u2]
  · simp [updV, zJ, zsJ, u2, hq]
theorem r_aast (C : Cx n0 D Y own cc ret mL ws nm p s m args meth c) (hw : Wd n0 D Y z s H locs) {ki kv t0 v : Nat} {E : String} {rv0 : vw_C} (g : a < zn z ∧ zK z a = ki) (h15 : 15 ≤ ki) (ht : [(Y 12, FieldType.int), (Y 13, .long), (Y 14, .boolean), (Y 15, .object RX0), (Y 16, .object RX3), (Y 17, .object RX6), (Y 18, .object RX9)][t0]? = some (Y ki, .object E)) (gv : v < zn z ∧ zK z v = kv) (hv12 : kv < 12) (hcv : vwCl[kv]? = some rv0) (hasg : ∀ comp c0 : ClassId, s.vm.findClass E = some comp → s.vm.findClass rv0.1 = some c0 → s.vm.assignable c0 comp = true) {i : Int32} (hi : ¬ (i < 0 ∨ zL z a ≤ i.toNatClampNeg)) (ez : z' = zsR z a i.toNatClampNeg (some v)) (hdg : decode cc pc = .ok (.aastore, 1))
    (kk : ∀ (H : Heap) (locs : List Loc), Wd n0 D Y z' s H locs → W p l e R s m args below meth c H locs cells slots Q (F0 m (pc + 1) ls rest)) : W p l e R s m args below meth c H locs cells slots Q (F0 m pc ls (.ref (n0 + v) :: .int i :: .ref (n0 + a) :: rest)) := by
  subst ez
  have hat := hw.at g.1
  rw [cE_r g.2 h15] at hat
  have hK := C.2.2.2.2.2.2.2.2.1
  obtain ⟨cellV, g1, g3, ⟨kC, hkC⟩, hasg2⟩ := va_rAny (E := E) hK (hw.one gv.1 (cE_o gv.2 hv12)) (q0 := 0) rfl hcv hasg
  obtain ⟨kA, comp, k1, k2, k3, -⟩ := (hK.2 t0 _ ht).2
  obtain ⟨kE, hkE, -⟩ := Vm.findClass_spec k3
  have h0 : ¬ i < 0 := fun q => hi (Or.inl q)
  have hlt : i.toNatClampNeg < zL z a := Nat.not_le.mp fun q => hi (Or.inr q)
  refine W.aast C.1 C.2.1 hat (fun q h => by cases h) (fun h => by cases h) k1 k2 rfl hkE ⟨h0, by show _ < (arrV _ _ _).slots.size; rw [arrV_size]; exact hlt⟩ g1 (fun q h => by rw [h] at g3; cases g3) hkC (hasg2 _ k3) rfl rfl hdg fun H1 e1 z1 o1 => ?_
  refine kk H1 _ (hw.put g.1 rfl (fun b hb => cE_sR hb) ?_ z1 o1)
  rw [cE_r (show zK (zsR z a i.toNatClampNeg (some v)) a = ki from g.2) h15]
  show H1[n0 + a]? = some (vp_cell _ _)
  rw [e1, vp_cell_q, vp_cell_q, arrV_store]
  congr 2
  funext q
  by_cases hq : q = i.toNatClampNeg
  · subst hq; simp [updV, zR, zsR, u2, va_rf]
  · simp [updV, zR, zsR, u2, hq]
theorem asg_self (C : Cx n0 D Y own cc ret mL ws nm p s m args meth c) (kv : Nat) {r : vw_C} (hc : vwCl[kv]? = some r) : ∀ comp c0 : ClassId, s.vm.findClass r.1 = some comp → s.vm.findClass r.1 = some c0 → s.vm.assignable c0 comp = true := by
  intro comp c0 h1 h2
  have hcl := (C.2.2.2.2.2.2.2.2.1.1 kv _ hc).2
  cases h1.symm.trans h2
  cases h1.symm.trans hcl.1
  exact va_assign hcl
theorem asg_up {C T : String} {U : State} (h : va_Nw (.castable C T) U) : ∀ comp c0 : ClassId, U.vm.findClass T = some comp → U.vm.findClass C = some c0 → U.vm.assignable c0 comp = true := by
  intro comp c0 h1 h2
  obtain ⟨a1, t1, f1, f2, f3⟩ := Cond.castable_spec (va_Nw.use (A := #[]) rfl h)
  cases h2.symm.trans f1
  cases h1.symm.trans f2
  exact f3
theorem r_aastE (C : Cx n0 D Y own cc ret mL ws nm p s m args meth c) (hw : Wd n0 D Y z s H locs) {v : Nat} (g : a < zn z ∧ zK z a = 16) (gv : v < zn z ∧ (zK z v = 1 ∨ zK z v = 5 ∨ zK z v = 7)) {i : Int32} (hi : ¬ (i < 0 ∨ zL z a ≤ i.toNatClampNeg)) (ez : z' = zsR z a i.toNatClampNeg (some v)) (hdg : decode cc pc = .ok (.aastore, 1))
    (kk : ∀ (H : Heap) (locs : List Loc), Wd n0 D Y z' s H locs → W p l e R s m args below meth c H locs cells slots Q (F0 m (pc + 1) ls rest)) : W p l e R s m args below meth c H locs cells slots Q (F0 m pc ls (.ref (n0 + v) :: .int i :: .ref (n0 + a) :: rest)) := by
  have hK := C.2.2.2.2.2.2.2.2
  obtain ⟨g0, g1 | g1 | g1⟩ := gv
  · exact r_aast C hw (t0 := 4) (E := RX3) g (by decide) rfl ⟨g0, g1⟩ (by decide) rfl (asg_up hK.2.2.2.1.2.1) hi ez hdg kk
  · exact r_aast C hw (t0 := 4) (E := RX3) g (by decide) rfl ⟨g0, g1⟩ (by decide) rfl (asg_up hK.2.2.2.1.1) hi ez hdg kk
  · exact r_aast C hw (t0 := 4) (E := RX3) g (by decide) rfl ⟨g0, g1⟩ (by decide) rfl (asg_up hK.2.2.2.1.2.2) hi ez hdg kk
/-- arrays are made -/
theorem r_newi (C : Cx n0 D Y own cc ret mL ws nm p s m args meth c) (hw : Wd n0 D Y z s H locs) (harr : Cond.arrayClass .int ∈ ws) {n : Int32} {N' : Nat} (hn : ¬ n < 0) (hN : n.toNatClampNeg = N') (hb : N' * componentBytes .int ≤ 536870912) (hcells : cells + 1 ≤ R.cells) (hslots : slots + N' ≤ R.slots) (hdg : decode cc pc = .ok (.newarray .int, 2))
    (kk : ∀ H : Heap, Wd n0 D Y (zal z 12 N') s H locs → W p l e R s m args below meth c H locs (cells + 1) (slots + N') Q (F0 m (pc + 2) ls (.ref (n0 + zn z) :: rest))) : W p l e R s m args below meth c H locs cells slots Q (F0 m pc ls (.int n :: rest)) := by
  refine va_newaK (atype := .int) C.1 C.2.1 (C.2.2.2.2.2.1 _ harr) rfl hdg rfl hn hN hb hcells hslots hw.1.1 fun H1 cA e1 z1 o1 hAr hNm => ?_
  have hY : cA = Y 12 := Option.some.inj (hNm.symm.trans (C.2.2.2.2.2.2.2.2.1.2 0 _ rfl).2)
  subst hY
  refine kk H1 (hw.new ?_ (by rw [z1, hw.1.1]) (fun q hq => o1 q (by rw [← hw.1.1]; exact hq)))
  rw [cE_i (ok_new z 12 N').2]
  show H1[n0 + zn z]? = some (vp_cell _ _)
  rw [e1, vp_cell_i]
  simp [zL, zA, zal, va_up, zn]
  rfl
theorem r_newz (C : Cx n0 D Y own cc ret mL ws nm p s m args meth c) (hw : Wd n0 D Y z s H locs) (harr : Cond.arrayClass .boolean ∈ ws) {n : Int32} {N' : Nat} (hn : ¬ n < 0) (hN : n.toNatClampNeg = N') (hb : N' * componentBytes .boolean ≤ 536870912) (hcells : cells + 1 ≤ R.cells) (hslots : slots + N' ≤ R.slots) (hdg : decode cc pc = .ok (.newarray .boolean, 2))
    (kk : ∀ H : Heap, Wd n0 D Y (zal z 14 N') s H locs → W p l e R s m args below meth c H locs (cells + 1) (slots + N') Q (F0 m (pc + 2) ls (.ref (n0 + zn z) :: rest))) : W p l e R s m args below meth c H locs cells slots Q (F0 m pc ls (.int n :: rest)) := by
  refine va_newaK (atype := .boolean) C.1 C.2.1 (C.2.2.2.2.2.1 _ harr) rfl hdg rfl hn hN hb hcells hslots hw.1.1 fun H1 cA e1 z1 o1 hAr hNm => ?_
  have hY : cA = Y 14 := Option.some.inj (hNm.symm.trans (C.2.2.2.2.2.2.2.2.1.2 2 _ rfl).2)
  subst hY
  refine kk H1 (hw.new ?_ (by rw [z1, hw.1.1]) (fun q hq => o1 q (by rw [← hw.1.1]; exact hq)))
  rw [cE_z (ok_new z 14 N').2]
  show H1[n0 + zn z]? = some (vp_cell _ _)
  rw [e1, vp_cell_i]
  simp [zL, zA, zal, va_up, zn]
  rfl
theorem r_newj (C : Cx n0 D Y own cc ret mL ws nm p s m args meth c) (hw : Wd n0 D Y z s H locs) (harr : Cond.arrayClass .long ∈ ws) {n : Int32} {N' : Nat} (hn : ¬ n < 0) (hN : n.toNatClampNeg = N') (hb : N' * componentBytes .long ≤ 536870912) (hcells : cells + 1 ≤ R.cells) (hslots : slots + N' ≤ R.slots) (hdg : decode cc pc = .ok (.newarray .long, 2))
    (kk : ∀ H : Heap, Wd n0 D Y (zal z 13 N') s H locs → W p l e R s m args below meth c H locs (cells + 1) (slots + N') Q (F0 m (pc + 2) ls (.ref (n0 + zn z) :: rest))) : W p l e R s m args below meth c H locs cells slots Q (F0 m pc ls (.int n :: rest)) := by
  refine va_newaK (atype := .long) C.1 C.2.1 (C.2.2.2.2.2.1 _ harr) rfl hdg rfl hn hN hb hcells hslots hw.1.1 fun H1 cA e1 z1 o1 hAr hNm => ?_
  have hY : cA = Y 13 := Option.some.inj (hNm.symm.trans (C.2.2.2.2.2.2.2.2.1.2 1 _ rfl).2)
  subst hY
  refine kk H1 (hw.new ?_ (by rw [z1, hw.1.1]) (fun q hq => o1 q (by rw [← hw.1.1]; exact hq)))
  rw [cE_j (ok_new z 13 N').2]
  show H1[n0 + zn z]? = some (vp_cell _ _)
  rw [e1, vp_cell_l]
  simp [zL, zJ, zal, va_up, zn]
  rfl
theorem r_newq (C : Cx n0 D Y own cc ret mL ws nm p s m args meth c) (hw : Wd n0 D Y z s H locs) {ki t0 index : Nat} {E : String} (h15 : 15 ≤ ki) (ht : [(Y 12, FieldType.int), (Y 13, .long), (Y 14, .boolean), (Y 15, .object RX0), (Y 16, .object RX3), (Y 17, .object RX6), (Y 18, .object RX9)][t0]? = some (Y ki, .object E)) (hcl : Cond.classLink own index E ∈ ws) (hover : va_AO E s) {n : Int32} {N' : Nat} (hn : ¬ n < 0) (hN : n.toNatClampNeg = N') (hb : N' * 4 ≤ 536870912) (hcells : cells + 1 ≤ R.cells) (hslots : slots + N' ≤ R.slots) (hdg : decode cc pc = .ok (.anewarray index, 3))
    (kk : ∀ H : Heap, Wd n0 D Y (zal z ki N') s H locs → W p l e R s m args below meth c H locs (cells + 1) (slots + N') Q (F0 m (pc + 3) ls (.ref (n0 + zn z) :: rest))) : W p l e R s m args below meth c H locs cells slots Q (F0 m pc ls (.int n :: rest)) := by
  subst hN
  refine W.anew C.1 C.2.1 C.2.2.2.2.1 (C.2.2.2.2.2.1 _ hcl) (va_AO.use hover) rfl hdg rfl hn hb hcells hslots fun cA kA comp f1 f2 f3 f4 => ?_
  obtain ⟨kA', comp', k1, k2, k3, k4⟩ := (C.2.2.2.2.2.2.2.2.1.2 t0 _ ht).2
  have hY : cA = Y ki := Option.some.inj (f1.symm.trans k4)
  subst hY
  generalize hH1 : H.push ({ cls := Y ki, slots := Array.replicate n.toNatClampNeg .null, vm := .none } : Cell) = H1
  have z1 : H1.size = H.size + 1 := by rw [← hH1, Array.size_push]
  have e1 : H1[H.size]? = some (arrV (Y ki) n.toNatClampNeg (fun _ => .null)) := by rw [← hH1, Array.getElem?_push_size, ← arrV_new]
  have o1 : ∀ q : Nat, q < H.size → H1[q]? = H[q]? := fun q hq => by rw [← hH1, Array.getElem?_push, if_neg (Nat.ne_of_lt hq)]
  have e2 : (Value.ref H.size) = .ref (n0 + zn z) := by rw [hw.1.1]
  refine W.eq (g2 := F0 m (pc + 3) ls (.ref (n0 + zn z) :: rest)) (by rw [← e2]) ?_
  refine kk H1 (hw.new ?_ z1 o1)
  rw [cE_r (ok_new z ki n.toNatClampNeg).2 h15]
  show H1[n0 + zn z]? = some (vp_cell _ _)
  rw [← hw.1.1, e1, vp_cell_q]
  simp [zL, zR, zal, va_up, zn, va_rf]
-- nullable references
theorem r_aload_n (C : Cx n0 D Y own cc ret mL ws nm p s m args meth c) {k : Fin 4} {i : Nat} {r : Option Nat} (hdg : decode cc pc = .ok (.aload_n k, 1)) (hi : (k : Nat) = i) (hl : ls[i]? = some (.val (rv n0 r))) (kk : W p l e R s m args below meth c H locs cells slots Q (F0 m (pc + 1) ls (rv n0 r :: rest))) : W p l e R s m args below meth c H locs cells slots Q (F0 m pc ls rest) := by
  cases r with
  | none => exact lv_aload_nN C.1 C.2.1 hdg hi hl kk
  | some a => exact lv_aload_n C.1 C.2.1 hdg hi hl kk
theorem r_aload (C : Cx n0 D Y own cc ret mL ws nm p s m args meth c) {i : Nat} {r : Option Nat} (hdg : decode cc pc = .ok (.aload i, 2)) (hl : ls[i]? = some (.val (rv n0 r))) (kk : W p l e R s m args below meth c H locs cells slots Q (F0 m (pc + 2) ls (rv n0 r :: rest))) : W p l e R s m args below meth c H locs cells slots Q (F0 m pc ls rest) := by
  cases r with
  | none => exact lv_aloadN C.1 C.2.1 hdg hl kk
  | some a => exact lv_aload C.1 C.2.1 hdg hl kk
theorem r_astore_n (C : Cx n0 D Y own cc ret mL ws nm p s m args meth c) {k : Fin 4} {i nL : Nat} {r : Option Nat} {lv lv' : List (Nat × Value)} (hdg : decode cc pc = .ok (.astore_n k, 1)) (hi : (k : Nat) = i) (h : lv_has ls nL lv) (hn : i < nL) (hl : (i, rv n0 r) :: lv.filter (fun q => !(q.1 == i) && !(q.1 + 1 == i && q.2.category == 2)) = lv')
    (kk : ∀ ls' : Array Slot, lv_has ls' nL lv' → W p l e R s m args below meth c H locs cells slots Q (F0 m (pc + 1) ls' rest)) : W p l e R s m args below meth c H locs cells slots Q (F0 m pc ls (rv n0 r :: rest)) := by
  cases r with
  | none => exact lv_astore_nN C.1 C.2.1 hdg hi h hn hl kk
  | some a => exact lv_astore_n C.1 C.2.1 hdg hi h hn hl kk
theorem r_astore (C : Cx n0 D Y own cc ret mL ws nm p s m args meth c) {i nL : Nat} {r : Option Nat} {lv lv' : List (Nat × Value)} (hdg : decode cc pc = .ok (.astore i, 2)) (h : lv_has ls nL lv) (hn : i < nL) (hl : (i, rv n0 r) :: lv.filter (fun q => !(q.1 == i) && !(q.1 + 1 == i && q.2.category == 2)) = lv')
    (kk : ∀ ls' : Array Slot, lv_has ls' nL lv' → W p l e R s m args below meth c H locs cells slots Q (F0 m (pc + 2) ls' rest)) : W p l e R s m args below meth c H locs cells slots Q (F0 m pc ls (rv n0 r :: rest)) := by
  cases r with
  | none => exact lv_astoreN C.1 C.2.1 hdg h hn hl kk
  | some a => exact lv_astore C.1 C.2.1 hdg h hn hl kk
theorem r_ifnull (C : Cx n0 D Y own cc ret mL ws nm p s m args meth c) {r : Option Nat} {off : Int} {tgt : Nat} (hdg : decode cc pc = .ok (.ifnull off, 3)) (ht : (pc : Int) + off = (tgt : Int)) (k0 : r = none → W p l e R s m args below meth c H locs cells slots Q (F0 m tgt ls rest)) (k1 : ∀ a, r = some a → W p l e R s m args below meth c H locs cells slots Q (F0 m (pc + 3) ls rest)) : W p l e R s m args below meth c H locs cells slots Q (F0 m pc ls (rv n0 r :: rest)) := by
  cases r with
  | none => exact lv_ifnullN C.1 C.2.1 hdg ht (k0 rfl)
  | some a => exact lv_ifnull C.1 C.2.1 hdg (k1 a rfl)
theorem r_ifnonnull (C : Cx n0 D Y own cc ret mL ws nm p s m args meth c) {r : Option Nat} {off : Int} {tgt : Nat} (hdg : decode cc pc = .ok (.ifnonnull off, 3)) (ht : (pc : Int) + off = (tgt : Int)) (k0 : r = none → W p l e R s m args below meth c H locs cells slots Q (F0 m (pc + 3) ls rest)) (k1 : ∀ a, r = some a → W p l e R s m args below meth c H locs cells slots Q (F0 m tgt ls rest)) : W p l e R s m args below meth c H locs cells slots Q (F0 m pc ls (rv n0 r :: rest)) := by
  cases r with
  | none => exact lv_ifnonnullN C.1 C.2.1 hdg (k0 rfl)
  | some a => exact lv_ifnonnull C.1 C.2.1 hdg ht (k1 a rfl)
theorem r_topr {r : Option Nat} (e1 : r = some a) (k : W p l e R s m args below meth c H locs cells slots Q (F0 m pc ls (.ref (n0 + a) :: rest))) : W p l e R s m args below meth c H locs cells slots Q (F0 m pc ls (rv n0 r :: rest)) := by subst e1; exact k
theorem r_topq {r r' : Option Nat} (e1 : r' = r) (k : W p l e R s m args below meth c H locs cells slots Q (F0 m pc ls (rv n0 r' :: rest))) : W p l e R s m args below meth c H locs cells slots Q (F0 m pc ls (rv n0 r :: rest)) := by subst e1; exact k
theorem r_topi {x y : Int32} (e1 : y = x) (k : W p l e R s m args below meth c H locs cells slots Q (F0 m pc ls (.int y :: rest))) : W p l e R s m args below meth c H locs cells slots Q (F0 m pc ls (.int x :: rest)) := by subst e1; exact k
theorem r_topl {x y : Int64} (e1 : y = x) (k : W p l e R s m args below meth c H locs cells slots Q (F0 m pc ls (.long y :: rest))) : W p l e R s m args below meth c H locs cells slots Q (F0 m pc ls (.long x :: rest)) := by subst e1; exact k
-- instanceof, checkcast
theorem Wd.recv (C : Cx n0 D Y own cc ret mL ws nm p s m args meth c) (hw : Wd n0 D Y z s H locs) {ki : Nat} (g : a < zn z ∧ zK z a = ki) (h12 : ki < 12) {r : vw_C} (hc : vwCl[ki]? = some r) : ∃ cell : Cell, H[n0 + a]? = some cell ∧ cell.vm.isStatics = false ∧ s.vm.findClass r.1 = some cell.cls :=
  va_recv C.2.2.2.2.2.2.2.2.1 (hw.one g.1 (cE_o g.2 h12)) hc (q0 := 0) rfl
theorem r_inst1 (C : Cx n0 D Y own cc ret mL ws nm p s m args meth c) (hw : Wd n0 D Y z s H locs) (g : a < zn z ∧ (zK z a = 1 ∨ zK z a = 5 ∨ zK z a = 7)) {index : Nat} (hl : Cond.classLink own index RX1 ∈ ws) (hdg : decode cc pc = .ok (.instanceof index, 3))
    (ky : zK z a = 1 → W p l e R s m args below meth c H locs cells slots Q (F0 m (pc + 3) ls (.int 1 :: rest))) (kn : ¬ zK z a = 1 → W p l e R s m args below meth c H locs cells slots Q (F0 m (pc + 3) ls (.int 0 :: rest))) : W p l e R s m args below meth c H locs cells slots Q (F0 m pc ls (.ref (n0 + a) :: rest)) := by
  have hK := C.2.2.2.2.2.2.2.2
  obtain ⟨g0, g1 | g1 | g1⟩ := g
  · exact va_instS C.1 C.2.1 C.2.2.2.2.1 (C.2.2.2.2.2.1 _ hl) (hK.1.1 1 _ rfl).2 (hw.recv C ⟨g0, g1⟩ (by decide) rfl) hdg (ky g1)
  · exact va_instNo C.1 C.2.1 C.2.2.2.2.1 (C.2.2.2.2.2.1 _ hl) hK.2.2.1.2.2.1 (hw.recv C ⟨g0, g1⟩ (by decide) rfl) hdg (kn (by omega))
  · exact va_instNo C.1 C.2.1 C.2.2.2.2.1 (C.2.2.2.2.2.1 _ hl) hK.2.2.1.2.2.2.1 (hw.recv C ⟨g0, g1⟩ (by decide) rfl) hdg (kn (by omega))
theorem r_inst5 (C : Cx n0 D Y own cc ret mL ws nm p s m args meth c) (hw : Wd n0 D Y z s H locs) (g : a < zn z ∧ (zK z a = 1 ∨ zK z a = 5 ∨ zK z a = 7)) {index : Nat} (hl : Cond.classLink own index RX6 ∈ ws) (hdg : decode cc pc = .ok (.instanceof index, 3))
    (ky : zK z a = 5 → W p l e R s m args below meth c H locs cells slots Q (F0 m (pc + 3) ls (.int 1 :: rest))) (kn : ¬ zK z a = 5 → W p l e R s m args below meth c H locs cells slots Q (F0 m (pc + 3) ls (.int 0 :: rest))) : W p l e R s m args below meth c H locs cells slots Q (F0 m pc ls (.ref (n0 + a) :: rest)) := by
  have hK := C.2.2.2.2.2.2.2.2
  obtain ⟨g0, g1 | g1 | g1⟩ := g
  · exact va_instNo C.1 C.2.1 C.2.2.2.2.1 (C.2.2.2.2.2.1 _ hl) hK.2.2.1.1 (hw.recv C ⟨g0, g1⟩ (by decide) rfl) hdg (kn (by omega))
  · exact va_instS C.1 C.2.1 C.2.2.2.2.1 (C.2.2.2.2.2.1 _ hl) (hK.1.1 5 _ rfl).2 (hw.recv C ⟨g0, g1⟩ (by decide) rfl) hdg (ky g1)
  · exact va_instNo C.1 C.2.1 C.2.2.2.2.1 (C.2.2.2.2.2.1 _ hl) hK.2.2.1.2.1 (hw.recv C ⟨g0, g1⟩ (by decide) rfl) hdg (kn (by omega))
theorem r_inst7 (C : Cx n0 D Y own cc ret mL ws nm p s m args meth c) (hw : Wd n0 D Y z s H locs) (g : a < zn z ∧ (zK z a = 1 ∨ zK z a = 5 ∨ zK z a = 7)) {index : Nat} (hl : Cond.classLink own index RX8 ∈ ws) (hdg : decode cc pc = .ok (.instanceof index, 3))
    (ky : zK z a = 7 → W p l e R s m args below meth c H locs cells slots Q (F0 m (pc + 3) ls (.int 1 :: rest))) (kn : ¬ zK z a = 7 → W p l e R s m args below meth c H locs cells slots Q (F0 m (pc + 3) ls (.int 0 :: rest))) : W p l e R s m args below meth c H locs cells slots Q (F0 m pc ls (.ref (n0 + a) :: rest)) := by
  have hK := C.2.2.2.2.2.2.2.2
  obtain ⟨g0, g1 | g1 | g1⟩ := g
  · exact va_instNo C.1 C.2.1 C.2.2.2.2.1 (C.2.2.2.2.2.1 _ hl) hK.2.2.1.2.2.2.2.1 (hw.recv C ⟨g0, g1⟩ (by decide) rfl) hdg (kn (by omega))
  · exact va_instNo C.1 C.2.1 C.2.2.2.2.1 (C.2.2.2.2.2.1 _ hl) hK.2.2.1.2.2.2.2.2 (hw.recv C ⟨g0, g1⟩ (by decide) rfl) hdg (kn (by omega))
  · exact va_instS C.1 C.2.1 C.2.2.2.2.1 (C.2.2.2.2.2.1 _ hl) (hK.1.1 7 _ rfl).2 (hw.recv C ⟨g0, g1⟩ (by decide) rfl) hdg (ky g1)
theorem r_cast (C : Cx n0 D Y own cc ret mL ws nm p s m args meth c) (hw : Wd n0 D Y z s H locs) {ki : Nat} (g : a < zn z ∧ zK z a = ki) (h12 : ki < 12) {r : vw_C} (hc : vwCl[ki]? = some r) {index : Nat} (hl : Cond.classLink own index r.1 ∈ ws) (hdg : decode cc pc = .ok (.checkcast index, 3))
    (kk : W p l e R s m args below meth c H locs cells slots Q (F0 m (pc + 3) ls (.ref (n0 + a) :: rest))) : W p l e R s m args below meth c H locs cells slots Q (F0 m pc ls (.ref (n0 + a) :: rest)) :=
  va_castS C.1 C.2.1 C.2.2.2.2.1 (C.2.2.2.2.2.1 _ hl) (C.2.2.2.2.2.2.2.2.1.1 ki _ hc).2 (hw.recv C g h12 hc) hdg kk
-- calls
variable {y : MethodName} {bytes : ByteArray} {maxL mc ms n index : Nat} {rc : Option FieldType} {wc : List Cond} {rm : Room} {As st0 : List Value}
theorem Cx.fix (C : Cx n0 D Y own cc ret mL ws nm p s m args meth c) : CallFix p m c cc mL s args ws own := ⟨C.1, C.2.1, C.2.2.2.1, C.2.2.2.2.1, C.2.2.2.2.2.1⟩
theorem Wd.pre (C : Cx n0 D Y own cc ret mL ws nm p s m args meth c) (hw : Wd n0 D Y z s H locs) {av : List Value} : ∀ U : State, U.heap = H → s.WarmedH U.vm → PreC n0 D Y z av av.toArray U := fun U hU hW => ⟨rfl, by rw [hU]; exact hw.1, KK.warm hW C.2.2.2.2.2.2.2.2⟩
theorem r_afti (hw : Wd n0 D Y z s H locs) {r : Int32} {aa : Array Value} (hr : va_Run p l e R s m args below meth c H locs cells slots mc ms (F0 m pc ls st0) rest (PosI n0 D Y z' r aa) (AA n0)) (kk : ∀ (H : Heap) (locs : List Loc), Wd n0 D Y z' s H locs → W p l e R s m args below meth c H locs (cells + mc) (slots + ms) Q (F0 m (pc + 3) ls (.int r :: rest))) : W p l e R s m args below meth c H locs cells slots Q (F0 m pc ls st0) :=
  va_calli hr hw.2 (fun _ _ h => h) (fun _ h => h) (fun r' u t H1 locs1 ht hvm hp hB hz hk hS => by subst hp; exact kk H1 locs1 ⟨by rw [← ht]; exact hB, hS⟩)
theorem r_aftv (hw : Wd n0 D Y z s H locs) {aa : Array Value} (hr : va_Run p l e R s m args below meth c H locs cells slots mc ms (F0 m pc ls st0) rest (PosV n0 D Y z' aa) (AA n0)) (kk : ∀ (H : Heap) (locs : List Loc), Wd n0 D Y z' s H locs → W p l e R s m args below meth c H locs (cells + mc) (slots + ms) Q (F0 m (pc + 3) ls rest)) : W p l e R s m args below meth c H locs cells slots Q (F0 m pc ls st0) :=
  va_callv hr hw.2 (fun _ _ h => h) (fun _ h => h) (fun u t H1 locs1 ht hvm hp hB hz hk hS => kk H1 locs1 ⟨by rw [← ht]; exact hB, hS⟩)
theorem r_aftq (hw : Wd n0 D Y z s H locs) {r : Option Nat} {aa : Array Value} (hr : va_Run p l e R s m args below meth c H locs cells slots mc ms (F0 m pc ls st0) rest (PosQ n0 D Y z' r aa) (AA n0)) (kk : ∀ (H : Heap) (locs : List Loc), Wd n0 D Y z' s H locs → W p l e R s m args below meth c H locs (cells + mc) (slots + ms) Q (F0 m (pc + 3) ls (rv n0 r :: rest))) : W p l e R s m args below meth c H locs cells slots Q (F0 m pc ls st0) :=
  va_callq hr hw.2 (fun _ _ h => h) (fun _ h => h) (fun r' u t H1 locs1 ht hvm hp hB hz hk hS => by subst hp; rw [rv_rf]; exact kk H1 locs1 ⟨by rw [← ht]; exact hB, hS⟩)
variable {Qc : Array Value → State → Outcome → State → Prop}
theorem r_runV (C : Cx n0 D Y own cc ret mL ws nm p s m args meth c) (hw : Wd n0 D Y z s H locs) {ki : Nat} (g : a < zn z ∧ zK z a = ki) (h12 : ki < 12) {r : vw_C} (hc : vwCl[ki]? = some r) (hM : Met l y wc rm (PreC n0 D Y z (.ref (n0 + a) :: As)) Qc mc ms (AA n0)) (cw : CallW R s args own r.1 index y bytes maxL rc wc rm mc ms n) (hn : As.length = n) (hs : ls.size = mL) (hst : st0 = As.reverse ++ .ref (n0 + a) :: rest) (hW : (rest.map fun v => v.category).sum ≤ 8) (hdg : decode cc pc = .ok (.invokevirtual index, 3)) (hf : cells + mc ≤ R.cells ∧ slots + ms ≤ R.slots) :
    va_Run p l e R s m args below meth c H locs cells slots mc ms (F0 m pc ls st0) rest (Qc (Value.ref (n0 + a) :: As).toArray) (AA n0) :=
  va_runV C.fix hM cw ⟨PreC.blind, hw.recv C g h12 hc, hw.pre C⟩ rfl hn hs hst (lv_room hW) hdg hf
theorem r_runU (C : Cx n0 D Y own cc ret mL ws nm p s m args meth c) (hw : Wd n0 D Y z s H locs) {ki : Nat} (g : a < zn z ∧ zK z a = ki) (h12 : ki < 12) {r : vw_C} (hc : vwCl[ki]? = some r) {x : MethodName} {owner : String} (hM : Met l y wc rm (PreC n0 D Y z (.ref (n0 + a) :: As)) Qc mc ms (AA n0)) (cw : va_CU R s args own r.1 owner index x y bytes maxL rc wc rm mc ms n) (hn : As.length = n) (hs : ls.size = mL) (hst : st0 = As.reverse ++ .ref (n0 + a) :: rest) (hW : (rest.map fun v => v.category).sum ≤ 8) (hdg : decode cc pc = .ok (.invokevirtual index, 3)) (hf : cells + mc ≤ R.cells ∧ slots + ms ≤ R.slots) :
    va_Run p l e R s m args below meth c H locs cells slots mc ms (F0 m pc ls st0) rest (Qc (Value.ref (n0 + a) :: As).toArray) (AA n0) :=
  va_runU C.fix hM cw ⟨PreC.blind, hw.recv C g h12 hc, hw.pre C⟩ rfl hn hs hst (lv_room hW) hdg hf
theorem r_runS (C : Cx n0 D Y own cc ret mL ws nm p s m args meth c) (hw : Wd n0 D Y z s H locs) (hM : Met l y wc rm (PreC n0 D Y z As) Qc mc ms (AA n0)) (cw : CallB R s args own index y bytes maxL rc wc rm mc ms n ∧ (Cond.static y).before args s = true) (hn : As.length = n) (hs : ls.size = mL) (hst : st0 = As.reverse ++ rest) (hW : (rest.map fun v => v.category).sum ≤ 8) (hdg : decode cc pc = .ok (.invokestatic index, 3)) (hf : cells + mc ≤ R.cells ∧ slots + ms ≤ R.slots) :
    va_Run p l e R s m args below meth c H locs cells slots mc ms (F0 m pc ls st0) rest (Qc As.toArray) (AA n0) :=
  va_runS C.fix hM cw ⟨PreC.blind, hw.pre C⟩ rfl hn hs hst (lv_room hW) hdg hf
theorem r_runI (C : Cx n0 D Y own cc ret mL ws nm p s m args meth c) (hw : Wd n0 D Y z s H locs) (hM : Met l y wc rm (PreC n0 D Y z (.ref (n0 + a) :: As)) Qc mc ms (AA n0)) (cw : CallB R s args own index y bytes maxL none wc rm mc ms n ∧ y.name = "<init>" ∧ (Cond.instanceMethod y).before args s = true) (hn : As.length = n) (hs : ls.size = mL) (hst : st0 = As.reverse ++ .ref (n0 + a) :: rest) (hW : (rest.map fun v => v.category).sum ≤ 8) (hdg : decode cc pc = .ok (.invokespecial index, 3)) (hf : cells + mc ≤ R.cells ∧ slots + ms ≤ R.slots) :
    va_Run p l e R s m args below meth c H locs cells slots mc ms (F0 m pc ls st0) rest (Qc (Value.ref (n0 + a) :: As).toArray) (AA n0) :=
  va_runI C.fix hM cw ⟨PreC.blind, hw.pre C⟩ rfl hn hs hst (lv_room hW) hdg hf
theorem r_runIN (C : Cx n0 D Y own cc ret mL ws nm p s m args meth c) (hw : Wd n0 D Y z s H locs) {host : String} (hM : Met l y wc rm (PreC n0 D Y z (.ref (n0 + a) :: As)) Qc mc ms (AA n0)) (cw : va_CN R s args own index y host bytes maxL none wc rm mc ms n ∧ y.name = "<init>" ∧ (Cond.instanceMethod y).before args s = true) (hn : As.length = n) (hs : ls.size = mL) (hst : st0 = As.reverse ++ .ref (n0 + a) :: rest) (hW : (rest.map fun v => v.category).sum ≤ 8) (hdg : decode cc pc = .ok (.invokespecial index, 3)) (hf : cells + mc ≤ R.cells ∧ slots + ms ≤ R.slots) :
    va_Run p l e R s m args below meth c H locs cells slots mc ms (F0 m pc ls st0) rest (Qc (Value.ref (n0 + a) :: As).toArray) (AA n0) :=
  va_runIN C.fix hM cw ⟨PreC.blind, hw.pre C⟩ rfl hn hs hst (lv_room hW) hdg hf
-- ends
theorem r_iret (C : Cx n0 D Y own cc (some .int) mL ws nm p s m args meth c) (hw : Wd n0 D Y z s H locs) {r : Int32} (hdg : decode cc pc = .ok (.ireturn, 1)) : W p l e R s m args below meth c H locs cells slots (MQ below (PosI n0 D Y z r) args s cells slots (AA n0)) (F0 m pc ls [.int r]) :=
  W.iret (v := r) C.1 C.2.1 C.2.2.1 (fun t ht hW => ⟨⟨r, (), rfl, rfl, (show Rp n0 D Y z t.heap by rw [ht]; exact hw.1)⟩, hw.2.F ht⟩) hw.2.2.2 hdg C.2.2.2.2.2.2.1
theorem r_zret (C : Cx n0 D Y own cc (some .boolean) mL ws nm p s m args meth c) (hw : Wd n0 D Y z s H locs) {r : Int32} (h01 : r = 0 ∨ r = 1) (hdg : decode cc pc = .ok (.ireturn, 1)) : W p l e R s m args below meth c H locs cells slots (MQ below (PosI n0 D Y z r) args s cells slots (AA n0)) (F0 m pc ls [.int r]) :=
  W.zret (v := r) C.1 C.2.1 C.2.2.1 (by rcases h01 with rfl | rfl <;> rfl) (fun t ht hW => ⟨⟨r, (), rfl, rfl, (show Rp n0 D Y z t.heap by rw [ht]; exact hw.1)⟩, hw.2.F ht⟩) hw.2.2.2 hdg C.2.2.2.2.2.2.1
theorem r_vret (C : Cx n0 D Y own cc none mL ws nm p s m args meth c) (hw : Wd n0 D Y z s H locs) (hdg : decode cc pc = .ok (.return_, 1)) : W p l e R s m args below meth c H locs cells slots (MQ below (PosV n0 D Y z) args s cells slots (AA n0)) (F0 m pc ls []) :=
  W.vret C.1 C.2.1 C.2.2.1 (fun t ht hW => ⟨⟨(), rfl, trivial, (show Rp n0 D Y z t.heap by rw [ht]; exact hw.1)⟩, hw.2.F ht⟩) hw.2.2.2 hdg C.2.2.2.2.2.2.1
theorem r_aret {nC : String} (C : Cx n0 D Y own cc (some (.object nC)) mL ws nm p s m args meth c) (hw : Wd n0 D Y z s H locs) {r : Option Nat} (hdg : decode cc pc = .ok (.areturn, 1)) : W p l e R s m args below meth c H locs cells slots (MQ below (PosQ n0 D Y z r) args s cells slots (AA n0)) (F0 m pc ls [rv n0 r]) :=
  W.aret (v := rv n0 r) C.1 C.2.1 C.2.2.1 (Or.inl ⟨_, rfl⟩) (by cases r with | none => exact Or.inl rfl | some a => exact Or.inr ⟨_, rfl⟩) (fun t ht hW => ⟨⟨r.map (n0 + ·), (), by rw [rv_rf], rfl, (show Rp n0 D Y z t.heap by rw [ht]; exact hw.1)⟩, hw.2.F ht⟩) hw.2.2.2 hdg C.2.2.2.2.2.2.1
end
theorem ne_ti {x k : Int32} (h : ¬ x = k) : x.toInt ≠ k.toInt := fun q => h (Int32.toInt_inj.mp q)
end
