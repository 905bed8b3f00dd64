section
-- the tables: their words
/-- a method by its rows of tables_1 -/
def lw_okq (q : MethodName × Nat) : Prop := (q.1.cls ≠ "java/lang/invoke/MethodHandle" ∧ q.1.cls ≠ "java/lang/invoke/VarHandle") ∧ Cond.instantiable q.1.cls q.2 ∈ tables_1 ∧ Cond.privateMethod q.1 ∈ tables_1 ∧ Cond.instanceMethod q.1 ∈ tables_1
theorem lw_p0 : lw_okq (⟨"ByteShelf", "nextRow", "()LByteShelf$Row;"⟩, 5) := ⟨⟨by decide +kernel, by decide +kernel⟩, List.mem_of_getElem? (i := 9) (by decide +kernel), List.mem_of_getElem? (i := 75) (by decide +kernel), List.mem_of_getElem? (i := 76) (by decide +kernel)⟩
theorem lw_p1 : lw_okq (⟨"ByteShelf$Memory", "cut", "(I)I"⟩, 5) := ⟨⟨by decide +kernel, by decide +kernel⟩, List.mem_of_getElem? (i := 17) (by decide +kernel), List.mem_of_getElem? (i := 112) (by decide +kernel), List.mem_of_getElem? (i := 113) (by decide +kernel)⟩
theorem lw_p2 : lw_okq (⟨"ByteShelf$Memory", "pushTogether", "()V"⟩, 5) := ⟨⟨by decide +kernel, by decide +kernel⟩, List.mem_of_getElem? (i := 17) (by decide +kernel), List.mem_of_getElem? (i := 116) (by decide +kernel), List.mem_of_getElem? (i := 117) (by decide +kernel)⟩
theorem lw_p3 : lw_okq (⟨"ByteShelf$Memory", "append", "(LByteShelf$Row;)V"⟩, 5) := ⟨⟨by decide +kernel, by decide +kernel⟩, List.mem_of_getElem? (i := 17) (by decide +kernel), List.mem_of_getElem? (i := 129) (by decide +kernel), List.mem_of_getElem? (i := 130) (by decide +kernel)⟩
theorem lw_p4 : lw_okq (⟨"ByteShelf", "find", "(I)LByteShelf$Row;"⟩, 5) := ⟨⟨by decide +kernel, by decide +kernel⟩, List.mem_of_getElem? (i := 9) (by decide +kernel), List.mem_of_getElem? (i := 137) (by decide +kernel), List.mem_of_getElem? (i := 138) (by decide +kernel)⟩
theorem lw_p5 : lw_okq (⟨"ByteShelf$Memory", "unlink", "(LByteShelf$Row;)V"⟩, 5) := ⟨⟨by decide +kernel, by decide +kernel⟩, List.mem_of_getElem? (i := 17) (by decide +kernel), List.mem_of_getElem? (i := 145) (by decide +kernel), List.mem_of_getElem? (i := 146) (by decide +kernel)⟩
theorem lw_p6 : lw_okq (⟨"ByteShelf$Memory", "move", "(LByteShelf$Row;I)V"⟩, 5) := ⟨⟨by decide +kernel, by decide +kernel⟩, List.mem_of_getElem? (i := 17) (by decide +kernel), List.mem_of_getElem? (i := 158) (by decide +kernel), List.mem_of_getElem? (i := 159) (by decide +kernel)⟩
theorem lw_p7 : lw_okq (⟨"ByteShelfModel", "many", "()I"⟩, 8) := ⟨⟨by decide +kernel, by decide +kernel⟩, List.mem_of_getElem? (i := 211) (by decide +kernel), List.mem_of_getElem? (i := 248) (by decide +kernel), List.mem_of_getElem? (i := 249) (by decide +kernel)⟩
theorem lw_p8 : lw_okq (⟨"ByteShelfModel", "change", "(II)V"⟩, 8) := ⟨⟨by decide +kernel, by decide +kernel⟩, List.mem_of_getElem? (i := 211) (by decide +kernel), List.mem_of_getElem? (i := 255) (by decide +kernel), List.mem_of_getElem? (i := 256) (by decide +kernel)⟩
theorem lw_p9 : lw_okq (⟨"ByteShelfModel", "shift", "(II)V"⟩, 8) := ⟨⟨by decide +kernel, by decide +kernel⟩, List.mem_of_getElem? (i := 211) (by decide +kernel), List.mem_of_getElem? (i := 259) (by decide +kernel), List.mem_of_getElem? (i := 260) (by decide +kernel)⟩
theorem lw_p10 : lw_okq (⟨"ByteShelfModel", "isRow", "(I)Z"⟩, 8) := ⟨⟨by decide +kernel, by decide +kernel⟩, List.mem_of_getElem? (i := 211) (by decide +kernel), List.mem_of_getElem? (i := 267) (by decide +kernel), List.mem_of_getElem? (i := 268) (by decide +kernel)⟩
theorem lw_p11 : lw_okq (⟨"ByteShelfModel", "hasRoom", "(II)Z"⟩, 8) := ⟨⟨by decide +kernel, by decide +kernel⟩, List.mem_of_getElem? (i := 211) (by decide +kernel), List.mem_of_getElem? (i := 275) (by decide +kernel), List.mem_of_getElem? (i := 276) (by decide +kernel)⟩
def lw_privs_1 : List (MethodName × Nat) := [(⟨"ByteShelf", "nextRow", "()LByteShelf$Row;"⟩, 5), (⟨"ByteShelf$Memory", "cut", "(I)I"⟩, 5), (⟨"ByteShelf$Memory", "pushTogether", "()V"⟩, 5), (⟨"ByteShelf$Memory", "append", "(LByteShelf$Row;)V"⟩, 5), (⟨"ByteShelf", "find", "(I)LByteShelf$Row;"⟩, 5), (⟨"ByteShelf$Memory", "unlink", "(LByteShelf$Row;)V"⟩, 5), (⟨"ByteShelf$Memory", "move", "(LByteShelf$Row;I)V"⟩, 5), (⟨"ByteShelfModel", "many", "()I"⟩, 8), (⟨"ByteShelfModel", "change", "(II)V"⟩, 8), (⟨"ByteShelfModel", "shift", "(II)V"⟩, 8), (⟨"ByteShelfModel", "isRow", "(I)Z"⟩, 8), (⟨"ByteShelfModel", "hasRoom", "(II)Z"⟩, 8)]
theorem lw_r1 : ∀ q ∈ lw_privs_1, lw_okq q := List.forall_mem_cons.mpr ⟨lw_p0, List.forall_mem_cons.mpr ⟨lw_p1, List.forall_mem_cons.mpr ⟨lw_p2, List.forall_mem_cons.mpr ⟨lw_p3, List.forall_mem_cons.mpr ⟨lw_p4, List.forall_mem_cons.mpr ⟨lw_p5, List.forall_mem_cons.mpr ⟨lw_p6, List.forall_mem_cons.mpr ⟨lw_p7, List.forall_mem_cons.mpr ⟨lw_p8, List.forall_mem_cons.mpr ⟨lw_p9, List.forall_mem_cons.mpr ⟨lw_p10, List.forall_mem_cons.mpr ⟨lw_p11, fun _ h => absurd h List.not_mem_nil⟩⟩⟩⟩⟩⟩⟩⟩⟩⟩⟩⟩
def lw_privs : List (MethodName × Nat) := lw_privs_1
def lw_tbl : List Cond := k2_sels lw_privs ++ tables_1
theorem lw_privs_ok : ∀ q ∈ lw_privs, lw_okq q := lw_r1

/-! names: by my program, out of the listing and the tables -/
def RX0 : String := "ByteShelf$Memory"
def TX0 : u_T := fun k => match k with
  | 0 => ("ByteShelf$Memory", "bytes", "[B", true)
  | 1 => ("ByteShelf$Memory", "occupied", "I", false)
  | 2 => ("ByteShelf$Memory", "end", "I", false)
  | 3 => ("ByteShelf$Memory", "first", "LByteShelf$Row;", false)
  | _ => ("ByteShelf$Memory", "last", "LByteShelf$Row;", false)
def tyX0 : Nat → FieldType := fun k => match k with
  | 0 => .array .byte
  | 1 => .int
  | 2 => .int
  | 3 => .object "ByteShelf$Row"
  | _ => .object "ByteShelf$Row"
abbrev wsX00 : List Cond := u_ws RX0 TX0 5
theorem nmX0 : ∀ a, a < 5 → ∀ b, b < 5 → a ≠ b → (TX0 a).2.1 ≠ (TX0 b).2.1 := by decide +kernel
theorem tyX0_ok : ∀ k, k < 5 → parseFieldDescriptor (TX0 k).2.2.1 = some (tyX0 k) := by decide +kernel
abbrev cX0_init : ByteArray := prog_2_method_1_code
def yX0_init : MethodName := ⟨RX0, "<init>", "()V"⟩
abbrev cX0_hasRoomFor : ByteArray := prog_2_method_2_code
def yX0_hasRoomFor : MethodName := ⟨RX0, "hasRoomFor", "(I)Z"⟩
abbrev cX0_lay : ByteArray := prog_2_method_3_code
def yX0_lay : MethodName := ⟨RX0, "lay", "(LByteShelf$Row;I)V"⟩
abbrev cX0_lift : ByteArray := prog_2_method_4_code
def yX0_lift : MethodName := ⟨RX0, "lift", "(LByteShelf$Row;)V"⟩
abbrev cX0_setLength : ByteArray := prog_2_method_5_code
def yX0_setLength : MethodName := ⟨RX0, "setLength", "(LByteShelf$Row;I)Z"⟩
abbrev cX0_move : ByteArray := prog_2_method_6_code
def yX0_move : MethodName := ⟨RX0, "move", "(LByteShelf$Row;I)V"⟩
abbrev cX0_cut : ByteArray := prog_2_method_7_code
def yX0_cut : MethodName := ⟨RX0, "cut", "(I)I"⟩
abbrev cX0_pushTogether : ByteArray := prog_2_method_8_code
def yX0_pushTogether : MethodName := ⟨RX0, "pushTogether", "()V"⟩
abbrev cX0_append : ByteArray := prog_2_method_9_code
def yX0_append : MethodName := ⟨RX0, "append", "(LByteShelf$Row;)V"⟩
abbrev cX0_unlink : ByteArray := prog_2_method_10_code
def yX0_unlink : MethodName := ⟨RX0, "unlink", "(LByteShelf$Row;)V"⟩
def RX1 : String := "ByteShelf$Row"
def TX1 : u_T := fun k => match k with
  | 0 => ("ByteShelf$Row", "number", "I", true)
  | 1 => ("ByteShelf$Row", "isTaken", "Z", false)
  | 2 => ("ByteShelf$Row", "start", "I", false)
  | 3 => ("ByteShelf$Row", "length", "I", false)
  | 4 => ("ByteShelf$Row", "before", "LByteShelf$Row;", false)
  | _ => ("ByteShelf$Row", "after", "LByteShelf$Row;", false)
def tyX1 : Nat → FieldType := fun k => match k with
  | 0 => .int
  | 1 => .boolean
  | 2 => .int
  | 3 => .int
  | 4 => .object "ByteShelf$Row"
  | _ => .object "ByteShelf$Row"
abbrev wsX10 : List Cond := u_ws RX1 TX1 6
theorem nmX1 : ∀ a, a < 6 → ∀ b, b < 6 → a ≠ b → (TX1 a).2.1 ≠ (TX1 b).2.1 := by decide +kernel
theorem tyX1_ok : ∀ k, k < 6 → parseFieldDescriptor (TX1 k).2.2.1 = some (tyX1 k) := by decide +kernel
abbrev cX1_init : ByteArray := prog_3_method_1_code
def yX1_init : MethodName := ⟨RX1, "<init>", "(I)V"⟩
def RX2 : String := "ByteShelf"
def TX2 : u_T := fun k => match k with
  | 0 => ("ByteShelf", "memory", "LByteShelf$Memory;", true)
  | 1 => ("ByteShelf", "table", "[LByteShelf$Row;", true)
  | 2 => ("ByteShelf", "givenBack", "LByteShelf$Row;", false)
  | 3 => ("ByteShelf", "made", "I", false)
  | _ => ("ByteShelf", "count", "I", false)
def tyX2 : Nat → FieldType := fun k => match k with
  | 0 => .object "ByteShelf$Memory"
  | 1 => .array (.object "ByteShelf$Row")
  | 2 => .object "ByteShelf$Row"
  | 3 => .int
  | _ => .int
abbrev wsX20 : List Cond := u_ws RX2 TX2 5
theorem nmX2 : ∀ a, a < 5 → ∀ b, b < 5 → a ≠ b → (TX2 a).2.1 ≠ (TX2 b).2.1 := by decide +kernel
theorem tyX2_ok : ∀ k, k < 5 → parseFieldDescriptor (TX2 k).2.2.1 = some (tyX2 k) := by decide +kernel
abbrev cX2_init : ByteArray := prog_1_method_1_code
def yX2_init : MethodName := ⟨RX2, "<init>", "()V"⟩
abbrev cX2_take : ByteArray := prog_1_method_2_code
def yX2_take : MethodName := ⟨RX2, "take", "(I)I"⟩
abbrev cX2_give : ByteArray := prog_1_method_3_code
def yX2_give : MethodName := ⟨RX2, "give", "(I)Z"⟩
abbrev cX2_resize : ByteArray := prog_1_method_4_code
def yX2_resize : MethodName := ⟨RX2, "resize", "(II)I"⟩
abbrev cX2_put : ByteArray := prog_1_method_5_code
def yX2_put : MethodName := ⟨RX2, "put", "(III)Z"⟩
abbrev cX2_fill : ByteArray := prog_1_method_6_code
def yX2_fill : MethodName := ⟨RX2, "fill", "(IIII)Z"⟩
abbrev cX2_copy : ByteArray := prog_1_method_7_code
def yX2_copy : MethodName := ⟨RX2, "copy", "(II)I"⟩
abbrev cX2_get : ByteArray := prog_1_method_8_code
def yX2_get : MethodName := ⟨RX2, "get", "(II)I"⟩
abbrev cX2_size : ByteArray := prog_1_method_9_code
def yX2_size : MethodName := ⟨RX2, "size", "(I)I"⟩
abbrev cX2_compare : ByteArray := prog_1_method_10_code
def yX2_compare : MethodName := ⟨RX2, "compare", "(II)I"⟩
abbrev cX2_sum : ByteArray := prog_1_method_11_code
def yX2_sum : MethodName := ⟨RX2, "sum", "(I)I"⟩
abbrev cX2_rows : ByteArray := prog_1_method_12_code
def yX2_rows : MethodName := ⟨RX2, "rows", "()I"⟩
abbrev cX2_places : ByteArray := prog_1_method_13_code
def yX2_places : MethodName := ⟨RX2, "places", "()I"⟩
abbrev cX2_find : ByteArray := prog_1_method_14_code
def yX2_find : MethodName := ⟨RX2, "find", "(I)LByteShelf$Row;"⟩
abbrev cX2_nextRow : ByteArray := prog_1_method_15_code
def yX2_nextRow : MethodName := ⟨RX2, "nextRow", "()LByteShelf$Row;"⟩
abbrev cX2_isLength : ByteArray := prog_1_method_16_code
def yX2_isLength : MethodName := ⟨RX2, "isLength", "(I)Z"⟩
abbrev cX2_hasByte : ByteArray := prog_1_method_17_code
def yX2_hasByte : MethodName := ⟨RX2, "hasByte", "(LByteShelf$Row;I)Z"⟩
abbrev cX2_hasBytes : ByteArray := prog_1_method_18_code
def yX2_hasBytes : MethodName := ⟨RX2, "hasBytes", "(LByteShelf$Row;II)Z"⟩
abbrev cX2_order : ByteArray := prog_1_method_19_code
def yX2_order : MethodName := ⟨RX2, "order", "(II)I"⟩
abbrev cX2_placesFor : ByteArray := prog_1_method_20_code
def yX2_placesFor : MethodName := ⟨RX2, "placesFor", "(I)I"⟩
def RX3 : String := "ByteShelfModel"
def TX3 : u_T := fun k => match k with
  | 0 => ("ByteShelfModel", "bytes", "[B", true)
  | 1 => ("ByteShelfModel", "used", "I", false)
  | 2 => ("ByteShelfModel", "starts", "[I", true)
  | 3 => ("ByteShelfModel", "sizes", "[I", true)
  | 4 => ("ByteShelfModel", "numbers", "I", false)
  | 5 => ("ByteShelfModel", "backs", "[I", true)
  | 6 => ("ByteShelfModel", "backMany", "I", false)
  | _ => ("ByteShelfModel", "taken", "I", false)
def tyX3 : Nat → FieldType := fun k => match k with
  | 0 => .array .byte
  | 1 => .int
  | 2 => .array .int
  | 3 => .array .int
  | 4 => .int
  | 5 => .array .int
  | 6 => .int
  | _ => .int
abbrev wsX30 : List Cond := u_ws RX3 TX3 8
theorem nmX3 : ∀ a, a < 8 → ∀ b, b < 8 → a ≠ b → (TX3 a).2.1 ≠ (TX3 b).2.1 := by decide +kernel
theorem tyX3_ok : ∀ k, k < 8 → parseFieldDescriptor (TX3 k).2.2.1 = some (tyX3 k) := by decide +kernel
abbrev cX3_init : ByteArray := prog_5_method_1_code
def yX3_init : MethodName := ⟨RX3, "<init>", "()V"⟩
def RJ9 : String := "java/lang/Math"
abbrev cJ9_min_7cf53 : ByteArray := prog_6_method_69_code
def yJ9_min_7cf53 : MethodName := ⟨RJ9, "min", "(II)I"⟩
def RJ10 : String := "java/lang/System"
def RJ7 : String := "java/util/Arrays"
abbrev cJ7_rangeCheck_23922 : ByteArray := prog_8_method_30_code
def yJ7_rangeCheck_23922 : MethodName := ⟨RJ7, "rangeCheck", "(III)V"⟩
abbrev cJ7_fill_eb02e : ByteArray := prog_8_method_110_code
def yJ7_fill_eb02e : MethodName := ⟨RJ7, "fill", "([BIIB)V"⟩
def RL : String := "ByteShelfLaw"
abbrev cL_law : ByteArray := code
def yL_law : MethodName := ⟨RL, "law", "([I)Z"⟩
abbrev cX3_take : ByteArray := prog_5_method_6_code
def yX3_take : MethodName := ⟨RX3, "take", "(I)I"⟩
abbrev cX3_many : ByteArray := prog_5_method_5_code
def yX3_many : MethodName := ⟨RX3, "many", "()I"⟩
abbrev cX3_placesOf : ByteArray := prog_5_method_4_code
def yX3_placesOf : MethodName := ⟨RX3, "placesOf", "(I)I"⟩
abbrev cX3_change : ByteArray := prog_5_method_8_code
def yX3_change : MethodName := ⟨RX3, "change", "(II)V"⟩
abbrev cX3_shift : ByteArray := prog_5_method_7_code
def yX3_shift : MethodName := ⟨RX3, "shift", "(II)V"⟩
abbrev cX3_give : ByteArray := prog_5_method_9_code
def yX3_give : MethodName := ⟨RX3, "give", "(I)Z"⟩
abbrev cX3_isRow : ByteArray := prog_5_method_3_code
def yX3_isRow : MethodName := ⟨RX3, "isRow", "(I)Z"⟩
abbrev cX3_resize : ByteArray := prog_5_method_11_code
def yX3_resize : MethodName := ⟨RX3, "resize", "(II)I"⟩
abbrev cX3_hasRoom : ByteArray := prog_5_method_10_code
def yX3_hasRoom : MethodName := ⟨RX3, "hasRoom", "(II)Z"⟩
abbrev cX3_put : ByteArray := prog_5_method_12_code
def yX3_put : MethodName := ⟨RX3, "put", "(III)Z"⟩
abbrev cX3_fill : ByteArray := prog_5_method_13_code
def yX3_fill : MethodName := ⟨RX3, "fill", "(IIII)Z"⟩
abbrev cX3_copy : ByteArray := prog_5_method_14_code
def yX3_copy : MethodName := ⟨RX3, "copy", "(II)I"⟩
abbrev cX3_get : ByteArray := prog_5_method_15_code
def yX3_get : MethodName := ⟨RX3, "get", "(II)I"⟩
abbrev cX3_size : ByteArray := prog_5_method_16_code
def yX3_size : MethodName := ⟨RX3, "size", "(I)I"⟩
abbrev cX3_compare : ByteArray := prog_5_method_17_code
def yX3_compare : MethodName := ⟨RX3, "compare", "(II)I"⟩
abbrev cX3_sum : ByteArray := prog_5_method_18_code
def yX3_sum : MethodName := ⟨RX3, "sum", "(I)I"⟩
abbrev cX3_rows : ByteArray := prog_5_method_19_code
def yX3_rows : MethodName := ⟨RX3, "rows", "()I"⟩
abbrev cX3_places : ByteArray := prog_5_method_20_code
def yX3_places : MethodName := ⟨RX3, "places", "()I"⟩
abbrev vwCl : List vw_C := [(RX0, TX0, 5), (RX1, TX1, 6), (RX2, TX2, 5), (RX3, TX3, 8)]
/-- the words that every contract of mine carries: those of the tables that go along with a call -/
def sf_T : List Cond := lw_tbl.filter goodWord
theorem sf_mem {w0 w : Cond} (h : w ∈ lw_tbl) (hg : goodWord w = true) : w ∈ w0 :: sf_T := List.mem_cons_of_mem _ (List.mem_filter.mpr ⟨h, hg⟩)
theorem sf_good {w0 w : Cond} (h : w ∈ lw_tbl) (hg : goodWord w = true) : GoodIn (w0 :: sf_T) (w :: sf_T) := by
  intro v hv
  rcases List.mem_cons.mp hv with e | hv
  · subst e
    exact ⟨sf_mem h hg, good_of_word hg⟩
  · exact ⟨List.mem_cons_of_mem _ hv, good_of_word (List.mem_filter.mp hv).2⟩
theorem sf_goodL {w : Cond} (h : w ∈ lw_tbl) (hg : goodWord w = true) : GoodIn lw_tbl (w :: sf_T) := by
  intro v hv
  rcases List.mem_cons.mp hv with e | hv
  · subst e
    exact ⟨h, good_of_word hg⟩
  · exact ⟨(List.mem_filter.mp hv).1, good_of_word (List.mem_filter.mp hv).2⟩
theorem sf_tb {w : Cond} (i : Nat) (h : tables_1[i]? = some w) : w ∈ lw_tbl := List.mem_append_right _ (List.mem_of_getElem? h)
theorem sf_sl {w : Cond} (i : Nat) (h : (k2_sels lw_privs)[i]? = some w) : w ∈ lw_tbl := List.mem_append_left _ (List.mem_of_getElem? h)
theorem se_X2_nextRow : Cond.selects RX2 yX2_nextRow yX2_nextRow ∈ lw_tbl := sf_sl 0 (by decide +kernel)
theorem se_X0_cut : Cond.selects RX0 yX0_cut yX0_cut ∈ lw_tbl := sf_sl 1 (by decide +kernel)
theorem se_X0_pushTogether : Cond.selects RX0 yX0_pushTogether yX0_pushTogether ∈ lw_tbl := sf_sl 2 (by decide +kernel)
theorem se_X0_append : Cond.selects RX0 yX0_append yX0_append ∈ lw_tbl := sf_sl 3 (by decide +kernel)
theorem se_X2_find : Cond.selects RX2 yX2_find yX2_find ∈ lw_tbl := sf_sl 4 (by decide +kernel)
theorem se_X0_unlink : Cond.selects RX0 yX0_unlink yX0_unlink ∈ lw_tbl := sf_sl 5 (by decide +kernel)
theorem se_X0_move : Cond.selects RX0 yX0_move yX0_move ∈ lw_tbl := sf_sl 6 (by decide +kernel)
theorem se_X3_many : Cond.selects RX3 yX3_many yX3_many ∈ lw_tbl := sf_sl 7 (by decide +kernel)
theorem se_X3_change : Cond.selects RX3 yX3_change yX3_change ∈ lw_tbl := sf_sl 8 (by decide +kernel)
theorem se_X3_shift : Cond.selects RX3 yX3_shift yX3_shift ∈ lw_tbl := sf_sl 9 (by decide +kernel)
theorem se_X3_isRow : Cond.selects RX3 yX3_isRow yX3_isRow ∈ lw_tbl := sf_sl 10 (by decide +kernel)
theorem se_X3_hasRoom : Cond.selects RX3 yX3_hasRoom yX3_hasRoom ∈ lw_tbl := sf_sl 11 (by decide +kernel)
theorem in_L : Cond.initialized RL ∈ lw_tbl := sf_tb 0 (by decide +kernel)
theorem in_X2 : Cond.initialized RX2 ∈ lw_tbl := sf_tb 1 (by decide +kernel)
theorem in_X0 : Cond.initialized RX0 ∈ lw_tbl := sf_tb 2 (by decide +kernel)
theorem in_X3 : Cond.initialized RX3 ∈ lw_tbl := sf_tb 3 (by decide +kernel)
theorem in_X1 : Cond.initialized RX1 ∈ lw_tbl := sf_tb 4 (by decide +kernel)
theorem in_J10 : Cond.initialized RJ10 ∈ lw_tbl := sf_tb 5 (by decide +kernel)
theorem in_J7 : Cond.initialized RJ7 ∈ lw_tbl := sf_tb 6 (by decide +kernel)
theorem in_J9 : Cond.initialized RJ9 ∈ lw_tbl := sf_tb 7 (by decide +kernel)
theorem cl_L_7 : Cond.classLink RL 7 RX2 ∈ lw_tbl := sf_tb 8 (by decide +kernel)
theorem it_X2 : Cond.instantiable RX2 5 ∈ lw_tbl := sf_tb 9 (by decide +kernel)
theorem ml_L_9 : Cond.methodLink RL 9 yX2_init ∈ lw_tbl := sf_tb 10 (by decide +kernel)
theorem im_X2_init : Cond.instanceMethod yX2_init ∈ lw_tbl := sf_tb 11 (by decide +kernel)
def wsX2_init : List Cond := .code yX2_init cX2_init 1 (none) :: sf_T
theorem co_X2_init : Cond.code yX2_init cX2_init 1 (none) ∈ lw_tbl := sf_tb 12 rfl
theorem ml_X2_1 : Cond.methodLink RX2 1 objectInit ∈ lw_tbl := sf_tb 13 (by decide +kernel)
theorem im_O_init : Cond.instanceMethod objectInit ∈ lw_tbl := sf_tb 14 (by decide +kernel)
theorem cl_X2_7 : Cond.classLink RX2 7 RX0 ∈ lw_tbl := sf_tb 16 (by decide +kernel)
theorem it_X0 : Cond.instantiable RX0 5 ∈ lw_tbl := sf_tb 17 (by decide +kernel)
theorem ml_X2_9 : Cond.methodLink RX2 9 yX0_init ∈ lw_tbl := sf_tb 18 (by decide +kernel)
theorem im_X0_init : Cond.instanceMethod yX0_init ∈ lw_tbl := sf_tb 19 (by decide +kernel)
def wsX0_init : List Cond := .code yX0_init cX0_init 1 (none) :: sf_T
theorem co_X0_init : Cond.code yX0_init cX0_init 1 (none) ∈ lw_tbl := sf_tb 20 rfl
theorem ml_X0_3 : Cond.methodLink RX0 3 objectInit ∈ lw_tbl := sf_tb 21 (by decide +kernel)
theorem cn_X0_9 : Cond.constant RX0 9 (nI 400000) ∈ lw_tbl := sf_tb 22 (by decide +kernel)
theorem fl_X0_10 : Cond.fieldLink RX0 10 "ByteShelf$Memory" "bytes" "[B" ∈ lw_tbl := sf_tb 23 (by decide +kernel)
theorem fl_X2_77 : Cond.fieldLink RX2 77 "ByteShelf$Memory" "bytes" "[B" ∈ lw_tbl := sf_tb 24 (by decide +kernel)
theorem fl_X0_16 : Cond.fieldLink RX0 16 "ByteShelf$Memory" "occupied" "I" ∈ lw_tbl := sf_tb 25 (by decide +kernel)
theorem fl_X2_106 : Cond.fieldLink RX2 106 "ByteShelf$Memory" "occupied" "I" ∈ lw_tbl := sf_tb 26 (by decide +kernel)
theorem fl_X0_20 : Cond.fieldLink RX0 20 "ByteShelf$Memory" "end" "I" ∈ lw_tbl := sf_tb 27 (by decide +kernel)
theorem fl_X0_23 : Cond.fieldLink RX0 23 "ByteShelf$Memory" "first" "LByteShelf$Row;" ∈ lw_tbl := sf_tb 28 (by decide +kernel)
theorem fl_X0_27 : Cond.fieldLink RX0 27 "ByteShelf$Memory" "last" "LByteShelf$Row;" ∈ lw_tbl := sf_tb 29 (by decide +kernel)
theorem ac_byte : Cond.arrayClass .byte ∈ lw_tbl := sf_tb 41 (by decide +kernel)
theorem cl_X2_16 : Cond.classLink RX2 16 RX1 ∈ lw_tbl := sf_tb 42 (by decide +kernel)
theorem ao_Row : Cond.arrayOver (.object "ByteShelf$Row") ∈ lw_tbl := sf_tb 43 (by decide +kernel)
theorem fl_X2_10 : Cond.fieldLink RX2 10 "ByteShelf" "memory" "LByteShelf$Memory;" ∈ lw_tbl := sf_tb 44 (by decide +kernel)
theorem fl_X2_18 : Cond.fieldLink RX2 18 "ByteShelf" "table" "[LByteShelf$Row;" ∈ lw_tbl := sf_tb 45 (by decide +kernel)
theorem fl_X2_22 : Cond.fieldLink RX2 22 "ByteShelf" "givenBack" "LByteShelf$Row;" ∈ lw_tbl := sf_tb 46 (by decide +kernel)
theorem fl_X2_26 : Cond.fieldLink RX2 26 "ByteShelf" "made" "I" ∈ lw_tbl := sf_tb 47 (by decide +kernel)
theorem fl_X2_30 : Cond.fieldLink RX2 30 "ByteShelf" "count" "I" ∈ lw_tbl := sf_tb 48 (by decide +kernel)
theorem ml_L_13 : Cond.methodLink RL 13 yX2_take ∈ lw_tbl := sf_tb 60 (by decide +kernel)
theorem im_X2_take : Cond.instanceMethod yX2_take ∈ lw_tbl := sf_tb 61 (by decide +kernel)
theorem se_X2_take : Cond.selects RX2 yX2_take yX2_take ∈ lw_tbl := sf_tb 62 (by decide +kernel)
def wsX2_take : List Cond := .code yX2_take cX2_take 3 (some .int) :: sf_T
theorem co_X2_take : Cond.code yX2_take cX2_take 3 (some .int) ∈ lw_tbl := sf_tb 63 rfl
theorem ml_X2_33 : Cond.methodLink RX2 33 yX2_isLength ∈ lw_tbl := sf_tb 64 (by decide +kernel)
theorem sm_X2_isLength : Cond.static yX2_isLength ∈ lw_tbl := sf_tb 65 (by decide +kernel)
def wsX2_isLength : List Cond := .code yX2_isLength cX2_isLength 1 (some .boolean) :: sf_T
theorem co_X2_isLength : Cond.code yX2_isLength cX2_isLength 1 (some .boolean) ∈ lw_tbl := sf_tb 66 rfl
theorem ml_X2_37 : Cond.methodLink RX2 37 yX2_placesFor ∈ lw_tbl := sf_tb 67 (by decide +kernel)
theorem sm_X2_placesFor : Cond.static yX2_placesFor ∈ lw_tbl := sf_tb 68 (by decide +kernel)
def wsX2_placesFor : List Cond := .code yX2_placesFor cX2_placesFor 1 (some .int) :: sf_T
theorem co_X2_placesFor : Cond.code yX2_placesFor cX2_placesFor 1 (some .int) ∈ lw_tbl := sf_tb 69 rfl
theorem ml_X2_41 : Cond.methodLink RX2 41 yX0_hasRoomFor ∈ lw_tbl := sf_tb 70 (by decide +kernel)
theorem im_X0_hasRoomFor : Cond.instanceMethod yX0_hasRoomFor ∈ lw_tbl := sf_tb 71 (by decide +kernel)
theorem se_X0_hasRoomFor : Cond.selects RX0 yX0_hasRoomFor yX0_hasRoomFor ∈ lw_tbl := sf_tb 72 (by decide +kernel)
def wsX0_hasRoomFor : List Cond := .code yX0_hasRoomFor cX0_hasRoomFor 2 (some .boolean) :: sf_T
theorem co_X0_hasRoomFor : Cond.code yX0_hasRoomFor cX0_hasRoomFor 2 (some .boolean) ∈ lw_tbl := sf_tb 73 rfl
theorem ml_X2_44 : Cond.methodLink RX2 44 yX2_nextRow ∈ lw_tbl := sf_tb 74 (by decide +kernel)
theorem im_X2_nextRow : Cond.instanceMethod yX2_nextRow ∈ lw_tbl := sf_tb 76 (by decide +kernel)
def wsX2_nextRow : List Cond := .code yX2_nextRow cX2_nextRow 2 (some (.object "ByteShelf$Row")) :: sf_T
theorem co_X2_nextRow : Cond.code yX2_nextRow cX2_nextRow 2 (some (.object "ByteShelf$Row")) ∈ lw_tbl := sf_tb 77 rfl
theorem it_X1 : Cond.instantiable RX1 6 ∈ lw_tbl := sf_tb 78 (by decide +kernel)
theorem ml_X2_109 : Cond.methodLink RX2 109 yX1_init ∈ lw_tbl := sf_tb 79 (by decide +kernel)
theorem im_X1_init : Cond.instanceMethod yX1_init ∈ lw_tbl := sf_tb 80 (by decide +kernel)
def wsX1_init : List Cond := .code yX1_init cX1_init 2 (none) :: sf_T
theorem co_X1_init : Cond.code yX1_init cX1_init 2 (none) ∈ lw_tbl := sf_tb 81 rfl
theorem ml_X1_1 : Cond.methodLink RX1 1 objectInit ∈ lw_tbl := sf_tb 82 (by decide +kernel)
theorem fl_X1_7 : Cond.fieldLink RX1 7 "ByteShelf$Row" "number" "I" ∈ lw_tbl := sf_tb 83 (by decide +kernel)
theorem fl_X2_56 : Cond.fieldLink RX2 56 "ByteShelf$Row" "number" "I" ∈ lw_tbl := sf_tb 84 (by decide +kernel)
theorem fl_X2_52 : Cond.fieldLink RX2 52 "ByteShelf$Row" "isTaken" "Z" ∈ lw_tbl := sf_tb 85 (by decide +kernel)
theorem fl_X0_37 : Cond.fieldLink RX0 37 "ByteShelf$Row" "start" "I" ∈ lw_tbl := sf_tb 86 (by decide +kernel)
theorem fl_X2_81 : Cond.fieldLink RX2 81 "ByteShelf$Row" "start" "I" ∈ lw_tbl := sf_tb 87 (by decide +kernel)
theorem fl_X0_42 : Cond.fieldLink RX0 42 "ByteShelf$Row" "length" "I" ∈ lw_tbl := sf_tb 88 (by decide +kernel)
theorem fl_X2_88 : Cond.fieldLink RX2 88 "ByteShelf$Row" "length" "I" ∈ lw_tbl := sf_tb 89 (by decide +kernel)
theorem fl_X0_78 : Cond.fieldLink RX0 78 "ByteShelf$Row" "before" "LByteShelf$Row;" ∈ lw_tbl := sf_tb 90 (by decide +kernel)
theorem fl_X2_67 : Cond.fieldLink RX2 67 "ByteShelf$Row" "after" "LByteShelf$Row;" ∈ lw_tbl := sf_tb 91 (by decide +kernel)
theorem fl_X0_75 : Cond.fieldLink RX0 75 "ByteShelf$Row" "after" "LByteShelf$Row;" ∈ lw_tbl := sf_tb 92 (by decide +kernel)
theorem ml_X2_48 : Cond.methodLink RX2 48 yX0_lay ∈ lw_tbl := sf_tb 106 (by decide +kernel)
theorem im_X0_lay : Cond.instanceMethod yX0_lay ∈ lw_tbl := sf_tb 107 (by decide +kernel)
theorem se_X0_lay : Cond.selects RX0 yX0_lay yX0_lay ∈ lw_tbl := sf_tb 108 (by decide +kernel)
def wsX0_lay : List Cond := .code yX0_lay cX0_lay 4 (none) :: sf_T
theorem co_X0_lay : Cond.code yX0_lay cX0_lay 4 (none) ∈ lw_tbl := sf_tb 109 rfl
theorem mn_X0_30 : Cond.methodLinkNest RX0 30 yX2_placesFor RX2 ∈ lw_tbl := sf_tb 110 (by decide +kernel)
theorem ml_X0_34 : Cond.methodLink RX0 34 yX0_cut ∈ lw_tbl := sf_tb 111 (by decide +kernel)
theorem im_X0_cut : Cond.instanceMethod yX0_cut ∈ lw_tbl := sf_tb 113 (by decide +kernel)
def wsX0_cut : List Cond := .code yX0_cut cX0_cut 3 (some .int) :: sf_T
theorem co_X0_cut : Cond.code yX0_cut cX0_cut 3 (some .int) ∈ lw_tbl := sf_tb 114 rfl
theorem ml_X0_72 : Cond.methodLink RX0 72 yX0_pushTogether ∈ lw_tbl := sf_tb 115 (by decide +kernel)
theorem im_X0_pushTogether : Cond.instanceMethod yX0_pushTogether ∈ lw_tbl := sf_tb 117 (by decide +kernel)
def wsX0_pushTogether : List Cond := .code yX0_pushTogether cX0_pushTogether 3 (none) :: sf_T
theorem co_X0_pushTogether : Cond.code yX0_pushTogether cX0_pushTogether 3 (none) ∈ lw_tbl := sf_tb 118 rfl
theorem ml_X0_66 : Cond.methodLink RX0 66 arraycopyName ∈ lw_tbl := sf_tb 119 (by decide +kernel)
theorem sm_arraycopy : Cond.static arraycopyName ∈ lw_tbl := sf_tb 120 (by decide +kernel)
theorem nm_arraycopy : Cond.native arraycopyName ∈ lw_tbl := sf_tb 121 (by decide +kernel)
theorem ml_X0_45 : Cond.methodLink RX0 45 yJ7_fill_eb02e ∈ lw_tbl := sf_tb 122 (by decide +kernel)
theorem sm_J7_fill_eb02e : Cond.static yJ7_fill_eb02e ∈ lw_tbl := sf_tb 123 (by decide +kernel)
def wsJ7_fill_eb02e : List Cond := .code yJ7_fill_eb02e cJ7_fill_eb02e 5 (none) :: sf_T
theorem co_J7_fill_eb02e : Cond.code yJ7_fill_eb02e cJ7_fill_eb02e 5 (none) ∈ lw_tbl := sf_tb 124 rfl
theorem ml_J7_13 : Cond.methodLink RJ7 13 yJ7_rangeCheck_23922 ∈ lw_tbl := sf_tb 125 (by decide +kernel)
theorem sm_J7_rangeCheck_23922 : Cond.static yJ7_rangeCheck_23922 ∈ lw_tbl := sf_tb 126 (by decide +kernel)
def wsJ7_rangeCheck_23922 : List Cond := .code yJ7_rangeCheck_23922 cJ7_rangeCheck_23922 3 (none) :: sf_T
theorem co_J7_rangeCheck_23922 : Cond.code yJ7_rangeCheck_23922 cJ7_rangeCheck_23922 3 (none) ∈ lw_tbl := sf_tb 127 rfl
theorem ml_X0_51 : Cond.methodLink RX0 51 yX0_append ∈ lw_tbl := sf_tb 128 (by decide +kernel)
theorem im_X0_append : Cond.instanceMethod yX0_append ∈ lw_tbl := sf_tb 130 (by decide +kernel)
def wsX0_append : List Cond := .code yX0_append cX0_append 2 (none) :: sf_T
theorem co_X0_append : Cond.code yX0_append cX0_append 2 (none) ∈ lw_tbl := sf_tb 131 rfl
theorem ml_L_18 : Cond.methodLink RL 18 yX2_give ∈ lw_tbl := sf_tb 132 (by decide +kernel)
theorem im_X2_give : Cond.instanceMethod yX2_give ∈ lw_tbl := sf_tb 133 (by decide +kernel)
theorem se_X2_give : Cond.selects RX2 yX2_give yX2_give ∈ lw_tbl := sf_tb 134 (by decide +kernel)
def wsX2_give : List Cond := .code yX2_give cX2_give 3 (some .boolean) :: sf_T
theorem co_X2_give : Cond.code yX2_give cX2_give 3 (some .boolean) ∈ lw_tbl := sf_tb 135 rfl
theorem ml_X2_59 : Cond.methodLink RX2 59 yX2_find ∈ lw_tbl := sf_tb 136 (by decide +kernel)
theorem im_X2_find : Cond.instanceMethod yX2_find ∈ lw_tbl := sf_tb 138 (by decide +kernel)
def wsX2_find : List Cond := .code yX2_find cX2_find 3 (some (.object "ByteShelf$Row")) :: sf_T
theorem co_X2_find : Cond.code yX2_find cX2_find 3 (some (.object "ByteShelf$Row")) ∈ lw_tbl := sf_tb 139 rfl
theorem ml_X2_63 : Cond.methodLink RX2 63 yX0_lift ∈ lw_tbl := sf_tb 140 (by decide +kernel)
theorem im_X0_lift : Cond.instanceMethod yX0_lift ∈ lw_tbl := sf_tb 141 (by decide +kernel)
theorem se_X0_lift : Cond.selects RX0 yX0_lift yX0_lift ∈ lw_tbl := sf_tb 142 (by decide +kernel)
def wsX0_lift : List Cond := .code yX0_lift cX0_lift 2 (none) :: sf_T
theorem co_X0_lift : Cond.code yX0_lift cX0_lift 2 (none) ∈ lw_tbl := sf_tb 143 rfl
theorem ml_X0_55 : Cond.methodLink RX0 55 yX0_unlink ∈ lw_tbl := sf_tb 144 (by decide +kernel)
theorem im_X0_unlink : Cond.instanceMethod yX0_unlink ∈ lw_tbl := sf_tb 146 (by decide +kernel)
def wsX0_unlink : List Cond := .code yX0_unlink cX0_unlink 4 (none) :: sf_T
theorem co_X0_unlink : Cond.code yX0_unlink cX0_unlink 4 (none) ∈ lw_tbl := sf_tb 147 rfl
theorem ml_L_23 : Cond.methodLink RL 23 yX2_resize ∈ lw_tbl := sf_tb 148 (by decide +kernel)
theorem im_X2_resize : Cond.instanceMethod yX2_resize ∈ lw_tbl := sf_tb 149 (by decide +kernel)
theorem se_X2_resize : Cond.selects RX2 yX2_resize yX2_resize ∈ lw_tbl := sf_tb 150 (by decide +kernel)
def wsX2_resize : List Cond := .code yX2_resize cX2_resize 4 (some .int) :: sf_T
theorem co_X2_resize : Cond.code yX2_resize cX2_resize 4 (some .int) ∈ lw_tbl := sf_tb 151 rfl
theorem ml_X2_70 : Cond.methodLink RX2 70 yX0_setLength ∈ lw_tbl := sf_tb 152 (by decide +kernel)
theorem im_X0_setLength : Cond.instanceMethod yX0_setLength ∈ lw_tbl := sf_tb 153 (by decide +kernel)
theorem se_X0_setLength : Cond.selects RX0 yX0_setLength yX0_setLength ∈ lw_tbl := sf_tb 154 (by decide +kernel)
def wsX0_setLength : List Cond := .code yX0_setLength cX0_setLength 5 (some .boolean) :: sf_T
theorem co_X0_setLength : Cond.code yX0_setLength cX0_setLength 5 (some .boolean) ∈ lw_tbl := sf_tb 155 rfl
theorem ml_X0_58 : Cond.methodLink RX0 58 yX0_hasRoomFor ∈ lw_tbl := sf_tb 156 (by decide +kernel)
theorem ml_X0_62 : Cond.methodLink RX0 62 yX0_move ∈ lw_tbl := sf_tb 157 (by decide +kernel)
theorem im_X0_move : Cond.instanceMethod yX0_move ∈ lw_tbl := sf_tb 159 (by decide +kernel)
def wsX0_move : List Cond := .code yX0_move cX0_move 4 (none) :: sf_T
theorem co_X0_move : Cond.code yX0_move cX0_move 4 (none) ∈ lw_tbl := sf_tb 160 rfl
theorem ml_L_28 : Cond.methodLink RL 28 yX2_put ∈ lw_tbl := sf_tb 161 (by decide +kernel)
theorem im_X2_put : Cond.instanceMethod yX2_put ∈ lw_tbl := sf_tb 162 (by decide +kernel)
theorem se_X2_put : Cond.selects RX2 yX2_put yX2_put ∈ lw_tbl := sf_tb 163 (by decide +kernel)
def wsX2_put : List Cond := .code yX2_put cX2_put 5 (some .boolean) :: sf_T
theorem co_X2_put : Cond.code yX2_put cX2_put 5 (some .boolean) ∈ lw_tbl := sf_tb 164 rfl
theorem ml_X2_74 : Cond.methodLink RX2 74 yX2_hasByte ∈ lw_tbl := sf_tb 165 (by decide +kernel)
theorem sm_X2_hasByte : Cond.static yX2_hasByte ∈ lw_tbl := sf_tb 166 (by decide +kernel)
def wsX2_hasByte : List Cond := .code yX2_hasByte cX2_hasByte 2 (some .boolean) :: sf_T
theorem co_X2_hasByte : Cond.code yX2_hasByte cX2_hasByte 2 (some .boolean) ∈ lw_tbl := sf_tb 167 rfl
theorem ml_L_33 : Cond.methodLink RL 33 yX2_fill ∈ lw_tbl := sf_tb 168 (by decide +kernel)
theorem im_X2_fill : Cond.instanceMethod yX2_fill ∈ lw_tbl := sf_tb 169 (by decide +kernel)
theorem se_X2_fill : Cond.selects RX2 yX2_fill yX2_fill ∈ lw_tbl := sf_tb 170 (by decide +kernel)
def wsX2_fill : List Cond := .code yX2_fill cX2_fill 9 (some .boolean) :: sf_T
theorem co_X2_fill : Cond.code yX2_fill cX2_fill 9 (some .boolean) ∈ lw_tbl := sf_tb 171 rfl
theorem ml_X2_84 : Cond.methodLink RX2 84 yX2_hasBytes ∈ lw_tbl := sf_tb 172 (by decide +kernel)
theorem sm_X2_hasBytes : Cond.static yX2_hasBytes ∈ lw_tbl := sf_tb 173 (by decide +kernel)
def wsX2_hasBytes : List Cond := .code yX2_hasBytes cX2_hasBytes 3 (some .boolean) :: sf_T
theorem co_X2_hasBytes : Cond.code yX2_hasBytes cX2_hasBytes 3 (some .boolean) ∈ lw_tbl := sf_tb 174 rfl
theorem ml_L_38 : Cond.methodLink RL 38 yX2_copy ∈ lw_tbl := sf_tb 175 (by decide +kernel)
theorem im_X2_copy : Cond.instanceMethod yX2_copy ∈ lw_tbl := sf_tb 176 (by decide +kernel)
theorem se_X2_copy : Cond.selects RX2 yX2_copy yX2_copy ∈ lw_tbl := sf_tb 177 (by decide +kernel)
def wsX2_copy : List Cond := .code yX2_copy cX2_copy 5 (some .int) :: sf_T
theorem co_X2_copy : Cond.code yX2_copy cX2_copy 5 (some .int) ∈ lw_tbl := sf_tb 178 rfl
theorem ml_X2_91 : Cond.methodLink RX2 91 arraycopyName ∈ lw_tbl := sf_tb 179 (by decide +kernel)
theorem ml_L_42 : Cond.methodLink RL 42 yX2_get ∈ lw_tbl := sf_tb 180 (by decide +kernel)
theorem im_X2_get : Cond.instanceMethod yX2_get ∈ lw_tbl := sf_tb 181 (by decide +kernel)
theorem se_X2_get : Cond.selects RX2 yX2_get yX2_get ∈ lw_tbl := sf_tb 182 (by decide +kernel)
def wsX2_get : List Cond := .code yX2_get cX2_get 4 (some .int) :: sf_T
theorem co_X2_get : Cond.code yX2_get cX2_get 4 (some .int) ∈ lw_tbl := sf_tb 183 rfl
theorem ml_L_46 : Cond.methodLink RL 46 yX2_size ∈ lw_tbl := sf_tb 184 (by decide +kernel)
theorem im_X2_size : Cond.instanceMethod yX2_size ∈ lw_tbl := sf_tb 185 (by decide +kernel)
theorem se_X2_size : Cond.selects RX2 yX2_size yX2_size ∈ lw_tbl := sf_tb 186 (by decide +kernel)
def wsX2_size : List Cond := .code yX2_size cX2_size 3 (some .int) :: sf_T
theorem co_X2_size : Cond.code yX2_size cX2_size 3 (some .int) ∈ lw_tbl := sf_tb 187 rfl
theorem ml_L_50 : Cond.methodLink RL 50 yX2_compare ∈ lw_tbl := sf_tb 188 (by decide +kernel)
theorem im_X2_compare : Cond.instanceMethod yX2_compare ∈ lw_tbl := sf_tb 189 (by decide +kernel)
theorem se_X2_compare : Cond.selects RX2 yX2_compare yX2_compare ∈ lw_tbl := sf_tb 190 (by decide +kernel)
def wsX2_compare : List Cond := .code yX2_compare cX2_compare 10 (some .int) :: sf_T
theorem co_X2_compare : Cond.code yX2_compare cX2_compare 10 (some .int) ∈ lw_tbl := sf_tb 191 rfl
theorem ml_X2_97 : Cond.methodLink RX2 97 yJ9_min_7cf53 ∈ lw_tbl := sf_tb 192 (by decide +kernel)
theorem sm_J9_min_7cf53 : Cond.static yJ9_min_7cf53 ∈ lw_tbl := sf_tb 193 (by decide +kernel)
def wsJ9_min_7cf53 : List Cond := .code yJ9_min_7cf53 cJ9_min_7cf53 2 (some .int) :: sf_T
theorem co_J9_min_7cf53 : Cond.code yJ9_min_7cf53 cJ9_min_7cf53 2 (some .int) ∈ lw_tbl := sf_tb 194 rfl
theorem ml_X2_103 : Cond.methodLink RX2 103 yX2_order ∈ lw_tbl := sf_tb 195 (by decide +kernel)
theorem sm_X2_order : Cond.static yX2_order ∈ lw_tbl := sf_tb 196 (by decide +kernel)
def wsX2_order : List Cond := .code yX2_order cX2_order 2 (some .int) :: sf_T
theorem co_X2_order : Cond.code yX2_order cX2_order 2 (some .int) ∈ lw_tbl := sf_tb 197 rfl
theorem ml_L_54 : Cond.methodLink RL 54 yX2_sum ∈ lw_tbl := sf_tb 198 (by decide +kernel)
theorem im_X2_sum : Cond.instanceMethod yX2_sum ∈ lw_tbl := sf_tb 199 (by decide +kernel)
theorem se_X2_sum : Cond.selects RX2 yX2_sum yX2_sum ∈ lw_tbl := sf_tb 200 (by decide +kernel)
def wsX2_sum : List Cond := .code yX2_sum cX2_sum 7 (some .int) :: sf_T
theorem co_X2_sum : Cond.code yX2_sum cX2_sum 7 (some .int) ∈ lw_tbl := sf_tb 201 rfl
theorem ml_L_58 : Cond.methodLink RL 58 yX2_rows ∈ lw_tbl := sf_tb 202 (by decide +kernel)
theorem im_X2_rows : Cond.instanceMethod yX2_rows ∈ lw_tbl := sf_tb 203 (by decide +kernel)
theorem se_X2_rows : Cond.selects RX2 yX2_rows yX2_rows ∈ lw_tbl := sf_tb 204 (by decide +kernel)
def wsX2_rows : List Cond := .code yX2_rows cX2_rows 1 (some .int) :: sf_T
theorem co_X2_rows : Cond.code yX2_rows cX2_rows 1 (some .int) ∈ lw_tbl := sf_tb 205 rfl
theorem ml_L_63 : Cond.methodLink RL 63 yX2_places ∈ lw_tbl := sf_tb 206 (by decide +kernel)
theorem im_X2_places : Cond.instanceMethod yX2_places ∈ lw_tbl := sf_tb 207 (by decide +kernel)
theorem se_X2_places : Cond.selects RX2 yX2_places yX2_places ∈ lw_tbl := sf_tb 208 (by decide +kernel)
def wsX2_places : List Cond := .code yX2_places cX2_places 1 (some .int) :: sf_T
theorem co_X2_places : Cond.code yX2_places cX2_places 1 (some .int) ∈ lw_tbl := sf_tb 209 rfl
theorem cl_L_10 : Cond.classLink RL 10 RX3 ∈ lw_tbl := sf_tb 210 (by decide +kernel)
theorem it_X3 : Cond.instantiable RX3 8 ∈ lw_tbl := sf_tb 211 (by decide +kernel)
theorem ml_L_12 : Cond.methodLink RL 12 yX3_init ∈ lw_tbl := sf_tb 212 (by decide +kernel)
theorem im_X3_init : Cond.instanceMethod yX3_init ∈ lw_tbl := sf_tb 213 (by decide +kernel)
def wsX3_init : List Cond := .code yX3_init cX3_init 1 (none) :: sf_T
theorem co_X3_init : Cond.code yX3_init cX3_init 1 (none) ∈ lw_tbl := sf_tb 214 rfl
theorem ml_X3_1 : Cond.methodLink RX3 1 objectInit ∈ lw_tbl := sf_tb 215 (by decide +kernel)
theorem cn_X3_7 : Cond.constant RX3 7 (nI 400000) ∈ lw_tbl := sf_tb 216 (by decide +kernel)
theorem fl_X3_8 : Cond.fieldLink RX3 8 "ByteShelfModel" "bytes" "[B" ∈ lw_tbl := sf_tb 217 (by decide +kernel)
theorem fl_X3_46 : Cond.fieldLink RX3 46 "ByteShelfModel" "used" "I" ∈ lw_tbl := sf_tb 218 (by decide +kernel)
theorem fl_X3_14 : Cond.fieldLink RX3 14 "ByteShelfModel" "starts" "[I" ∈ lw_tbl := sf_tb 219 (by decide +kernel)
theorem fl_X3_18 : Cond.fieldLink RX3 18 "ByteShelfModel" "sizes" "[I" ∈ lw_tbl := sf_tb 220 (by decide +kernel)
theorem fl_X3_24 : Cond.fieldLink RX3 24 "ByteShelfModel" "numbers" "I" ∈ lw_tbl := sf_tb 221 (by decide +kernel)
theorem fl_X3_21 : Cond.fieldLink RX3 21 "ByteShelfModel" "backs" "[I" ∈ lw_tbl := sf_tb 222 (by decide +kernel)
theorem fl_X3_28 : Cond.fieldLink RX3 28 "ByteShelfModel" "backMany" "I" ∈ lw_tbl := sf_tb 223 (by decide +kernel)
theorem fl_X3_35 : Cond.fieldLink RX3 35 "ByteShelfModel" "taken" "I" ∈ lw_tbl := sf_tb 224 (by decide +kernel)
theorem ac_int : Cond.arrayClass .int ∈ lw_tbl := sf_tb 242 (by decide +kernel)
theorem ml_L_17 : Cond.methodLink RL 17 yX3_take ∈ lw_tbl := sf_tb 243 (by decide +kernel)
theorem im_X3_take : Cond.instanceMethod yX3_take ∈ lw_tbl := sf_tb 244 (by decide +kernel)
theorem se_X3_take : Cond.selects RX3 yX3_take yX3_take ∈ lw_tbl := sf_tb 245 (by decide +kernel)
def wsX3_take : List Cond := .code yX3_take cX3_take 3 (some .int) :: sf_T
theorem co_X3_take : Cond.code yX3_take cX3_take 3 (some .int) ∈ lw_tbl := sf_tb 246 rfl
theorem ml_X3_31 : Cond.methodLink RX3 31 yX3_many ∈ lw_tbl := sf_tb 247 (by decide +kernel)
theorem im_X3_many : Cond.instanceMethod yX3_many ∈ lw_tbl := sf_tb 249 (by decide +kernel)
def wsX3_many : List Cond := .code yX3_many cX3_many 1 (some .int) :: sf_T
theorem co_X3_many : Cond.code yX3_many cX3_many 1 (some .int) ∈ lw_tbl := sf_tb 250 rfl
theorem ml_X3_38 : Cond.methodLink RX3 38 yX3_placesOf ∈ lw_tbl := sf_tb 251 (by decide +kernel)
theorem sm_X3_placesOf : Cond.static yX3_placesOf ∈ lw_tbl := sf_tb 252 (by decide +kernel)
def wsX3_placesOf : List Cond := .code yX3_placesOf cX3_placesOf 1 (some .int) :: sf_T
theorem co_X3_placesOf : Cond.code yX3_placesOf cX3_placesOf 1 (some .int) ∈ lw_tbl := sf_tb 253 rfl
theorem ml_X3_42 : Cond.methodLink RX3 42 yX3_change ∈ lw_tbl := sf_tb 254 (by decide +kernel)
theorem im_X3_change : Cond.instanceMethod yX3_change ∈ lw_tbl := sf_tb 256 (by decide +kernel)
def wsX3_change : List Cond := .code yX3_change cX3_change 7 (none) :: sf_T
theorem co_X3_change : Cond.code yX3_change cX3_change 7 (none) ∈ lw_tbl := sf_tb 257 rfl
theorem ml_X3_49 : Cond.methodLink RX3 49 yX3_shift ∈ lw_tbl := sf_tb 258 (by decide +kernel)
theorem im_X3_shift : Cond.instanceMethod yX3_shift ∈ lw_tbl := sf_tb 260 (by decide +kernel)
def wsX3_shift : List Cond := .code yX3_shift cX3_shift 4 (none) :: sf_T
theorem co_X3_shift : Cond.code yX3_shift cX3_shift 4 (none) ∈ lw_tbl := sf_tb 261 rfl
theorem ml_L_22 : Cond.methodLink RL 22 yX3_give ∈ lw_tbl := sf_tb 262 (by decide +kernel)
theorem im_X3_give : Cond.instanceMethod yX3_give ∈ lw_tbl := sf_tb 263 (by decide +kernel)
theorem se_X3_give : Cond.selects RX3 yX3_give yX3_give ∈ lw_tbl := sf_tb 264 (by decide +kernel)
def wsX3_give : List Cond := .code yX3_give cX3_give 2 (some .boolean) :: sf_T
theorem co_X3_give : Cond.code yX3_give cX3_give 2 (some .boolean) ∈ lw_tbl := sf_tb 265 rfl
theorem ml_X3_52 : Cond.methodLink RX3 52 yX3_isRow ∈ lw_tbl := sf_tb 266 (by decide +kernel)
theorem im_X3_isRow : Cond.instanceMethod yX3_isRow ∈ lw_tbl := sf_tb 268 (by decide +kernel)
def wsX3_isRow : List Cond := .code yX3_isRow cX3_isRow 2 (some .boolean) :: sf_T
theorem co_X3_isRow : Cond.code yX3_isRow cX3_isRow 2 (some .boolean) ∈ lw_tbl := sf_tb 269 rfl
theorem ml_L_27 : Cond.methodLink RL 27 yX3_resize ∈ lw_tbl := sf_tb 270 (by decide +kernel)
theorem im_X3_resize : Cond.instanceMethod yX3_resize ∈ lw_tbl := sf_tb 271 (by decide +kernel)
theorem se_X3_resize : Cond.selects RX3 yX3_resize yX3_resize ∈ lw_tbl := sf_tb 272 (by decide +kernel)
def wsX3_resize : List Cond := .code yX3_resize cX3_resize 3 (some .int) :: sf_T
theorem co_X3_resize : Cond.code yX3_resize cX3_resize 3 (some .int) ∈ lw_tbl := sf_tb 273 rfl
theorem ml_X3_56 : Cond.methodLink RX3 56 yX3_hasRoom ∈ lw_tbl := sf_tb 274 (by decide +kernel)
theorem im_X3_hasRoom : Cond.instanceMethod yX3_hasRoom ∈ lw_tbl := sf_tb 276 (by decide +kernel)
def wsX3_hasRoom : List Cond := .code yX3_hasRoom cX3_hasRoom 3 (some .boolean) :: sf_T
theorem co_X3_hasRoom : Cond.code yX3_hasRoom cX3_hasRoom 3 (some .boolean) ∈ lw_tbl := sf_tb 277 rfl
theorem ml_L_32 : Cond.methodLink RL 32 yX3_put ∈ lw_tbl := sf_tb 278 (by decide +kernel)
theorem im_X3_put : Cond.instanceMethod yX3_put ∈ lw_tbl := sf_tb 279 (by decide +kernel)
theorem se_X3_put : Cond.selects RX3 yX3_put yX3_put ∈ lw_tbl := sf_tb 280 (by decide +kernel)
def wsX3_put : List Cond := .code yX3_put cX3_put 4 (some .boolean) :: sf_T
theorem co_X3_put : Cond.code yX3_put cX3_put 4 (some .boolean) ∈ lw_tbl := sf_tb 281 rfl
theorem ml_L_37 : Cond.methodLink RL 37 yX3_fill ∈ lw_tbl := sf_tb 282 (by decide +kernel)
theorem im_X3_fill : Cond.instanceMethod yX3_fill ∈ lw_tbl := sf_tb 283 (by decide +kernel)
theorem se_X3_fill : Cond.selects RX3 yX3_fill yX3_fill ∈ lw_tbl := sf_tb 284 (by decide +kernel)
def wsX3_fill : List Cond := .code yX3_fill cX3_fill 6 (some .boolean) :: sf_T
theorem co_X3_fill : Cond.code yX3_fill cX3_fill 6 (some .boolean) ∈ lw_tbl := sf_tb 285 rfl
theorem ml_L_41 : Cond.methodLink RL 41 yX3_copy ∈ lw_tbl := sf_tb 286 (by decide +kernel)
theorem im_X3_copy : Cond.instanceMethod yX3_copy ∈ lw_tbl := sf_tb 287 (by decide +kernel)
theorem se_X3_copy : Cond.selects RX3 yX3_copy yX3_copy ∈ lw_tbl := sf_tb 288 (by decide +kernel)
def wsX3_copy : List Cond := .code yX3_copy cX3_copy 5 (some .int) :: sf_T
theorem co_X3_copy : Cond.code yX3_copy cX3_copy 5 (some .int) ∈ lw_tbl := sf_tb 289 rfl
theorem ml_L_45 : Cond.methodLink RL 45 yX3_get ∈ lw_tbl := sf_tb 290 (by decide +kernel)
theorem im_X3_get : Cond.instanceMethod yX3_get ∈ lw_tbl := sf_tb 291 (by decide +kernel)
theorem se_X3_get : Cond.selects RX3 yX3_get yX3_get ∈ lw_tbl := sf_tb 292 (by decide +kernel)
def wsX3_get : List Cond := .code yX3_get cX3_get 3 (some .int) :: sf_T
theorem co_X3_get : Cond.code yX3_get cX3_get 3 (some .int) ∈ lw_tbl := sf_tb 293 rfl
theorem ml_L_49 : Cond.methodLink RL 49 yX3_size ∈ lw_tbl := sf_tb 294 (by decide +kernel)
theorem im_X3_size : Cond.instanceMethod yX3_size ∈ lw_tbl := sf_tb 295 (by decide +kernel)
theorem se_X3_size : Cond.selects RX3 yX3_size yX3_size ∈ lw_tbl := sf_tb 296 (by decide +kernel)
def wsX3_size : List Cond := .code yX3_size cX3_size 2 (some .int) :: sf_T
theorem co_X3_size : Cond.code yX3_size cX3_size 2 (some .int) ∈ lw_tbl := sf_tb 297 rfl
theorem ml_L_53 : Cond.methodLink RL 53 yX3_compare ∈ lw_tbl := sf_tb 298 (by decide +kernel)
theorem im_X3_compare : Cond.instanceMethod yX3_compare ∈ lw_tbl := sf_tb 299 (by decide +kernel)
theorem se_X3_compare : Cond.selects RX3 yX3_compare yX3_compare ∈ lw_tbl := sf_tb 300 (by decide +kernel)
def wsX3_compare : List Cond := .code yX3_compare cX3_compare 5 (some .int) :: sf_T
theorem co_X3_compare : Cond.code yX3_compare cX3_compare 5 (some .int) ∈ lw_tbl := sf_tb 301 rfl
theorem ml_X3_60 : Cond.methodLink RX3 60 yX3_get ∈ lw_tbl := sf_tb 302 (by decide +kernel)
theorem ml_L_57 : Cond.methodLink RL 57 yX3_sum ∈ lw_tbl := sf_tb 303 (by decide +kernel)
theorem im_X3_sum : Cond.instanceMethod yX3_sum ∈ lw_tbl := sf_tb 304 (by decide +kernel)
theorem se_X3_sum : Cond.selects RX3 yX3_sum yX3_sum ∈ lw_tbl := sf_tb 305 (by decide +kernel)
def wsX3_sum : List Cond := .code yX3_sum cX3_sum 4 (some .int) :: sf_T
theorem co_X3_sum : Cond.code yX3_sum cX3_sum 4 (some .int) ∈ lw_tbl := sf_tb 306 rfl
theorem ml_X3_64 : Cond.methodLink RX3 64 yX3_size ∈ lw_tbl := sf_tb 307 (by decide +kernel)
theorem ml_L_62 : Cond.methodLink RL 62 yX3_rows ∈ lw_tbl := sf_tb 308 (by decide +kernel)
theorem im_X3_rows : Cond.instanceMethod yX3_rows ∈ lw_tbl := sf_tb 309 (by decide +kernel)
theorem se_X3_rows : Cond.selects RX3 yX3_rows yX3_rows ∈ lw_tbl := sf_tb 310 (by decide +kernel)
def wsX3_rows : List Cond := .code yX3_rows cX3_rows 1 (some .int) :: sf_T
theorem co_X3_rows : Cond.code yX3_rows cX3_rows 1 (some .int) ∈ lw_tbl := sf_tb 311 rfl
theorem ml_L_66 : Cond.methodLink RL 66 yX3_places ∈ lw_tbl := sf_tb 312 (by decide +kernel)
theorem im_X3_places : Cond.instanceMethod yX3_places ∈ lw_tbl := sf_tb 313 (by decide +kernel)
theorem se_X3_places : Cond.selects RX3 yX3_places yX3_places ∈ lw_tbl := sf_tb 314 (by decide +kernel)
def wsX3_places : List Cond := .code yX3_places cX3_places 1 (some .int) :: sf_T
theorem co_X3_places : Cond.code yX3_places cX3_places 1 (some .int) ∈ lw_tbl := sf_tb 315 rfl
theorem sf_iX0 : ∀ w ∈ wsX00, w ∈ sf_T := fun w h => List.mem_filter.mpr ⟨(by decide +kernel : ∀ w ∈ wsX00, w ∈ lw_tbl) w h, (by decide +kernel : ∀ w ∈ wsX00, goodWord w = true) w h⟩
theorem sf_inX0 {w0 : Cond} : ∀ w ∈ wsX00, w ∈ w0 :: sf_T := fun w h => List.mem_cons_of_mem _ (sf_iX0 w h)
theorem sf_iX1 : ∀ w ∈ wsX10, w ∈ sf_T := fun w h => List.mem_filter.mpr ⟨(by decide +kernel : ∀ w ∈ wsX10, w ∈ lw_tbl) w h, (by decide +kernel : ∀ w ∈ wsX10, goodWord w = true) w h⟩
theorem sf_inX1 {w0 : Cond} : ∀ w ∈ wsX10, w ∈ w0 :: sf_T := fun w h => List.mem_cons_of_mem _ (sf_iX1 w h)
theorem sf_iX2 : ∀ w ∈ wsX20, w ∈ sf_T := fun w h => List.mem_filter.mpr ⟨(by decide +kernel : ∀ w ∈ wsX20, w ∈ lw_tbl) w h, (by decide +kernel : ∀ w ∈ wsX20, goodWord w = true) w h⟩
theorem sf_inX2 {w0 : Cond} : ∀ w ∈ wsX20, w ∈ w0 :: sf_T := fun w h => List.mem_cons_of_mem _ (sf_iX2 w h)
theorem sf_iX3 : ∀ w ∈ wsX30, w ∈ sf_T := fun w h => List.mem_filter.mpr ⟨(by decide +kernel : ∀ w ∈ wsX30, w ∈ lw_tbl) w h, (by decide +kernel : ∀ w ∈ wsX30, goodWord w = true) w h⟩
theorem sf_inX3 {w0 : Cond} : ∀ w ∈ wsX30, w ∈ w0 :: sf_T := fun w h => List.mem_cons_of_mem _ (sf_iX3 w h)
end
section
theorem dX0_init_0 : decode cX0_init 0 = .ok (.aload_n 0, 1) := by decide +kernel
theorem dX0_init_1 : decode cX0_init 1 = .ok (.invokespecial 3, 3) := by decide +kernel
theorem dX0_init_4 : decode cX0_init 4 = .ok (.aload_n 0, 1) := by decide +kernel
theorem dX0_init_5 : decode cX0_init 5 = .ok (.ldc 9, 2) := by decide +kernel
theorem dX0_init_7 : decode cX0_init 7 = .ok (.newarray .byte, 2) := by decide +kernel
theorem dX0_init_9 : decode cX0_init 9 = .ok (.putfield 10, 3) := by decide +kernel
theorem dX0_init_12 : decode cX0_init 12 = .ok (.aload_n 0, 1) := by decide +kernel
theorem dX0_init_13 : decode cX0_init 13 = .ok (.iconst 0, 1) := by decide +kernel
theorem dX0_init_14 : decode cX0_init 14 = .ok (.putfield 16, 3) := by decide +kernel
theorem dX0_init_17 : decode cX0_init 17 = .ok (.aload_n 0, 1) := by decide +kernel
theorem dX0_init_18 : decode cX0_init 18 = .ok (.iconst 0, 1) := by decide +kernel
theorem dX0_init_19 : decode cX0_init 19 = .ok (.putfield 20, 3) := by decide +kernel
theorem dX0_init_22 : decode cX0_init 22 = .ok (.aload_n 0, 1) := by decide +kernel
theorem dX0_init_23 : decode cX0_init 23 = .ok (.aconst_null, 1) := by decide +kernel
theorem dX0_init_24 : decode cX0_init 24 = .ok (.putfield 23, 3) := by decide +kernel
theorem dX0_init_27 : decode cX0_init 27 = .ok (.aload_n 0, 1) := by decide +kernel
theorem dX0_init_28 : decode cX0_init 28 = .ok (.aconst_null, 1) := by decide +kernel
theorem dX0_init_29 : decode cX0_init 29 = .ok (.putfield 27, 3) := by decide +kernel
theorem dX0_init_32 : decode cX0_init 32 = .ok (.return_, 1) := by decide +kernel
theorem dX0_hasRoomFor_0 : decode cX0_hasRoomFor 0 = .ok (.iload_n 1, 1) := by decide +kernel
theorem dX0_hasRoomFor_1 : decode cX0_hasRoomFor 1 = .ok (.ldc 9, 2) := by decide +kernel
theorem dX0_hasRoomFor_3 : decode cX0_hasRoomFor 3 = .ok (.aload_n 0, 1) := by decide +kernel
theorem dX0_hasRoomFor_4 : decode cX0_hasRoomFor 4 = .ok (.getfield 16, 3) := by decide +kernel
theorem dX0_hasRoomFor_7 : decode cX0_hasRoomFor 7 = .ok (.isub, 1) := by decide +kernel
theorem dX0_hasRoomFor_8 : decode cX0_hasRoomFor 8 = .ok (.if_icmp .gt 7, 3) := by decide +kernel
theorem dX0_hasRoomFor_11 : decode cX0_hasRoomFor 11 = .ok (.iconst 1, 1) := by decide +kernel
theorem dX0_hasRoomFor_12 : decode cX0_hasRoomFor 12 = .ok (.goto 4, 3) := by decide +kernel
theorem dX0_hasRoomFor_15 : decode cX0_hasRoomFor 15 = .ok (.iconst 0, 1) := by decide +kernel
theorem dX0_hasRoomFor_16 : decode cX0_hasRoomFor 16 = .ok (.ireturn, 1) := by decide +kernel
theorem dX0_lay_0 : decode cX0_lay 0 = .ok (.iload_n 2, 1) := by decide +kernel
theorem dX0_lay_1 : decode cX0_lay 1 = .ok (.invokestatic 30, 3) := by decide +kernel
theorem dX0_lay_4 : decode cX0_lay 4 = .ok (.istore_n 3, 1) := by decide +kernel
theorem dX0_lay_5 : decode cX0_lay 5 = .ok (.aload_n 1, 1) := by decide +kernel
theorem dX0_lay_6 : decode cX0_lay 6 = .ok (.aload_n 0, 1) := by decide +kernel
theorem dX0_lay_7 : decode cX0_lay 7 = .ok (.iload_n 3, 1) := by decide +kernel
theorem dX0_lay_8 : decode cX0_lay 8 = .ok (.invokevirtual 34, 3) := by decide +kernel
theorem dX0_lay_11 : decode cX0_lay 11 = .ok (.putfield 37, 3) := by decide +kernel
theorem dX0_lay_14 : decode cX0_lay 14 = .ok (.aload_n 1, 1) := by decide +kernel
theorem dX0_lay_15 : decode cX0_lay 15 = .ok (.iload_n 2, 1) := by decide +kernel
theorem dX0_lay_16 : decode cX0_lay 16 = .ok (.putfield 42, 3) := by decide +kernel
theorem dX0_lay_19 : decode cX0_lay 19 = .ok (.aload_n 0, 1) := by decide +kernel
theorem dX0_lay_20 : decode cX0_lay 20 = .ok (.dup, 1) := by decide +kernel
theorem dX0_lay_21 : decode cX0_lay 21 = .ok (.getfield 16, 3) := by decide +kernel
theorem dX0_lay_24 : decode cX0_lay 24 = .ok (.iload_n 3, 1) := by decide +kernel
theorem dX0_lay_25 : decode cX0_lay 25 = .ok (.iadd, 1) := by decide +kernel
theorem dX0_lay_26 : decode cX0_lay 26 = .ok (.putfield 16, 3) := by decide +kernel
theorem dX0_lay_29 : decode cX0_lay 29 = .ok (.aload_n 0, 1) := by decide +kernel
theorem dX0_lay_30 : decode cX0_lay 30 = .ok (.getfield 10, 3) := by decide +kernel
theorem dX0_lay_33 : decode cX0_lay 33 = .ok (.aload_n 1, 1) := by decide +kernel
theorem dX0_lay_34 : decode cX0_lay 34 = .ok (.getfield 37, 3) := by decide +kernel
theorem dX0_lay_37 : decode cX0_lay 37 = .ok (.aload_n 1, 1) := by decide +kernel
theorem dX0_lay_38 : decode cX0_lay 38 = .ok (.getfield 37, 3) := by decide +kernel
theorem dX0_lay_41 : decode cX0_lay 41 = .ok (.iload_n 2, 1) := by decide +kernel
theorem dX0_lay_42 : decode cX0_lay 42 = .ok (.iadd, 1) := by decide +kernel
theorem dX0_lay_43 : decode cX0_lay 43 = .ok (.iconst 0, 1) := by decide +kernel
theorem dX0_lay_44 : decode cX0_lay 44 = .ok (.invokestatic 45, 3) := by decide +kernel
theorem dX0_lay_47 : decode cX0_lay 47 = .ok (.aload_n 0, 1) := by decide +kernel
theorem dX0_lay_48 : decode cX0_lay 48 = .ok (.aload_n 1, 1) := by decide +kernel
theorem dX0_lay_49 : decode cX0_lay 49 = .ok (.invokevirtual 51, 3) := by decide +kernel
theorem dX0_lay_52 : decode cX0_lay 52 = .ok (.return_, 1) := by decide +kernel
theorem dX0_lift_0 : decode cX0_lift 0 = .ok (.aload_n 0, 1) := by decide +kernel
theorem dX0_lift_1 : decode cX0_lift 1 = .ok (.aload_n 1, 1) := by decide +kernel
theorem dX0_lift_2 : decode cX0_lift 2 = .ok (.invokevirtual 55, 3) := by decide +kernel
theorem dX0_lift_5 : decode cX0_lift 5 = .ok (.aload_n 0, 1) := by decide +kernel
theorem dX0_lift_6 : decode cX0_lift 6 = .ok (.dup, 1) := by decide +kernel
theorem dX0_lift_7 : decode cX0_lift 7 = .ok (.getfield 16, 3) := by decide +kernel
theorem dX0_lift_10 : decode cX0_lift 10 = .ok (.aload_n 1, 1) := by decide +kernel
theorem dX0_lift_11 : decode cX0_lift 11 = .ok (.getfield 42, 3) := by decide +kernel
theorem dX0_lift_14 : decode cX0_lift 14 = .ok (.invokestatic 30, 3) := by decide +kernel
theorem dX0_lift_17 : decode cX0_lift 17 = .ok (.isub, 1) := by decide +kernel
theorem dX0_lift_18 : decode cX0_lift 18 = .ok (.putfield 16, 3) := by decide +kernel
theorem dX0_lift_21 : decode cX0_lift 21 = .ok (.return_, 1) := by decide +kernel
theorem dX0_setLength_0 : decode cX0_setLength 0 = .ok (.aload_n 1, 1) := by decide +kernel
theorem dX0_setLength_1 : decode cX0_setLength 1 = .ok (.getfield 42, 3) := by decide +kernel
theorem dX0_setLength_4 : decode cX0_setLength 4 = .ok (.invokestatic 30, 3) := by decide +kernel
theorem dX0_setLength_7 : decode cX0_setLength 7 = .ok (.istore_n 3, 1) := by decide +kernel
theorem dX0_setLength_8 : decode cX0_setLength 8 = .ok (.iload_n 2, 1) := by decide +kernel
theorem dX0_setLength_9 : decode cX0_setLength 9 = .ok (.invokestatic 30, 3) := by decide +kernel
theorem dX0_setLength_12 : decode cX0_setLength 12 = .ok (.istore 4, 2) := by decide +kernel
theorem dX0_setLength_14 : decode cX0_setLength 14 = .ok (.iload 4, 2) := by decide +kernel
theorem dX0_setLength_16 : decode cX0_setLength 16 = .ok (.iload_n 3, 1) := by decide +kernel
theorem dX0_setLength_17 : decode cX0_setLength 17 = .ok (.if_icmp .le 21, 3) := by decide +kernel
theorem dX0_setLength_20 : decode cX0_setLength 20 = .ok (.aload_n 0, 1) := by decide +kernel
theorem dX0_setLength_21 : decode cX0_setLength 21 = .ok (.iload 4, 2) := by decide +kernel
theorem dX0_setLength_23 : decode cX0_setLength 23 = .ok (.invokevirtual 58, 3) := by decide +kernel
theorem dX0_setLength_26 : decode cX0_setLength 26 = .ok (.ifCond .ne 5, 3) := by decide +kernel
theorem dX0_setLength_29 : decode cX0_setLength 29 = .ok (.iconst 0, 1) := by decide +kernel
theorem dX0_setLength_30 : decode cX0_setLength 30 = .ok (.ireturn, 1) := by decide +kernel
theorem dX0_setLength_31 : decode cX0_setLength 31 = .ok (.aload_n 0, 1) := by decide +kernel
theorem dX0_setLength_32 : decode cX0_setLength 32 = .ok (.aload_n 1, 1) := by decide +kernel
theorem dX0_setLength_33 : decode cX0_setLength 33 = .ok (.iload 4, 2) := by decide +kernel
theorem dX0_setLength_35 : decode cX0_setLength 35 = .ok (.invokevirtual 62, 3) := by decide +kernel
theorem dX0_setLength_38 : decode cX0_setLength 38 = .ok (.iload_n 2, 1) := by decide +kernel
theorem dX0_setLength_39 : decode cX0_setLength 39 = .ok (.aload_n 1, 1) := by decide +kernel
theorem dX0_setLength_40 : decode cX0_setLength 40 = .ok (.getfield 42, 3) := by decide +kernel
theorem dX0_setLength_43 : decode cX0_setLength 43 = .ok (.if_icmp .le 26, 3) := by decide +kernel
theorem dX0_setLength_46 : decode cX0_setLength 46 = .ok (.aload_n 0, 1) := by decide +kernel
theorem dX0_setLength_47 : decode cX0_setLength 47 = .ok (.getfield 10, 3) := by decide +kernel
theorem dX0_setLength_50 : decode cX0_setLength 50 = .ok (.aload_n 1, 1) := by decide +kernel
theorem dX0_setLength_51 : decode cX0_setLength 51 = .ok (.getfield 37, 3) := by decide +kernel
theorem dX0_setLength_54 : decode cX0_setLength 54 = .ok (.aload_n 1, 1) := by decide +kernel
theorem dX0_setLength_55 : decode cX0_setLength 55 = .ok (.getfield 42, 3) := by decide +kernel
theorem dX0_setLength_58 : decode cX0_setLength 58 = .ok (.iadd, 1) := by decide +kernel
theorem dX0_setLength_59 : decode cX0_setLength 59 = .ok (.aload_n 1, 1) := by decide +kernel
theorem dX0_setLength_60 : decode cX0_setLength 60 = .ok (.getfield 37, 3) := by decide +kernel
theorem dX0_setLength_63 : decode cX0_setLength 63 = .ok (.iload_n 2, 1) := by decide +kernel
theorem dX0_setLength_64 : decode cX0_setLength 64 = .ok (.iadd, 1) := by decide +kernel
theorem dX0_setLength_65 : decode cX0_setLength 65 = .ok (.iconst 0, 1) := by decide +kernel
theorem dX0_setLength_66 : decode cX0_setLength 66 = .ok (.invokestatic 45, 3) := by decide +kernel
theorem dX0_setLength_69 : decode cX0_setLength 69 = .ok (.aload_n 1, 1) := by decide +kernel
theorem dX0_setLength_70 : decode cX0_setLength 70 = .ok (.iload_n 2, 1) := by decide +kernel
theorem dX0_setLength_71 : decode cX0_setLength 71 = .ok (.putfield 42, 3) := by decide +kernel
theorem dX0_setLength_74 : decode cX0_setLength 74 = .ok (.aload_n 0, 1) := by decide +kernel
theorem dX0_setLength_75 : decode cX0_setLength 75 = .ok (.dup, 1) := by decide +kernel
theorem dX0_setLength_76 : decode cX0_setLength 76 = .ok (.getfield 16, 3) := by decide +kernel
theorem dX0_setLength_79 : decode cX0_setLength 79 = .ok (.iload 4, 2) := by decide +kernel
theorem dX0_setLength_81 : decode cX0_setLength 81 = .ok (.iload_n 3, 1) := by decide +kernel
theorem dX0_setLength_82 : decode cX0_setLength 82 = .ok (.isub, 1) := by decide +kernel
theorem dX0_setLength_83 : decode cX0_setLength 83 = .ok (.iadd, 1) := by decide +kernel
theorem dX0_setLength_84 : decode cX0_setLength 84 = .ok (.putfield 16, 3) := by decide +kernel
theorem dX0_setLength_87 : decode cX0_setLength 87 = .ok (.iconst 1, 1) := by decide +kernel
theorem dX0_setLength_88 : decode cX0_setLength 88 = .ok (.ireturn, 1) := by decide +kernel
theorem dX0_move_0 : decode cX0_move 0 = .ok (.aload_n 0, 1) := by decide +kernel
theorem dX0_move_1 : decode cX0_move 1 = .ok (.iload_n 2, 1) := by decide +kernel
theorem dX0_move_2 : decode cX0_move 2 = .ok (.invokevirtual 34, 3) := by decide +kernel
theorem dX0_move_5 : decode cX0_move 5 = .ok (.istore_n 3, 1) := by decide +kernel
theorem dX0_move_6 : decode cX0_move 6 = .ok (.aload_n 0, 1) := by decide +kernel
theorem dX0_move_7 : decode cX0_move 7 = .ok (.getfield 10, 3) := by decide +kernel
theorem dX0_move_10 : decode cX0_move 10 = .ok (.aload_n 1, 1) := by decide +kernel
theorem dX0_move_11 : decode cX0_move 11 = .ok (.getfield 37, 3) := by decide +kernel
theorem dX0_move_14 : decode cX0_move 14 = .ok (.aload_n 0, 1) := by decide +kernel
theorem dX0_move_15 : decode cX0_move 15 = .ok (.getfield 10, 3) := by decide +kernel
theorem dX0_move_18 : decode cX0_move 18 = .ok (.iload_n 3, 1) := by decide +kernel
theorem dX0_move_19 : decode cX0_move 19 = .ok (.aload_n 1, 1) := by decide +kernel
theorem dX0_move_20 : decode cX0_move 20 = .ok (.getfield 42, 3) := by decide +kernel
theorem dX0_move_23 : decode cX0_move 23 = .ok (.invokestatic 66, 3) := by decide +kernel
theorem dX0_move_26 : decode cX0_move 26 = .ok (.aload_n 1, 1) := by decide +kernel
theorem dX0_move_27 : decode cX0_move 27 = .ok (.iload_n 3, 1) := by decide +kernel
theorem dX0_move_28 : decode cX0_move 28 = .ok (.putfield 37, 3) := by decide +kernel
theorem dX0_move_31 : decode cX0_move 31 = .ok (.aload_n 0, 1) := by decide +kernel
theorem dX0_move_32 : decode cX0_move 32 = .ok (.aload_n 1, 1) := by decide +kernel
theorem dX0_move_33 : decode cX0_move 33 = .ok (.invokevirtual 55, 3) := by decide +kernel
theorem dX0_move_36 : decode cX0_move 36 = .ok (.aload_n 0, 1) := by decide +kernel
theorem dX0_move_37 : decode cX0_move 37 = .ok (.aload_n 1, 1) := by decide +kernel
theorem dX0_move_38 : decode cX0_move 38 = .ok (.invokevirtual 51, 3) := by decide +kernel
theorem dX0_move_41 : decode cX0_move 41 = .ok (.return_, 1) := by decide +kernel
theorem dX0_cut_0 : decode cX0_cut 0 = .ok (.iload_n 1, 1) := by decide +kernel
theorem dX0_cut_1 : decode cX0_cut 1 = .ok (.ldc 9, 2) := by decide +kernel
theorem dX0_cut_3 : decode cX0_cut 3 = .ok (.aload_n 0, 1) := by decide +kernel
theorem dX0_cut_4 : decode cX0_cut 4 = .ok (.getfield 20, 3) := by decide +kernel
theorem dX0_cut_7 : decode cX0_cut 7 = .ok (.isub, 1) := by decide +kernel
theorem dX0_cut_8 : decode cX0_cut 8 = .ok (.if_icmp .le 7, 3) := by decide +kernel
theorem dX0_cut_11 : decode cX0_cut 11 = .ok (.aload_n 0, 1) := by decide +kernel
theorem dX0_cut_12 : decode cX0_cut 12 = .ok (.invokevirtual 72, 3) := by decide +kernel
theorem dX0_cut_15 : decode cX0_cut 15 = .ok (.aload_n 0, 1) := by decide +kernel
theorem dX0_cut_16 : decode cX0_cut 16 = .ok (.getfield 20, 3) := by decide +kernel
theorem dX0_cut_19 : decode cX0_cut 19 = .ok (.istore_n 2, 1) := by decide +kernel
theorem dX0_cut_20 : decode cX0_cut 20 = .ok (.aload_n 0, 1) := by decide +kernel
theorem dX0_cut_21 : decode cX0_cut 21 = .ok (.dup, 1) := by decide +kernel
theorem dX0_cut_22 : decode cX0_cut 22 = .ok (.getfield 20, 3) := by decide +kernel
theorem dX0_cut_25 : decode cX0_cut 25 = .ok (.iload_n 1, 1) := by decide +kernel
theorem dX0_cut_26 : decode cX0_cut 26 = .ok (.iadd, 1) := by decide +kernel
theorem dX0_cut_27 : decode cX0_cut 27 = .ok (.putfield 20, 3) := by decide +kernel
theorem dX0_cut_30 : decode cX0_cut 30 = .ok (.iload_n 2, 1) := by decide +kernel
theorem dX0_cut_31 : decode cX0_cut 31 = .ok (.ireturn, 1) := by decide +kernel
theorem dX0_pushTogether_0 : decode cX0_pushTogether 0 = .ok (.iconst 0, 1) := by decide +kernel
theorem dX0_pushTogether_1 : decode cX0_pushTogether 1 = .ok (.istore_n 1, 1) := by decide +kernel
theorem dX0_pushTogether_2 : decode cX0_pushTogether 2 = .ok (.aload_n 0, 1) := by decide +kernel
theorem dX0_pushTogether_3 : decode cX0_pushTogether 3 = .ok (.getfield 23, 3) := by decide +kernel
theorem dX0_pushTogether_6 : decode cX0_pushTogether 6 = .ok (.astore_n 2, 1) := by decide +kernel
theorem dX0_pushTogether_7 : decode cX0_pushTogether 7 = .ok (.aload_n 2, 1) := by decide +kernel
theorem dX0_pushTogether_8 : decode cX0_pushTogether 8 = .ok (.ifnull 54, 3) := by decide +kernel
theorem dX0_pushTogether_11 : decode cX0_pushTogether 11 = .ok (.aload_n 2, 1) := by decide +kernel
theorem dX0_pushTogether_12 : decode cX0_pushTogether 12 = .ok (.getfield 37, 3) := by decide +kernel
theorem dX0_pushTogether_15 : decode cX0_pushTogether 15 = .ok (.iload_n 1, 1) := by decide +kernel
theorem dX0_pushTogether_16 : decode cX0_pushTogether 16 = .ok (.if_icmp .eq 28, 3) := by decide +kernel
theorem dX0_pushTogether_19 : decode cX0_pushTogether 19 = .ok (.aload_n 0, 1) := by decide +kernel
theorem dX0_pushTogether_20 : decode cX0_pushTogether 20 = .ok (.getfield 10, 3) := by decide +kernel
theorem dX0_pushTogether_23 : decode cX0_pushTogether 23 = .ok (.aload_n 2, 1) := by decide +kernel
theorem dX0_pushTogether_24 : decode cX0_pushTogether 24 = .ok (.getfield 37, 3) := by decide +kernel
theorem dX0_pushTogether_27 : decode cX0_pushTogether 27 = .ok (.aload_n 0, 1) := by decide +kernel
theorem dX0_pushTogether_28 : decode cX0_pushTogether 28 = .ok (.getfield 10, 3) := by decide +kernel
theorem dX0_pushTogether_31 : decode cX0_pushTogether 31 = .ok (.iload_n 1, 1) := by decide +kernel
theorem dX0_pushTogether_32 : decode cX0_pushTogether 32 = .ok (.aload_n 2, 1) := by decide +kernel
theorem dX0_pushTogether_33 : decode cX0_pushTogether 33 = .ok (.getfield 42, 3) := by decide +kernel
theorem dX0_pushTogether_36 : decode cX0_pushTogether 36 = .ok (.invokestatic 66, 3) := by decide +kernel
theorem dX0_pushTogether_39 : decode cX0_pushTogether 39 = .ok (.aload_n 2, 1) := by decide +kernel
theorem dX0_pushTogether_40 : decode cX0_pushTogether 40 = .ok (.iload_n 1, 1) := by decide +kernel
theorem dX0_pushTogether_41 : decode cX0_pushTogether 41 = .ok (.putfield 37, 3) := by decide +kernel
theorem dX0_pushTogether_44 : decode cX0_pushTogether 44 = .ok (.iload_n 1, 1) := by decide +kernel
theorem dX0_pushTogether_45 : decode cX0_pushTogether 45 = .ok (.aload_n 2, 1) := by decide +kernel
theorem dX0_pushTogether_46 : decode cX0_pushTogether 46 = .ok (.getfield 42, 3) := by decide +kernel
theorem dX0_pushTogether_49 : decode cX0_pushTogether 49 = .ok (.invokestatic 30, 3) := by decide +kernel
theorem dX0_pushTogether_52 : decode cX0_pushTogether 52 = .ok (.iadd, 1) := by decide +kernel
theorem dX0_pushTogether_53 : decode cX0_pushTogether 53 = .ok (.istore_n 1, 1) := by decide +kernel
theorem dX0_pushTogether_54 : decode cX0_pushTogether 54 = .ok (.aload_n 2, 1) := by decide +kernel
theorem dX0_pushTogether_55 : decode cX0_pushTogether 55 = .ok (.getfield 75, 3) := by decide +kernel
theorem dX0_pushTogether_58 : decode cX0_pushTogether 58 = .ok (.astore_n 2, 1) := by decide +kernel
theorem dX0_pushTogether_59 : decode cX0_pushTogether 59 = .ok (.goto (-52), 3) := by decide +kernel
theorem dX0_pushTogether_62 : decode cX0_pushTogether 62 = .ok (.aload_n 0, 1) := by decide +kernel
theorem dX0_pushTogether_63 : decode cX0_pushTogether 63 = .ok (.iload_n 1, 1) := by decide +kernel
theorem dX0_pushTogether_64 : decode cX0_pushTogether 64 = .ok (.putfield 20, 3) := by decide +kernel
theorem dX0_pushTogether_67 : decode cX0_pushTogether 67 = .ok (.return_, 1) := by decide +kernel
theorem dX0_append_0 : decode cX0_append 0 = .ok (.aload_n 1, 1) := by decide +kernel
theorem dX0_append_1 : decode cX0_append 1 = .ok (.aload_n 0, 1) := by decide +kernel
theorem dX0_append_2 : decode cX0_append 2 = .ok (.getfield 27, 3) := by decide +kernel
theorem dX0_append_5 : decode cX0_append 5 = .ok (.putfield 78, 3) := by decide +kernel
theorem dX0_append_8 : decode cX0_append 8 = .ok (.aload_n 1, 1) := by decide +kernel
theorem dX0_append_9 : decode cX0_append 9 = .ok (.aconst_null, 1) := by decide +kernel
theorem dX0_append_10 : decode cX0_append 10 = .ok (.putfield 75, 3) := by decide +kernel
theorem dX0_append_13 : decode cX0_append 13 = .ok (.aload_n 0, 1) := by decide +kernel
theorem dX0_append_14 : decode cX0_append 14 = .ok (.getfield 27, 3) := by decide +kernel
theorem dX0_append_17 : decode cX0_append 17 = .ok (.ifnonnull 11, 3) := by decide +kernel
theorem dX0_append_20 : decode cX0_append 20 = .ok (.aload_n 0, 1) := by decide +kernel
theorem dX0_append_21 : decode cX0_append 21 = .ok (.aload_n 1, 1) := by decide +kernel
theorem dX0_append_22 : decode cX0_append 22 = .ok (.putfield 23, 3) := by decide +kernel
theorem dX0_append_25 : decode cX0_append 25 = .ok (.goto 11, 3) := by decide +kernel
theorem dX0_append_28 : decode cX0_append 28 = .ok (.aload_n 0, 1) := by decide +kernel
theorem dX0_append_29 : decode cX0_append 29 = .ok (.getfield 27, 3) := by decide +kernel
theorem dX0_append_32 : decode cX0_append 32 = .ok (.aload_n 1, 1) := by decide +kernel
theorem dX0_append_33 : decode cX0_append 33 = .ok (.putfield 75, 3) := by decide +kernel
theorem dX0_append_36 : decode cX0_append 36 = .ok (.aload_n 0, 1) := by decide +kernel
theorem dX0_append_37 : decode cX0_append 37 = .ok (.aload_n 1, 1) := by decide +kernel
theorem dX0_append_38 : decode cX0_append 38 = .ok (.putfield 27, 3) := by decide +kernel
theorem dX0_append_41 : decode cX0_append 41 = .ok (.return_, 1) := by decide +kernel
theorem dX0_unlink_0 : decode cX0_unlink 0 = .ok (.aload_n 1, 1) := by decide +kernel
theorem dX0_unlink_1 : decode cX0_unlink 1 = .ok (.getfield 78, 3) := by decide +kernel
theorem dX0_unlink_4 : decode cX0_unlink 4 = .ok (.astore_n 2, 1) := by decide +kernel
theorem dX0_unlink_5 : decode cX0_unlink 5 = .ok (.aload_n 1, 1) := by decide +kernel
theorem dX0_unlink_6 : decode cX0_unlink 6 = .ok (.getfield 75, 3) := by decide +kernel
theorem dX0_unlink_9 : decode cX0_unlink 9 = .ok (.astore_n 3, 1) := by decide +kernel
theorem dX0_unlink_10 : decode cX0_unlink 10 = .ok (.aload_n 2, 1) := by decide +kernel
theorem dX0_unlink_11 : decode cX0_unlink 11 = .ok (.ifnonnull 11, 3) := by decide +kernel
theorem dX0_unlink_14 : decode cX0_unlink 14 = .ok (.aload_n 0, 1) := by decide +kernel
theorem dX0_unlink_15 : decode cX0_unlink 15 = .ok (.aload_n 3, 1) := by decide +kernel
theorem dX0_unlink_16 : decode cX0_unlink 16 = .ok (.putfield 23, 3) := by decide +kernel
theorem dX0_unlink_19 : decode cX0_unlink 19 = .ok (.goto 8, 3) := by decide +kernel
theorem dX0_unlink_22 : decode cX0_unlink 22 = .ok (.aload_n 2, 1) := by decide +kernel
theorem dX0_unlink_23 : decode cX0_unlink 23 = .ok (.aload_n 3, 1) := by decide +kernel
theorem dX0_unlink_24 : decode cX0_unlink 24 = .ok (.putfield 75, 3) := by decide +kernel
theorem dX0_unlink_27 : decode cX0_unlink 27 = .ok (.aload_n 3, 1) := by decide +kernel
theorem dX0_unlink_28 : decode cX0_unlink 28 = .ok (.ifnonnull 11, 3) := by decide +kernel
theorem dX0_unlink_31 : decode cX0_unlink 31 = .ok (.aload_n 0, 1) := by decide +kernel
theorem dX0_unlink_32 : decode cX0_unlink 32 = .ok (.aload_n 2, 1) := by decide +kernel
theorem dX0_unlink_33 : decode cX0_unlink 33 = .ok (.putfield 27, 3) := by decide +kernel
theorem dX0_unlink_36 : decode cX0_unlink 36 = .ok (.goto 8, 3) := by decide +kernel
theorem dX0_unlink_39 : decode cX0_unlink 39 = .ok (.aload_n 3, 1) := by decide +kernel
theorem dX0_unlink_40 : decode cX0_unlink 40 = .ok (.aload_n 2, 1) := by decide +kernel
theorem dX0_unlink_41 : decode cX0_unlink 41 = .ok (.putfield 78, 3) := by decide +kernel
theorem dX0_unlink_44 : decode cX0_unlink 44 = .ok (.return_, 1) := by decide +kernel
theorem dX1_init_0 : decode cX1_init 0 = .ok (.aload_n 0, 1) := by decide +kernel
theorem dX1_init_1 : decode cX1_init 1 = .ok (.invokespecial 1, 3) := by decide +kernel
theorem dX1_init_4 : decode cX1_init 4 = .ok (.aload_n 0, 1) := by decide +kernel
theorem dX1_init_5 : decode cX1_init 5 = .ok (.iload_n 1, 1) := by decide +kernel
theorem dX1_init_6 : decode cX1_init 6 = .ok (.putfield 7, 3) := by decide +kernel
theorem dX1_init_9 : decode cX1_init 9 = .ok (.return_, 1) := by decide +kernel
theorem dX2_init_0 : decode cX2_init 0 = .ok (.aload_n 0, 1) := by decide +kernel
theorem dX2_init_1 : decode cX2_init 1 = .ok (.invokespecial 1, 3) := by decide +kernel
theorem dX2_init_4 : decode cX2_init 4 = .ok (.aload_n 0, 1) := by decide +kernel
theorem dX2_init_5 : decode cX2_init 5 = .ok (.new 7, 3) := by decide +kernel
theorem dX2_init_8 : decode cX2_init 8 = .ok (.dup, 1) := by decide +kernel
theorem dX2_init_9 : decode cX2_init 9 = .ok (.invokespecial 9, 3) := by decide +kernel
theorem dX2_init_12 : decode cX2_init 12 = .ok (.putfield 10, 3) := by decide +kernel
theorem dX2_init_15 : decode cX2_init 15 = .ok (.aload_n 0, 1) := by decide +kernel
theorem dX2_init_16 : decode cX2_init 16 = .ok (.sipush 20000, 3) := by decide +kernel
theorem dX2_init_19 : decode cX2_init 19 = .ok (.anewarray 16, 3) := by decide +kernel
theorem dX2_init_22 : decode cX2_init 22 = .ok (.putfield 18, 3) := by decide +kernel
theorem dX2_init_25 : decode cX2_init 25 = .ok (.aload_n 0, 1) := by decide +kernel
theorem dX2_init_26 : decode cX2_init 26 = .ok (.aconst_null, 1) := by decide +kernel
theorem dX2_init_27 : decode cX2_init 27 = .ok (.putfield 22, 3) := by decide +kernel
theorem dX2_init_30 : decode cX2_init 30 = .ok (.aload_n 0, 1) := by decide +kernel
theorem dX2_init_31 : decode cX2_init 31 = .ok (.iconst 0, 1) := by decide +kernel
theorem dX2_init_32 : decode cX2_init 32 = .ok (.putfield 26, 3) := by decide +kernel
theorem dX2_init_35 : decode cX2_init 35 = .ok (.aload_n 0, 1) := by decide +kernel
theorem dX2_init_36 : decode cX2_init 36 = .ok (.iconst 0, 1) := by decide +kernel
theorem dX2_init_37 : decode cX2_init 37 = .ok (.putfield 30, 3) := by decide +kernel
theorem dX2_init_40 : decode cX2_init 40 = .ok (.return_, 1) := by decide +kernel
theorem dX2_take_0 : decode cX2_take 0 = .ok (.iload_n 1, 1) := by decide +kernel
theorem dX2_take_1 : decode cX2_take 1 = .ok (.invokestatic 33, 3) := by decide +kernel
theorem dX2_take_4 : decode cX2_take 4 = .ok (.ifCond .ne 5, 3) := by decide +kernel
theorem dX2_take_7 : decode cX2_take 7 = .ok (.iconst (-1), 1) := by decide +kernel
theorem dX2_take_8 : decode cX2_take 8 = .ok (.ireturn, 1) := by decide +kernel
theorem dX2_take_9 : decode cX2_take 9 = .ok (.aload_n 0, 1) := by decide +kernel
theorem dX2_take_10 : decode cX2_take 10 = .ok (.getfield 10, 3) := by decide +kernel
theorem dX2_take_13 : decode cX2_take 13 = .ok (.iload_n 1, 1) := by decide +kernel
theorem dX2_take_14 : decode cX2_take 14 = .ok (.invokestatic 37, 3) := by decide +kernel
theorem dX2_take_17 : decode cX2_take 17 = .ok (.invokevirtual 41, 3) := by decide +kernel
theorem dX2_take_20 : decode cX2_take 20 = .ok (.ifCond .ne 6, 3) := by decide +kernel
theorem dX2_take_23 : decode cX2_take 23 = .ok (.bipush (-2), 2) := by decide +kernel
theorem dX2_take_25 : decode cX2_take 25 = .ok (.ireturn, 1) := by decide +kernel
theorem dX2_take_26 : decode cX2_take 26 = .ok (.aload_n 0, 1) := by decide +kernel
theorem dX2_take_27 : decode cX2_take 27 = .ok (.invokevirtual 44, 3) := by decide +kernel
theorem dX2_take_30 : decode cX2_take 30 = .ok (.astore_n 2, 1) := by decide +kernel
theorem dX2_take_31 : decode cX2_take 31 = .ok (.aload_n 2, 1) := by decide +kernel
theorem dX2_take_32 : decode cX2_take 32 = .ok (.ifnonnull 6, 3) := by decide +kernel
theorem dX2_take_35 : decode cX2_take 35 = .ok (.bipush (-2), 2) := by decide +kernel
theorem dX2_take_37 : decode cX2_take 37 = .ok (.ireturn, 1) := by decide +kernel
theorem dX2_take_38 : decode cX2_take 38 = .ok (.aload_n 0, 1) := by decide +kernel
theorem dX2_take_39 : decode cX2_take 39 = .ok (.getfield 10, 3) := by decide +kernel
theorem dX2_take_42 : decode cX2_take 42 = .ok (.aload_n 2, 1) := by decide +kernel
theorem dX2_take_43 : decode cX2_take 43 = .ok (.iload_n 1, 1) := by decide +kernel
theorem dX2_take_44 : decode cX2_take 44 = .ok (.invokevirtual 48, 3) := by decide +kernel
theorem dX2_take_47 : decode cX2_take 47 = .ok (.aload_n 2, 1) := by decide +kernel
theorem dX2_take_48 : decode cX2_take 48 = .ok (.iconst 1, 1) := by decide +kernel
theorem dX2_take_49 : decode cX2_take 49 = .ok (.putfield 52, 3) := by decide +kernel
theorem dX2_take_52 : decode cX2_take 52 = .ok (.aload_n 0, 1) := by decide +kernel
theorem dX2_take_53 : decode cX2_take 53 = .ok (.dup, 1) := by decide +kernel
theorem dX2_take_54 : decode cX2_take 54 = .ok (.getfield 30, 3) := by decide +kernel
theorem dX2_take_57 : decode cX2_take 57 = .ok (.iconst 1, 1) := by decide +kernel
theorem dX2_take_58 : decode cX2_take 58 = .ok (.iadd, 1) := by decide +kernel
theorem dX2_take_59 : decode cX2_take 59 = .ok (.putfield 30, 3) := by decide +kernel
theorem dX2_take_62 : decode cX2_take 62 = .ok (.aload_n 2, 1) := by decide +kernel
theorem dX2_take_63 : decode cX2_take 63 = .ok (.getfield 56, 3) := by decide +kernel
theorem dX2_take_66 : decode cX2_take 66 = .ok (.ireturn, 1) := by decide +kernel
theorem dX2_give_0 : decode cX2_give 0 = .ok (.aload_n 0, 1) := by decide +kernel
theorem dX2_give_1 : decode cX2_give 1 = .ok (.iload_n 1, 1) := by decide +kernel
theorem dX2_give_2 : decode cX2_give 2 = .ok (.invokevirtual 59, 3) := by decide +kernel
theorem dX2_give_5 : decode cX2_give 5 = .ok (.astore_n 2, 1) := by decide +kernel
theorem dX2_give_6 : decode cX2_give 6 = .ok (.aload_n 2, 1) := by decide +kernel
theorem dX2_give_7 : decode cX2_give 7 = .ok (.ifnonnull 5, 3) := by decide +kernel
theorem dX2_give_10 : decode cX2_give 10 = .ok (.iconst 0, 1) := by decide +kernel
theorem dX2_give_11 : decode cX2_give 11 = .ok (.ireturn, 1) := by decide +kernel
theorem dX2_give_12 : decode cX2_give 12 = .ok (.aload_n 0, 1) := by decide +kernel
theorem dX2_give_13 : decode cX2_give 13 = .ok (.getfield 10, 3) := by decide +kernel
theorem dX2_give_16 : decode cX2_give 16 = .ok (.aload_n 2, 1) := by decide +kernel
theorem dX2_give_17 : decode cX2_give 17 = .ok (.invokevirtual 63, 3) := by decide +kernel
theorem dX2_give_20 : decode cX2_give 20 = .ok (.aload_n 2, 1) := by decide +kernel
theorem dX2_give_21 : decode cX2_give 21 = .ok (.iconst 0, 1) := by decide +kernel
theorem dX2_give_22 : decode cX2_give 22 = .ok (.putfield 52, 3) := by decide +kernel
theorem dX2_give_25 : decode cX2_give 25 = .ok (.aload_n 2, 1) := by decide +kernel
theorem dX2_give_26 : decode cX2_give 26 = .ok (.aload_n 0, 1) := by decide +kernel
theorem dX2_give_27 : decode cX2_give 27 = .ok (.getfield 22, 3) := by decide +kernel
theorem dX2_give_30 : decode cX2_give 30 = .ok (.putfield 67, 3) := by decide +kernel
theorem dX2_give_33 : decode cX2_give 33 = .ok (.aload_n 0, 1) := by decide +kernel
theorem dX2_give_34 : decode cX2_give 34 = .ok (.aload_n 2, 1) := by decide +kernel
theorem dX2_give_35 : decode cX2_give 35 = .ok (.putfield 22, 3) := by decide +kernel
theorem dX2_give_38 : decode cX2_give 38 = .ok (.aload_n 0, 1) := by decide +kernel
theorem dX2_give_39 : decode cX2_give 39 = .ok (.dup, 1) := by decide +kernel
theorem dX2_give_40 : decode cX2_give 40 = .ok (.getfield 30, 3) := by decide +kernel
theorem dX2_give_43 : decode cX2_give 43 = .ok (.iconst 1, 1) := by decide +kernel
theorem dX2_give_44 : decode cX2_give 44 = .ok (.isub, 1) := by decide +kernel
theorem dX2_give_45 : decode cX2_give 45 = .ok (.putfield 30, 3) := by decide +kernel
theorem dX2_give_48 : decode cX2_give 48 = .ok (.iconst 1, 1) := by decide +kernel
theorem dX2_give_49 : decode cX2_give 49 = .ok (.ireturn, 1) := by decide +kernel
theorem dX2_resize_0 : decode cX2_resize 0 = .ok (.aload_n 0, 1) := by decide +kernel
theorem dX2_resize_1 : decode cX2_resize 1 = .ok (.iload_n 1, 1) := by decide +kernel
theorem dX2_resize_2 : decode cX2_resize 2 = .ok (.invokevirtual 59, 3) := by decide +kernel
theorem dX2_resize_5 : decode cX2_resize 5 = .ok (.astore_n 3, 1) := by decide +kernel
theorem dX2_resize_6 : decode cX2_resize 6 = .ok (.aload_n 3, 1) := by decide +kernel
theorem dX2_resize_7 : decode cX2_resize 7 = .ok (.ifnull 10, 3) := by decide +kernel
theorem dX2_resize_10 : decode cX2_resize 10 = .ok (.iload_n 2, 1) := by decide +kernel
theorem dX2_resize_11 : decode cX2_resize 11 = .ok (.invokestatic 33, 3) := by decide +kernel
theorem dX2_resize_14 : decode cX2_resize 14 = .ok (.ifCond .ne 5, 3) := by decide +kernel
theorem dX2_resize_17 : decode cX2_resize 17 = .ok (.iconst (-1), 1) := by decide +kernel
theorem dX2_resize_18 : decode cX2_resize 18 = .ok (.ireturn, 1) := by decide +kernel
theorem dX2_resize_19 : decode cX2_resize 19 = .ok (.aload_n 0, 1) := by decide +kernel
theorem dX2_resize_20 : decode cX2_resize 20 = .ok (.getfield 10, 3) := by decide +kernel
theorem dX2_resize_23 : decode cX2_resize 23 = .ok (.aload_n 3, 1) := by decide +kernel
theorem dX2_resize_24 : decode cX2_resize 24 = .ok (.iload_n 2, 1) := by decide +kernel
theorem dX2_resize_25 : decode cX2_resize 25 = .ok (.invokevirtual 70, 3) := by decide +kernel
theorem dX2_resize_28 : decode cX2_resize 28 = .ok (.ifCond .eq 7, 3) := by decide +kernel
theorem dX2_resize_31 : decode cX2_resize 31 = .ok (.iload_n 2, 1) := by decide +kernel
theorem dX2_resize_32 : decode cX2_resize 32 = .ok (.goto 5, 3) := by decide +kernel
theorem dX2_resize_35 : decode cX2_resize 35 = .ok (.bipush (-2), 2) := by decide +kernel
theorem dX2_resize_37 : decode cX2_resize 37 = .ok (.ireturn, 1) := by decide +kernel
theorem dX2_put_0 : decode cX2_put 0 = .ok (.aload_n 0, 1) := by decide +kernel
theorem dX2_put_1 : decode cX2_put 1 = .ok (.iload_n 1, 1) := by decide +kernel
theorem dX2_put_2 : decode cX2_put 2 = .ok (.invokevirtual 59, 3) := by decide +kernel
theorem dX2_put_5 : decode cX2_put 5 = .ok (.astore 4, 2) := by decide +kernel
theorem dX2_put_7 : decode cX2_put 7 = .ok (.aload 4, 2) := by decide +kernel
theorem dX2_put_9 : decode cX2_put 9 = .ok (.ifnull 12, 3) := by decide +kernel
theorem dX2_put_12 : decode cX2_put 12 = .ok (.aload 4, 2) := by decide +kernel
theorem dX2_put_14 : decode cX2_put 14 = .ok (.iload_n 2, 1) := by decide +kernel
theorem dX2_put_15 : decode cX2_put 15 = .ok (.invokestatic 74, 3) := by decide +kernel
theorem dX2_put_18 : decode cX2_put 18 = .ok (.ifCond .ne 5, 3) := by decide +kernel
theorem dX2_put_21 : decode cX2_put 21 = .ok (.iconst 0, 1) := by decide +kernel
theorem dX2_put_22 : decode cX2_put 22 = .ok (.ireturn, 1) := by decide +kernel
theorem dX2_put_23 : decode cX2_put 23 = .ok (.aload_n 0, 1) := by decide +kernel
theorem dX2_put_24 : decode cX2_put 24 = .ok (.getfield 10, 3) := by decide +kernel
theorem dX2_put_27 : decode cX2_put 27 = .ok (.getfield 77, 3) := by decide +kernel
theorem dX2_put_30 : decode cX2_put 30 = .ok (.aload 4, 2) := by decide +kernel
theorem dX2_put_32 : decode cX2_put 32 = .ok (.getfield 81, 3) := by decide +kernel
theorem dX2_put_35 : decode cX2_put 35 = .ok (.iload_n 2, 1) := by decide +kernel
theorem dX2_put_36 : decode cX2_put 36 = .ok (.iadd, 1) := by decide +kernel
theorem dX2_put_37 : decode cX2_put 37 = .ok (.iload_n 3, 1) := by decide +kernel
theorem dX2_put_38 : decode cX2_put 38 = .ok (.i2b, 1) := by decide +kernel
theorem dX2_put_39 : decode cX2_put 39 = .ok (.bastore, 1) := by decide +kernel
theorem dX2_put_40 : decode cX2_put 40 = .ok (.iconst 1, 1) := by decide +kernel
theorem dX2_put_41 : decode cX2_put 41 = .ok (.ireturn, 1) := by decide +kernel
theorem dX2_fill_0 : decode cX2_fill 0 = .ok (.aload_n 0, 1) := by decide +kernel
theorem dX2_fill_1 : decode cX2_fill 1 = .ok (.iload_n 1, 1) := by decide +kernel
theorem dX2_fill_2 : decode cX2_fill 2 = .ok (.invokevirtual 59, 3) := by decide +kernel
theorem dX2_fill_5 : decode cX2_fill 5 = .ok (.astore 5, 2) := by decide +kernel
theorem dX2_fill_7 : decode cX2_fill 7 = .ok (.aload 5, 2) := by decide +kernel
theorem dX2_fill_9 : decode cX2_fill 9 = .ok (.ifnull 13, 3) := by decide +kernel
theorem dX2_fill_12 : decode cX2_fill 12 = .ok (.aload 5, 2) := by decide +kernel
theorem dX2_fill_14 : decode cX2_fill 14 = .ok (.iload_n 2, 1) := by decide +kernel
theorem dX2_fill_15 : decode cX2_fill 15 = .ok (.iload_n 3, 1) := by decide +kernel
theorem dX2_fill_16 : decode cX2_fill 16 = .ok (.invokestatic 84, 3) := by decide +kernel
theorem dX2_fill_19 : decode cX2_fill 19 = .ok (.ifCond .ne 5, 3) := by decide +kernel
theorem dX2_fill_22 : decode cX2_fill 22 = .ok (.iconst 0, 1) := by decide +kernel
theorem dX2_fill_23 : decode cX2_fill 23 = .ok (.ireturn, 1) := by decide +kernel
theorem dX2_fill_24 : decode cX2_fill 24 = .ok (.aload_n 0, 1) := by decide +kernel
theorem dX2_fill_25 : decode cX2_fill 25 = .ok (.getfield 10, 3) := by decide +kernel
theorem dX2_fill_28 : decode cX2_fill 28 = .ok (.getfield 77, 3) := by decide +kernel
theorem dX2_fill_31 : decode cX2_fill 31 = .ok (.astore 6, 2) := by decide +kernel
theorem dX2_fill_33 : decode cX2_fill 33 = .ok (.aload 5, 2) := by decide +kernel
theorem dX2_fill_35 : decode cX2_fill 35 = .ok (.getfield 81, 3) := by decide +kernel
theorem dX2_fill_38 : decode cX2_fill 38 = .ok (.iload_n 2, 1) := by decide +kernel
theorem dX2_fill_39 : decode cX2_fill 39 = .ok (.iadd, 1) := by decide +kernel
theorem dX2_fill_40 : decode cX2_fill 40 = .ok (.istore 7, 2) := by decide +kernel
theorem dX2_fill_42 : decode cX2_fill 42 = .ok (.iconst 0, 1) := by decide +kernel
theorem dX2_fill_43 : decode cX2_fill 43 = .ok (.istore 8, 2) := by decide +kernel
theorem dX2_fill_45 : decode cX2_fill 45 = .ok (.iload 8, 2) := by decide +kernel
theorem dX2_fill_47 : decode cX2_fill 47 = .ok (.iload_n 3, 1) := by decide +kernel
theorem dX2_fill_48 : decode cX2_fill 48 = .ok (.if_icmp .ge 33, 3) := by decide +kernel
theorem dX2_fill_51 : decode cX2_fill 51 = .ok (.aload 6, 2) := by decide +kernel
theorem dX2_fill_53 : decode cX2_fill 53 = .ok (.iload 7, 2) := by decide +kernel
theorem dX2_fill_55 : decode cX2_fill 55 = .ok (.iload 8, 2) := by decide +kernel
theorem dX2_fill_57 : decode cX2_fill 57 = .ok (.iadd, 1) := by decide +kernel
theorem dX2_fill_58 : decode cX2_fill 58 = .ok (.iload 4, 2) := by decide +kernel
theorem dX2_fill_60 : decode cX2_fill 60 = .ok (.bipush 7, 2) := by decide +kernel
theorem dX2_fill_62 : decode cX2_fill 62 = .ok (.iload 8, 2) := by decide +kernel
theorem dX2_fill_64 : decode cX2_fill 64 = .ok (.imul, 1) := by decide +kernel
theorem dX2_fill_65 : decode cX2_fill 65 = .ok (.iadd, 1) := by decide +kernel
theorem dX2_fill_66 : decode cX2_fill 66 = .ok (.iload 8, 2) := by decide +kernel
theorem dX2_fill_68 : decode cX2_fill 68 = .ok (.sipush 250, 3) := by decide +kernel
theorem dX2_fill_71 : decode cX2_fill 71 = .ok (.idiv, 1) := by decide +kernel
theorem dX2_fill_72 : decode cX2_fill 72 = .ok (.iadd, 1) := by decide +kernel
theorem dX2_fill_73 : decode cX2_fill 73 = .ok (.i2b, 1) := by decide +kernel
theorem dX2_fill_74 : decode cX2_fill 74 = .ok (.bastore, 1) := by decide +kernel
theorem dX2_fill_75 : decode cX2_fill 75 = .ok (.iinc 8 1, 3) := by decide +kernel
theorem dX2_fill_78 : decode cX2_fill 78 = .ok (.goto (-33), 3) := by decide +kernel
theorem dX2_fill_81 : decode cX2_fill 81 = .ok (.iconst 1, 1) := by decide +kernel
theorem dX2_fill_82 : decode cX2_fill 82 = .ok (.ireturn, 1) := by decide +kernel
theorem dX2_copy_0 : decode cX2_copy 0 = .ok (.aload_n 0, 1) := by decide +kernel
theorem dX2_copy_1 : decode cX2_copy 1 = .ok (.iload_n 1, 1) := by decide +kernel
theorem dX2_copy_2 : decode cX2_copy 2 = .ok (.invokevirtual 59, 3) := by decide +kernel
theorem dX2_copy_5 : decode cX2_copy 5 = .ok (.astore_n 3, 1) := by decide +kernel
theorem dX2_copy_6 : decode cX2_copy 6 = .ok (.aload_n 0, 1) := by decide +kernel
theorem dX2_copy_7 : decode cX2_copy 7 = .ok (.iload_n 2, 1) := by decide +kernel
theorem dX2_copy_8 : decode cX2_copy 8 = .ok (.invokevirtual 59, 3) := by decide +kernel
theorem dX2_copy_11 : decode cX2_copy 11 = .ok (.astore 4, 2) := by decide +kernel
theorem dX2_copy_13 : decode cX2_copy 13 = .ok (.aload_n 3, 1) := by decide +kernel
theorem dX2_copy_14 : decode cX2_copy 14 = .ok (.ifnull 8, 3) := by decide +kernel
theorem dX2_copy_17 : decode cX2_copy 17 = .ok (.aload 4, 2) := by decide +kernel
theorem dX2_copy_19 : decode cX2_copy 19 = .ok (.ifnonnull 5, 3) := by decide +kernel
theorem dX2_copy_22 : decode cX2_copy 22 = .ok (.iconst (-1), 1) := by decide +kernel
theorem dX2_copy_23 : decode cX2_copy 23 = .ok (.ireturn, 1) := by decide +kernel
theorem dX2_copy_24 : decode cX2_copy 24 = .ok (.aload_n 0, 1) := by decide +kernel
theorem dX2_copy_25 : decode cX2_copy 25 = .ok (.getfield 10, 3) := by decide +kernel
theorem dX2_copy_28 : decode cX2_copy 28 = .ok (.aload_n 3, 1) := by decide +kernel
theorem dX2_copy_29 : decode cX2_copy 29 = .ok (.aload 4, 2) := by decide +kernel
theorem dX2_copy_31 : decode cX2_copy 31 = .ok (.getfield 88, 3) := by decide +kernel
theorem dX2_copy_34 : decode cX2_copy 34 = .ok (.invokevirtual 70, 3) := by decide +kernel
theorem dX2_copy_37 : decode cX2_copy 37 = .ok (.ifCond .ne 6, 3) := by decide +kernel
theorem dX2_copy_40 : decode cX2_copy 40 = .ok (.bipush (-2), 2) := by decide +kernel
theorem dX2_copy_42 : decode cX2_copy 42 = .ok (.ireturn, 1) := by decide +kernel
theorem dX2_copy_43 : decode cX2_copy 43 = .ok (.aload_n 0, 1) := by decide +kernel
theorem dX2_copy_44 : decode cX2_copy 44 = .ok (.getfield 10, 3) := by decide +kernel
theorem dX2_copy_47 : decode cX2_copy 47 = .ok (.getfield 77, 3) := by decide +kernel
theorem dX2_copy_50 : decode cX2_copy 50 = .ok (.aload 4, 2) := by decide +kernel
theorem dX2_copy_52 : decode cX2_copy 52 = .ok (.getfield 81, 3) := by decide +kernel
theorem dX2_copy_55 : decode cX2_copy 55 = .ok (.aload_n 0, 1) := by decide +kernel
theorem dX2_copy_56 : decode cX2_copy 56 = .ok (.getfield 10, 3) := by decide +kernel
theorem dX2_copy_59 : decode cX2_copy 59 = .ok (.getfield 77, 3) := by decide +kernel
theorem dX2_copy_62 : decode cX2_copy 62 = .ok (.aload_n 3, 1) := by decide +kernel
theorem dX2_copy_63 : decode cX2_copy 63 = .ok (.getfield 81, 3) := by decide +kernel
theorem dX2_copy_66 : decode cX2_copy 66 = .ok (.aload 4, 2) := by decide +kernel
theorem dX2_copy_68 : decode cX2_copy 68 = .ok (.getfield 88, 3) := by decide +kernel
theorem dX2_copy_71 : decode cX2_copy 71 = .ok (.invokestatic 91, 3) := by decide +kernel
theorem dX2_copy_74 : decode cX2_copy 74 = .ok (.aload 4, 2) := by decide +kernel
theorem dX2_copy_76 : decode cX2_copy 76 = .ok (.getfield 88, 3) := by decide +kernel
theorem dX2_copy_79 : decode cX2_copy 79 = .ok (.ireturn, 1) := by decide +kernel
theorem dX2_get_0 : decode cX2_get 0 = .ok (.aload_n 0, 1) := by decide +kernel
theorem dX2_get_1 : decode cX2_get 1 = .ok (.iload_n 1, 1) := by decide +kernel
theorem dX2_get_2 : decode cX2_get 2 = .ok (.invokevirtual 59, 3) := by decide +kernel
theorem dX2_get_5 : decode cX2_get 5 = .ok (.astore_n 3, 1) := by decide +kernel
theorem dX2_get_6 : decode cX2_get 6 = .ok (.aload_n 3, 1) := by decide +kernel
theorem dX2_get_7 : decode cX2_get 7 = .ok (.ifnull 11, 3) := by decide +kernel
theorem dX2_get_10 : decode cX2_get 10 = .ok (.aload_n 3, 1) := by decide +kernel
theorem dX2_get_11 : decode cX2_get 11 = .ok (.iload_n 2, 1) := by decide +kernel
theorem dX2_get_12 : decode cX2_get 12 = .ok (.invokestatic 74, 3) := by decide +kernel
theorem dX2_get_15 : decode cX2_get 15 = .ok (.ifCond .ne 5, 3) := by decide +kernel
theorem dX2_get_18 : decode cX2_get 18 = .ok (.iconst (-1), 1) := by decide +kernel
theorem dX2_get_19 : decode cX2_get 19 = .ok (.ireturn, 1) := by decide +kernel
theorem dX2_get_20 : decode cX2_get 20 = .ok (.aload_n 0, 1) := by decide +kernel
theorem dX2_get_21 : decode cX2_get 21 = .ok (.getfield 10, 3) := by decide +kernel
theorem dX2_get_24 : decode cX2_get 24 = .ok (.getfield 77, 3) := by decide +kernel
theorem dX2_get_27 : decode cX2_get 27 = .ok (.aload_n 3, 1) := by decide +kernel
theorem dX2_get_28 : decode cX2_get 28 = .ok (.getfield 81, 3) := by decide +kernel
theorem dX2_get_31 : decode cX2_get 31 = .ok (.iload_n 2, 1) := by decide +kernel
theorem dX2_get_32 : decode cX2_get 32 = .ok (.iadd, 1) := by decide +kernel
theorem dX2_get_33 : decode cX2_get 33 = .ok (.baload, 1) := by decide +kernel
theorem dX2_get_34 : decode cX2_get 34 = .ok (.sipush 255, 3) := by decide +kernel
theorem dX2_get_37 : decode cX2_get 37 = .ok (.iand, 1) := by decide +kernel
theorem dX2_get_38 : decode cX2_get 38 = .ok (.ireturn, 1) := by decide +kernel
theorem dX2_size_0 : decode cX2_size 0 = .ok (.aload_n 0, 1) := by decide +kernel
theorem dX2_size_1 : decode cX2_size 1 = .ok (.iload_n 1, 1) := by decide +kernel
theorem dX2_size_2 : decode cX2_size 2 = .ok (.invokevirtual 59, 3) := by decide +kernel
theorem dX2_size_5 : decode cX2_size 5 = .ok (.astore_n 2, 1) := by decide +kernel
theorem dX2_size_6 : decode cX2_size 6 = .ok (.aload_n 2, 1) := by decide +kernel
theorem dX2_size_7 : decode cX2_size 7 = .ok (.ifnonnull 7, 3) := by decide +kernel
theorem dX2_size_10 : decode cX2_size 10 = .ok (.iconst (-1), 1) := by decide +kernel
theorem dX2_size_11 : decode cX2_size 11 = .ok (.goto 7, 3) := by decide +kernel
theorem dX2_size_14 : decode cX2_size 14 = .ok (.aload_n 2, 1) := by decide +kernel
theorem dX2_size_15 : decode cX2_size 15 = .ok (.getfield 88, 3) := by decide +kernel
theorem dX2_size_18 : decode cX2_size 18 = .ok (.ireturn, 1) := by decide +kernel
theorem dX2_compare_0 : decode cX2_compare 0 = .ok (.aload_n 0, 1) := by decide +kernel
theorem dX2_compare_1 : decode cX2_compare 1 = .ok (.iload_n 1, 1) := by decide +kernel
theorem dX2_compare_2 : decode cX2_compare 2 = .ok (.invokevirtual 59, 3) := by decide +kernel
theorem dX2_compare_5 : decode cX2_compare 5 = .ok (.astore_n 3, 1) := by decide +kernel
theorem dX2_compare_6 : decode cX2_compare 6 = .ok (.aload_n 0, 1) := by decide +kernel
theorem dX2_compare_7 : decode cX2_compare 7 = .ok (.iload_n 2, 1) := by decide +kernel
theorem dX2_compare_8 : decode cX2_compare 8 = .ok (.invokevirtual 59, 3) := by decide +kernel
theorem dX2_compare_11 : decode cX2_compare 11 = .ok (.astore 4, 2) := by decide +kernel
theorem dX2_compare_13 : decode cX2_compare 13 = .ok (.aload_n 3, 1) := by decide +kernel
theorem dX2_compare_14 : decode cX2_compare 14 = .ok (.ifnull 8, 3) := by decide +kernel
theorem dX2_compare_17 : decode cX2_compare 17 = .ok (.aload 4, 2) := by decide +kernel
theorem dX2_compare_19 : decode cX2_compare 19 = .ok (.ifnonnull 6, 3) := by decide +kernel
theorem dX2_compare_22 : decode cX2_compare 22 = .ok (.bipush (-2), 2) := by decide +kernel
theorem dX2_compare_24 : decode cX2_compare 24 = .ok (.ireturn, 1) := by decide +kernel
theorem dX2_compare_25 : decode cX2_compare 25 = .ok (.aload_n 0, 1) := by decide +kernel
theorem dX2_compare_26 : decode cX2_compare 26 = .ok (.getfield 10, 3) := by decide +kernel
theorem dX2_compare_29 : decode cX2_compare 29 = .ok (.getfield 77, 3) := by decide +kernel
theorem dX2_compare_32 : decode cX2_compare 32 = .ok (.astore 5, 2) := by decide +kernel
theorem dX2_compare_34 : decode cX2_compare 34 = .ok (.aload_n 3, 1) := by decide +kernel
theorem dX2_compare_35 : decode cX2_compare 35 = .ok (.getfield 81, 3) := by decide +kernel
theorem dX2_compare_38 : decode cX2_compare 38 = .ok (.istore 6, 2) := by decide +kernel
theorem dX2_compare_40 : decode cX2_compare 40 = .ok (.aload 4, 2) := by decide +kernel
theorem dX2_compare_42 : decode cX2_compare 42 = .ok (.getfield 81, 3) := by decide +kernel
theorem dX2_compare_45 : decode cX2_compare 45 = .ok (.istore 7, 2) := by decide +kernel
theorem dX2_compare_47 : decode cX2_compare 47 = .ok (.aload_n 3, 1) := by decide +kernel
theorem dX2_compare_48 : decode cX2_compare 48 = .ok (.getfield 88, 3) := by decide +kernel
theorem dX2_compare_51 : decode cX2_compare 51 = .ok (.aload 4, 2) := by decide +kernel
theorem dX2_compare_53 : decode cX2_compare 53 = .ok (.getfield 88, 3) := by decide +kernel
theorem dX2_compare_56 : decode cX2_compare 56 = .ok (.invokestatic 97, 3) := by decide +kernel
theorem dX2_compare_59 : decode cX2_compare 59 = .ok (.istore 8, 2) := by decide +kernel
theorem dX2_compare_61 : decode cX2_compare 61 = .ok (.iconst 0, 1) := by decide +kernel
theorem dX2_compare_62 : decode cX2_compare 62 = .ok (.istore 9, 2) := by decide +kernel
theorem dX2_compare_64 : decode cX2_compare 64 = .ok (.iload 9, 2) := by decide +kernel
theorem dX2_compare_66 : decode cX2_compare 66 = .ok (.iload 8, 2) := by decide +kernel
theorem dX2_compare_68 : decode cX2_compare 68 = .ok (.if_icmp .ge 56, 3) := by decide +kernel
theorem dX2_compare_71 : decode cX2_compare 71 = .ok (.aload 5, 2) := by decide +kernel
theorem dX2_compare_73 : decode cX2_compare 73 = .ok (.iload 6, 2) := by decide +kernel
theorem dX2_compare_75 : decode cX2_compare 75 = .ok (.iload 9, 2) := by decide +kernel
theorem dX2_compare_77 : decode cX2_compare 77 = .ok (.iadd, 1) := by decide +kernel
theorem dX2_compare_78 : decode cX2_compare 78 = .ok (.baload, 1) := by decide +kernel
theorem dX2_compare_79 : decode cX2_compare 79 = .ok (.aload 5, 2) := by decide +kernel
theorem dX2_compare_81 : decode cX2_compare 81 = .ok (.iload 7, 2) := by decide +kernel
theorem dX2_compare_83 : decode cX2_compare 83 = .ok (.iload 9, 2) := by decide +kernel
theorem dX2_compare_85 : decode cX2_compare 85 = .ok (.iadd, 1) := by decide +kernel
theorem dX2_compare_86 : decode cX2_compare 86 = .ok (.baload, 1) := by decide +kernel
theorem dX2_compare_87 : decode cX2_compare 87 = .ok (.if_icmp .eq 31, 3) := by decide +kernel
theorem dX2_compare_90 : decode cX2_compare 90 = .ok (.aload 5, 2) := by decide +kernel
theorem dX2_compare_92 : decode cX2_compare 92 = .ok (.iload 6, 2) := by decide +kernel
theorem dX2_compare_94 : decode cX2_compare 94 = .ok (.iload 9, 2) := by decide +kernel
theorem dX2_compare_96 : decode cX2_compare 96 = .ok (.iadd, 1) := by decide +kernel
theorem dX2_compare_97 : decode cX2_compare 97 = .ok (.baload, 1) := by decide +kernel
theorem dX2_compare_98 : decode cX2_compare 98 = .ok (.sipush 255, 3) := by decide +kernel
theorem dX2_compare_101 : decode cX2_compare 101 = .ok (.iand, 1) := by decide +kernel
theorem dX2_compare_102 : decode cX2_compare 102 = .ok (.aload 5, 2) := by decide +kernel
theorem dX2_compare_104 : decode cX2_compare 104 = .ok (.iload 7, 2) := by decide +kernel
theorem dX2_compare_106 : decode cX2_compare 106 = .ok (.iload 9, 2) := by decide +kernel
theorem dX2_compare_108 : decode cX2_compare 108 = .ok (.iadd, 1) := by decide +kernel
theorem dX2_compare_109 : decode cX2_compare 109 = .ok (.baload, 1) := by decide +kernel
theorem dX2_compare_110 : decode cX2_compare 110 = .ok (.sipush 255, 3) := by decide +kernel
theorem dX2_compare_113 : decode cX2_compare 113 = .ok (.iand, 1) := by decide +kernel
theorem dX2_compare_114 : decode cX2_compare 114 = .ok (.invokestatic 103, 3) := by decide +kernel
theorem dX2_compare_117 : decode cX2_compare 117 = .ok (.ireturn, 1) := by decide +kernel
theorem dX2_compare_118 : decode cX2_compare 118 = .ok (.iinc 9 1, 3) := by decide +kernel
theorem dX2_compare_121 : decode cX2_compare 121 = .ok (.goto (-57), 3) := by decide +kernel
theorem dX2_compare_124 : decode cX2_compare 124 = .ok (.aload_n 3, 1) := by decide +kernel
theorem dX2_compare_125 : decode cX2_compare 125 = .ok (.getfield 88, 3) := by decide +kernel
theorem dX2_compare_128 : decode cX2_compare 128 = .ok (.aload 4, 2) := by decide +kernel
theorem dX2_compare_130 : decode cX2_compare 130 = .ok (.getfield 88, 3) := by decide +kernel
theorem dX2_compare_133 : decode cX2_compare 133 = .ok (.invokestatic 103, 3) := by decide +kernel
theorem dX2_compare_136 : decode cX2_compare 136 = .ok (.ireturn, 1) := by decide +kernel
theorem dX2_sum_0 : decode cX2_sum 0 = .ok (.aload_n 0, 1) := by decide +kernel
theorem dX2_sum_1 : decode cX2_sum 1 = .ok (.iload_n 1, 1) := by decide +kernel
theorem dX2_sum_2 : decode cX2_sum 2 = .ok (.invokevirtual 59, 3) := by decide +kernel
theorem dX2_sum_5 : decode cX2_sum 5 = .ok (.astore_n 2, 1) := by decide +kernel
theorem dX2_sum_6 : decode cX2_sum 6 = .ok (.aload_n 2, 1) := by decide +kernel
theorem dX2_sum_7 : decode cX2_sum 7 = .ok (.ifnonnull 5, 3) := by decide +kernel
theorem dX2_sum_10 : decode cX2_sum 10 = .ok (.iconst 0, 1) := by decide +kernel
theorem dX2_sum_11 : decode cX2_sum 11 = .ok (.ireturn, 1) := by decide +kernel
theorem dX2_sum_12 : decode cX2_sum 12 = .ok (.aload_n 0, 1) := by decide +kernel
theorem dX2_sum_13 : decode cX2_sum 13 = .ok (.getfield 10, 3) := by decide +kernel
theorem dX2_sum_16 : decode cX2_sum 16 = .ok (.getfield 77, 3) := by decide +kernel
theorem dX2_sum_19 : decode cX2_sum 19 = .ok (.astore_n 3, 1) := by decide +kernel
theorem dX2_sum_20 : decode cX2_sum 20 = .ok (.aload_n 2, 1) := by decide +kernel
theorem dX2_sum_21 : decode cX2_sum 21 = .ok (.getfield 81, 3) := by decide +kernel
theorem dX2_sum_24 : decode cX2_sum 24 = .ok (.aload_n 2, 1) := by decide +kernel
theorem dX2_sum_25 : decode cX2_sum 25 = .ok (.getfield 88, 3) := by decide +kernel
theorem dX2_sum_28 : decode cX2_sum 28 = .ok (.iadd, 1) := by decide +kernel
theorem dX2_sum_29 : decode cX2_sum 29 = .ok (.istore 4, 2) := by decide +kernel
theorem dX2_sum_31 : decode cX2_sum 31 = .ok (.bipush 7, 2) := by decide +kernel
theorem dX2_sum_33 : decode cX2_sum 33 = .ok (.istore 5, 2) := by decide +kernel
theorem dX2_sum_35 : decode cX2_sum 35 = .ok (.aload_n 2, 1) := by decide +kernel
theorem dX2_sum_36 : decode cX2_sum 36 = .ok (.getfield 81, 3) := by decide +kernel
end
section
theorem dX2_sum_39 : decode cX2_sum 39 = .ok (.istore 6, 2) := by decide +kernel
theorem dX2_sum_41 : decode cX2_sum 41 = .ok (.iload 6, 2) := by decide +kernel
theorem dX2_sum_43 : decode cX2_sum 43 = .ok (.iload 4, 2) := by decide +kernel
theorem dX2_sum_45 : decode cX2_sum 45 = .ok (.if_icmp .ge 25, 3) := by decide +kernel
theorem dX2_sum_48 : decode cX2_sum 48 = .ok (.bipush 31, 2) := by decide +kernel
theorem dX2_sum_50 : decode cX2_sum 50 = .ok (.iload 5, 2) := by decide +kernel
theorem dX2_sum_52 : decode cX2_sum 52 = .ok (.imul, 1) := by decide +kernel
theorem dX2_sum_53 : decode cX2_sum 53 = .ok (.aload_n 3, 1) := by decide +kernel
theorem dX2_sum_54 : decode cX2_sum 54 = .ok (.iload 6, 2) := by decide +kernel
theorem dX2_sum_56 : decode cX2_sum 56 = .ok (.baload, 1) := by decide +kernel
theorem dX2_sum_57 : decode cX2_sum 57 = .ok (.sipush 255, 3) := by decide +kernel
theorem dX2_sum_60 : decode cX2_sum 60 = .ok (.iand, 1) := by decide +kernel
theorem dX2_sum_61 : decode cX2_sum 61 = .ok (.iadd, 1) := by decide +kernel
theorem dX2_sum_62 : decode cX2_sum 62 = .ok (.istore 5, 2) := by decide +kernel
theorem dX2_sum_64 : decode cX2_sum 64 = .ok (.iinc 6 1, 3) := by decide +kernel
theorem dX2_sum_67 : decode cX2_sum 67 = .ok (.goto (-26), 3) := by decide +kernel
theorem dX2_sum_70 : decode cX2_sum 70 = .ok (.iload 5, 2) := by decide +kernel
theorem dX2_sum_72 : decode cX2_sum 72 = .ok (.ireturn, 1) := by decide +kernel
theorem dX2_rows_0 : decode cX2_rows 0 = .ok (.aload_n 0, 1) := by decide +kernel
theorem dX2_rows_1 : decode cX2_rows 1 = .ok (.getfield 30, 3) := by decide +kernel
theorem dX2_rows_4 : decode cX2_rows 4 = .ok (.ireturn, 1) := by decide +kernel
theorem dX2_places_0 : decode cX2_places 0 = .ok (.aload_n 0, 1) := by decide +kernel
theorem dX2_places_1 : decode cX2_places 1 = .ok (.getfield 10, 3) := by decide +kernel
theorem dX2_places_4 : decode cX2_places 4 = .ok (.getfield 106, 3) := by decide +kernel
theorem dX2_places_7 : decode cX2_places 7 = .ok (.ireturn, 1) := by decide +kernel
theorem dX2_find_0 : decode cX2_find 0 = .ok (.iload_n 1, 1) := by decide +kernel
theorem dX2_find_1 : decode cX2_find 1 = .ok (.ifCond .lt 11, 3) := by decide +kernel
theorem dX2_find_4 : decode cX2_find 4 = .ok (.iload_n 1, 1) := by decide +kernel
theorem dX2_find_5 : decode cX2_find 5 = .ok (.aload_n 0, 1) := by decide +kernel
theorem dX2_find_6 : decode cX2_find 6 = .ok (.getfield 26, 3) := by decide +kernel
theorem dX2_find_9 : decode cX2_find 9 = .ok (.if_icmp .lt 5, 3) := by decide +kernel
theorem dX2_find_12 : decode cX2_find 12 = .ok (.aconst_null, 1) := by decide +kernel
theorem dX2_find_13 : decode cX2_find 13 = .ok (.areturn, 1) := by decide +kernel
theorem dX2_find_14 : decode cX2_find 14 = .ok (.aload_n 0, 1) := by decide +kernel
theorem dX2_find_15 : decode cX2_find 15 = .ok (.getfield 18, 3) := by decide +kernel
theorem dX2_find_18 : decode cX2_find 18 = .ok (.iload_n 1, 1) := by decide +kernel
theorem dX2_find_19 : decode cX2_find 19 = .ok (.aaload, 1) := by decide +kernel
theorem dX2_find_20 : decode cX2_find 20 = .ok (.astore_n 2, 1) := by decide +kernel
theorem dX2_find_21 : decode cX2_find 21 = .ok (.aload_n 2, 1) := by decide +kernel
theorem dX2_find_22 : decode cX2_find 22 = .ok (.ifnull 14, 3) := by decide +kernel
theorem dX2_find_25 : decode cX2_find 25 = .ok (.aload_n 2, 1) := by decide +kernel
theorem dX2_find_26 : decode cX2_find 26 = .ok (.getfield 52, 3) := by decide +kernel
theorem dX2_find_29 : decode cX2_find 29 = .ok (.ifCond .eq 7, 3) := by decide +kernel
theorem dX2_find_32 : decode cX2_find 32 = .ok (.aload_n 2, 1) := by decide +kernel
theorem dX2_find_33 : decode cX2_find 33 = .ok (.goto 4, 3) := by decide +kernel
theorem dX2_find_36 : decode cX2_find 36 = .ok (.aconst_null, 1) := by decide +kernel
theorem dX2_find_37 : decode cX2_find 37 = .ok (.areturn, 1) := by decide +kernel
theorem dX2_nextRow_0 : decode cX2_nextRow 0 = .ok (.aload_n 0, 1) := by decide +kernel
theorem dX2_nextRow_1 : decode cX2_nextRow 1 = .ok (.getfield 22, 3) := by decide +kernel
theorem dX2_nextRow_4 : decode cX2_nextRow 4 = .ok (.ifnull 18, 3) := by decide +kernel
theorem dX2_nextRow_7 : decode cX2_nextRow 7 = .ok (.aload_n 0, 1) := by decide +kernel
theorem dX2_nextRow_8 : decode cX2_nextRow 8 = .ok (.getfield 22, 3) := by decide +kernel
theorem dX2_nextRow_11 : decode cX2_nextRow 11 = .ok (.astore_n 1, 1) := by decide +kernel
theorem dX2_nextRow_12 : decode cX2_nextRow 12 = .ok (.aload_n 0, 1) := by decide +kernel
theorem dX2_nextRow_13 : decode cX2_nextRow 13 = .ok (.aload_n 1, 1) := by decide +kernel
theorem dX2_nextRow_14 : decode cX2_nextRow 14 = .ok (.getfield 67, 3) := by decide +kernel
theorem dX2_nextRow_17 : decode cX2_nextRow 17 = .ok (.putfield 22, 3) := by decide +kernel
theorem dX2_nextRow_20 : decode cX2_nextRow 20 = .ok (.aload_n 1, 1) := by decide +kernel
theorem dX2_nextRow_21 : decode cX2_nextRow 21 = .ok (.areturn, 1) := by decide +kernel
theorem dX2_nextRow_22 : decode cX2_nextRow 22 = .ok (.aload_n 0, 1) := by decide +kernel
theorem dX2_nextRow_23 : decode cX2_nextRow 23 = .ok (.getfield 26, 3) := by decide +kernel
theorem dX2_nextRow_26 : decode cX2_nextRow 26 = .ok (.sipush 20000, 3) := by decide +kernel
theorem dX2_nextRow_29 : decode cX2_nextRow 29 = .ok (.if_icmp .lt 5, 3) := by decide +kernel
theorem dX2_nextRow_32 : decode cX2_nextRow 32 = .ok (.aconst_null, 1) := by decide +kernel
theorem dX2_nextRow_33 : decode cX2_nextRow 33 = .ok (.areturn, 1) := by decide +kernel
theorem dX2_nextRow_34 : decode cX2_nextRow 34 = .ok (.new 16, 3) := by decide +kernel
theorem dX2_nextRow_37 : decode cX2_nextRow 37 = .ok (.dup, 1) := by decide +kernel
theorem dX2_nextRow_38 : decode cX2_nextRow 38 = .ok (.aload_n 0, 1) := by decide +kernel
theorem dX2_nextRow_39 : decode cX2_nextRow 39 = .ok (.getfield 26, 3) := by decide +kernel
theorem dX2_nextRow_42 : decode cX2_nextRow 42 = .ok (.invokespecial 109, 3) := by decide +kernel
theorem dX2_nextRow_45 : decode cX2_nextRow 45 = .ok (.astore_n 1, 1) := by decide +kernel
theorem dX2_nextRow_46 : decode cX2_nextRow 46 = .ok (.aload_n 0, 1) := by decide +kernel
theorem dX2_nextRow_47 : decode cX2_nextRow 47 = .ok (.getfield 18, 3) := by decide +kernel
theorem dX2_nextRow_50 : decode cX2_nextRow 50 = .ok (.aload_n 0, 1) := by decide +kernel
theorem dX2_nextRow_51 : decode cX2_nextRow 51 = .ok (.getfield 26, 3) := by decide +kernel
theorem dX2_nextRow_54 : decode cX2_nextRow 54 = .ok (.aload_n 1, 1) := by decide +kernel
theorem dX2_nextRow_55 : decode cX2_nextRow 55 = .ok (.aastore, 1) := by decide +kernel
theorem dX2_nextRow_56 : decode cX2_nextRow 56 = .ok (.aload_n 0, 1) := by decide +kernel
theorem dX2_nextRow_57 : decode cX2_nextRow 57 = .ok (.dup, 1) := by decide +kernel
theorem dX2_nextRow_58 : decode cX2_nextRow 58 = .ok (.getfield 26, 3) := by decide +kernel
theorem dX2_nextRow_61 : decode cX2_nextRow 61 = .ok (.iconst 1, 1) := by decide +kernel
theorem dX2_nextRow_62 : decode cX2_nextRow 62 = .ok (.iadd, 1) := by decide +kernel
theorem dX2_nextRow_63 : decode cX2_nextRow 63 = .ok (.putfield 26, 3) := by decide +kernel
theorem dX2_nextRow_66 : decode cX2_nextRow 66 = .ok (.aload_n 1, 1) := by decide +kernel
theorem dX2_nextRow_67 : decode cX2_nextRow 67 = .ok (.areturn, 1) := by decide +kernel
theorem dX2_isLength_0 : decode cX2_isLength 0 = .ok (.iload_n 0, 1) := by decide +kernel
theorem dX2_isLength_1 : decode cX2_isLength 1 = .ok (.ifCond .lt 14, 3) := by decide +kernel
theorem dX2_isLength_4 : decode cX2_isLength 4 = .ok (.iload_n 0, 1) := by decide +kernel
theorem dX2_isLength_5 : decode cX2_isLength 5 = .ok (.sipush 16384, 3) := by decide +kernel
theorem dX2_isLength_8 : decode cX2_isLength 8 = .ok (.if_icmp .gt 7, 3) := by decide +kernel
theorem dX2_isLength_11 : decode cX2_isLength 11 = .ok (.iconst 1, 1) := by decide +kernel
theorem dX2_isLength_12 : decode cX2_isLength 12 = .ok (.goto 4, 3) := by decide +kernel
theorem dX2_isLength_15 : decode cX2_isLength 15 = .ok (.iconst 0, 1) := by decide +kernel
theorem dX2_isLength_16 : decode cX2_isLength 16 = .ok (.ireturn, 1) := by decide +kernel
theorem dX2_hasByte_0 : decode cX2_hasByte 0 = .ok (.iload_n 1, 1) := by decide +kernel
theorem dX2_hasByte_1 : decode cX2_hasByte 1 = .ok (.ifCond .lt 15, 3) := by decide +kernel
theorem dX2_hasByte_4 : decode cX2_hasByte 4 = .ok (.iload_n 1, 1) := by decide +kernel
theorem dX2_hasByte_5 : decode cX2_hasByte 5 = .ok (.aload_n 0, 1) := by decide +kernel
theorem dX2_hasByte_6 : decode cX2_hasByte 6 = .ok (.getfield 88, 3) := by decide +kernel
theorem dX2_hasByte_9 : decode cX2_hasByte 9 = .ok (.if_icmp .ge 7, 3) := by decide +kernel
theorem dX2_hasByte_12 : decode cX2_hasByte 12 = .ok (.iconst 1, 1) := by decide +kernel
theorem dX2_hasByte_13 : decode cX2_hasByte 13 = .ok (.goto 4, 3) := by decide +kernel
theorem dX2_hasByte_16 : decode cX2_hasByte 16 = .ok (.iconst 0, 1) := by decide +kernel
theorem dX2_hasByte_17 : decode cX2_hasByte 17 = .ok (.ireturn, 1) := by decide +kernel
theorem dX2_hasBytes_0 : decode cX2_hasBytes 0 = .ok (.iload_n 1, 1) := by decide +kernel
theorem dX2_hasBytes_1 : decode cX2_hasBytes 1 = .ok (.ifCond .lt 21, 3) := by decide +kernel
theorem dX2_hasBytes_4 : decode cX2_hasBytes 4 = .ok (.iload_n 2, 1) := by decide +kernel
theorem dX2_hasBytes_5 : decode cX2_hasBytes 5 = .ok (.ifCond .lt 17, 3) := by decide +kernel
theorem dX2_hasBytes_8 : decode cX2_hasBytes 8 = .ok (.iload_n 1, 1) := by decide +kernel
theorem dX2_hasBytes_9 : decode cX2_hasBytes 9 = .ok (.aload_n 0, 1) := by decide +kernel
theorem dX2_hasBytes_10 : decode cX2_hasBytes 10 = .ok (.getfield 88, 3) := by decide +kernel
theorem dX2_hasBytes_13 : decode cX2_hasBytes 13 = .ok (.iload_n 2, 1) := by decide +kernel
theorem dX2_hasBytes_14 : decode cX2_hasBytes 14 = .ok (.isub, 1) := by decide +kernel
theorem dX2_hasBytes_15 : decode cX2_hasBytes 15 = .ok (.if_icmp .gt 7, 3) := by decide +kernel
theorem dX2_hasBytes_18 : decode cX2_hasBytes 18 = .ok (.iconst 1, 1) := by decide +kernel
theorem dX2_hasBytes_19 : decode cX2_hasBytes 19 = .ok (.goto 4, 3) := by decide +kernel
theorem dX2_hasBytes_22 : decode cX2_hasBytes 22 = .ok (.iconst 0, 1) := by decide +kernel
theorem dX2_hasBytes_23 : decode cX2_hasBytes 23 = .ok (.ireturn, 1) := by decide +kernel
theorem dX2_order_0 : decode cX2_order 0 = .ok (.iload_n 0, 1) := by decide +kernel
theorem dX2_order_1 : decode cX2_order 1 = .ok (.iload_n 1, 1) := by decide +kernel
theorem dX2_order_2 : decode cX2_order 2 = .ok (.if_icmp .ne 5, 3) := by decide +kernel
theorem dX2_order_5 : decode cX2_order 5 = .ok (.iconst 0, 1) := by decide +kernel
theorem dX2_order_6 : decode cX2_order 6 = .ok (.ireturn, 1) := by decide +kernel
theorem dX2_order_7 : decode cX2_order 7 = .ok (.iload_n 0, 1) := by decide +kernel
theorem dX2_order_8 : decode cX2_order 8 = .ok (.iload_n 1, 1) := by decide +kernel
theorem dX2_order_9 : decode cX2_order 9 = .ok (.if_icmp .ge 7, 3) := by decide +kernel
theorem dX2_order_12 : decode cX2_order 12 = .ok (.iconst (-1), 1) := by decide +kernel
theorem dX2_order_13 : decode cX2_order 13 = .ok (.goto 4, 3) := by decide +kernel
theorem dX2_order_16 : decode cX2_order 16 = .ok (.iconst 1, 1) := by decide +kernel
theorem dX2_order_17 : decode cX2_order 17 = .ok (.ireturn, 1) := by decide +kernel
theorem dX2_placesFor_0 : decode cX2_placesFor 0 = .ok (.iload_n 0, 1) := by decide +kernel
theorem dX2_placesFor_1 : decode cX2_placesFor 1 = .ok (.bipush 8, 2) := by decide +kernel
theorem dX2_placesFor_3 : decode cX2_placesFor 3 = .ok (.iadd, 1) := by decide +kernel
theorem dX2_placesFor_4 : decode cX2_placesFor 4 = .ok (.iconst 1, 1) := by decide +kernel
theorem dX2_placesFor_5 : decode cX2_placesFor 5 = .ok (.isub, 1) := by decide +kernel
theorem dX2_placesFor_6 : decode cX2_placesFor 6 = .ok (.bipush 8, 2) := by decide +kernel
theorem dX2_placesFor_8 : decode cX2_placesFor 8 = .ok (.idiv, 1) := by decide +kernel
theorem dX2_placesFor_9 : decode cX2_placesFor 9 = .ok (.bipush 8, 2) := by decide +kernel
theorem dX2_placesFor_11 : decode cX2_placesFor 11 = .ok (.imul, 1) := by decide +kernel
theorem dX2_placesFor_12 : decode cX2_placesFor 12 = .ok (.ireturn, 1) := by decide +kernel
theorem dX3_init_0 : decode cX3_init 0 = .ok (.aload_n 0, 1) := by decide +kernel
theorem dX3_init_1 : decode cX3_init 1 = .ok (.invokespecial 1, 3) := by decide +kernel
theorem dX3_init_4 : decode cX3_init 4 = .ok (.aload_n 0, 1) := by decide +kernel
theorem dX3_init_5 : decode cX3_init 5 = .ok (.ldc 7, 2) := by decide +kernel
theorem dX3_init_7 : decode cX3_init 7 = .ok (.newarray .byte, 2) := by decide +kernel
theorem dX3_init_9 : decode cX3_init 9 = .ok (.putfield 8, 3) := by decide +kernel
theorem dX3_init_12 : decode cX3_init 12 = .ok (.aload_n 0, 1) := by decide +kernel
theorem dX3_init_13 : decode cX3_init 13 = .ok (.sipush 20000, 3) := by decide +kernel
theorem dX3_init_16 : decode cX3_init 16 = .ok (.newarray .int, 2) := by decide +kernel
theorem dX3_init_18 : decode cX3_init 18 = .ok (.putfield 14, 3) := by decide +kernel
theorem dX3_init_21 : decode cX3_init 21 = .ok (.aload_n 0, 1) := by decide +kernel
theorem dX3_init_22 : decode cX3_init 22 = .ok (.sipush 20000, 3) := by decide +kernel
theorem dX3_init_25 : decode cX3_init 25 = .ok (.newarray .int, 2) := by decide +kernel
theorem dX3_init_27 : decode cX3_init 27 = .ok (.putfield 18, 3) := by decide +kernel
theorem dX3_init_30 : decode cX3_init 30 = .ok (.aload_n 0, 1) := by decide +kernel
theorem dX3_init_31 : decode cX3_init 31 = .ok (.sipush 20000, 3) := by decide +kernel
theorem dX3_init_34 : decode cX3_init 34 = .ok (.newarray .int, 2) := by decide +kernel
theorem dX3_init_36 : decode cX3_init 36 = .ok (.putfield 21, 3) := by decide +kernel
theorem dX3_init_39 : decode cX3_init 39 = .ok (.return_, 1) := by decide +kernel
theorem dJ9_min_7cf53_0 : decode cJ9_min_7cf53 0 = .ok (.iload_n 0, 1) := by decide +kernel
theorem dJ9_min_7cf53_1 : decode cJ9_min_7cf53 1 = .ok (.iload_n 1, 1) := by decide +kernel
theorem dJ9_min_7cf53_2 : decode cJ9_min_7cf53 2 = .ok (.if_icmp .gt 7, 3) := by decide +kernel
theorem dJ9_min_7cf53_5 : decode cJ9_min_7cf53 5 = .ok (.iload_n 0, 1) := by decide +kernel
theorem dJ9_min_7cf53_6 : decode cJ9_min_7cf53 6 = .ok (.goto 4, 3) := by decide +kernel
theorem dJ9_min_7cf53_9 : decode cJ9_min_7cf53 9 = .ok (.iload_n 1, 1) := by decide +kernel
theorem dJ9_min_7cf53_10 : decode cJ9_min_7cf53 10 = .ok (.ireturn, 1) := by decide +kernel
theorem dJ7_rangeCheck_23922_0 : decode cJ7_rangeCheck_23922 0 = .ok (.iload_n 1, 1) := by decide +kernel
theorem dJ7_rangeCheck_23922_1 : decode cJ7_rangeCheck_23922 1 = .ok (.iload_n 2, 1) := by decide +kernel
theorem dJ7_rangeCheck_23922_2 : decode cJ7_rangeCheck_23922 2 = .ok (.if_icmp .le 44, 3) := by decide +kernel
theorem dJ7_rangeCheck_23922_5 : decode cJ7_rangeCheck_23922 5 = .ok (.new 43, 3) := by decide +kernel
theorem dJ7_rangeCheck_23922_8 : decode cJ7_rangeCheck_23922 8 = .ok (.dup, 1) := by decide +kernel
theorem dJ7_rangeCheck_23922_9 : decode cJ7_rangeCheck_23922 9 = .ok (.new 45, 3) := by decide +kernel
theorem dJ7_rangeCheck_23922_12 : decode cJ7_rangeCheck_23922 12 = .ok (.dup, 1) := by decide +kernel
theorem dJ7_rangeCheck_23922_13 : decode cJ7_rangeCheck_23922 13 = .ok (.invokespecial 47, 3) := by decide +kernel
theorem dJ7_rangeCheck_23922_16 : decode cJ7_rangeCheck_23922 16 = .ok (.ldc 48, 2) := by decide +kernel
theorem dJ7_rangeCheck_23922_18 : decode cJ7_rangeCheck_23922 18 = .ok (.invokevirtual 50, 3) := by decide +kernel
theorem dJ7_rangeCheck_23922_21 : decode cJ7_rangeCheck_23922 21 = .ok (.iload_n 1, 1) := by decide +kernel
theorem dJ7_rangeCheck_23922_22 : decode cJ7_rangeCheck_23922 22 = .ok (.invokevirtual 54, 3) := by decide +kernel
theorem dJ7_rangeCheck_23922_25 : decode cJ7_rangeCheck_23922 25 = .ok (.ldc 57, 2) := by decide +kernel
theorem dJ7_rangeCheck_23922_27 : decode cJ7_rangeCheck_23922 27 = .ok (.invokevirtual 50, 3) := by decide +kernel
theorem dJ7_rangeCheck_23922_30 : decode cJ7_rangeCheck_23922 30 = .ok (.iload_n 2, 1) := by decide +kernel
theorem dJ7_rangeCheck_23922_31 : decode cJ7_rangeCheck_23922 31 = .ok (.invokevirtual 54, 3) := by decide +kernel
theorem dJ7_rangeCheck_23922_34 : decode cJ7_rangeCheck_23922 34 = .ok (.ldc 59, 2) := by decide +kernel
theorem dJ7_rangeCheck_23922_36 : decode cJ7_rangeCheck_23922 36 = .ok (.invokevirtual 50, 3) := by decide +kernel
theorem dJ7_rangeCheck_23922_39 : decode cJ7_rangeCheck_23922 39 = .ok (.invokevirtual 61, 3) := by decide +kernel
theorem dJ7_rangeCheck_23922_42 : decode cJ7_rangeCheck_23922 42 = .ok (.invokespecial 65, 3) := by decide +kernel
theorem dJ7_rangeCheck_23922_45 : decode cJ7_rangeCheck_23922 45 = .ok (.athrow, 1) := by decide +kernel
theorem dJ7_rangeCheck_23922_46 : decode cJ7_rangeCheck_23922 46 = .ok (.iload_n 1, 1) := by decide +kernel
theorem dJ7_rangeCheck_23922_47 : decode cJ7_rangeCheck_23922 47 = .ok (.ifCond .ge 12, 3) := by decide +kernel
theorem dJ7_rangeCheck_23922_50 : decode cJ7_rangeCheck_23922 50 = .ok (.new 68, 3) := by decide +kernel
theorem dJ7_rangeCheck_23922_53 : decode cJ7_rangeCheck_23922 53 = .ok (.dup, 1) := by decide +kernel
theorem dJ7_rangeCheck_23922_54 : decode cJ7_rangeCheck_23922 54 = .ok (.iload_n 1, 1) := by decide +kernel
theorem dJ7_rangeCheck_23922_55 : decode cJ7_rangeCheck_23922 55 = .ok (.invokespecial 70, 3) := by decide +kernel
theorem dJ7_rangeCheck_23922_58 : decode cJ7_rangeCheck_23922 58 = .ok (.athrow, 1) := by decide +kernel
theorem dJ7_rangeCheck_23922_59 : decode cJ7_rangeCheck_23922 59 = .ok (.iload_n 2, 1) := by decide +kernel
theorem dJ7_rangeCheck_23922_60 : decode cJ7_rangeCheck_23922 60 = .ok (.iload_n 0, 1) := by decide +kernel
theorem dJ7_rangeCheck_23922_61 : decode cJ7_rangeCheck_23922 61 = .ok (.if_icmp .le 12, 3) := by decide +kernel
theorem dJ7_rangeCheck_23922_64 : decode cJ7_rangeCheck_23922 64 = .ok (.new 68, 3) := by decide +kernel
theorem dJ7_rangeCheck_23922_67 : decode cJ7_rangeCheck_23922 67 = .ok (.dup, 1) := by decide +kernel
theorem dJ7_rangeCheck_23922_68 : decode cJ7_rangeCheck_23922 68 = .ok (.iload_n 2, 1) := by decide +kernel
theorem dJ7_rangeCheck_23922_69 : decode cJ7_rangeCheck_23922 69 = .ok (.invokespecial 70, 3) := by decide +kernel
theorem dJ7_rangeCheck_23922_72 : decode cJ7_rangeCheck_23922 72 = .ok (.athrow, 1) := by decide +kernel
theorem dJ7_rangeCheck_23922_73 : decode cJ7_rangeCheck_23922 73 = .ok (.return_, 1) := by decide +kernel
theorem dJ7_fill_eb02e_0 : decode cJ7_fill_eb02e 0 = .ok (.aload_n 0, 1) := by decide +kernel
theorem dJ7_fill_eb02e_1 : decode cJ7_fill_eb02e 1 = .ok (.arraylength, 1) := by decide +kernel
theorem dJ7_fill_eb02e_2 : decode cJ7_fill_eb02e 2 = .ok (.iload_n 1, 1) := by decide +kernel
theorem dJ7_fill_eb02e_3 : decode cJ7_fill_eb02e 3 = .ok (.iload_n 2, 1) := by decide +kernel
theorem dJ7_fill_eb02e_4 : decode cJ7_fill_eb02e 4 = .ok (.invokestatic 13, 3) := by decide +kernel
theorem dJ7_fill_eb02e_7 : decode cJ7_fill_eb02e 7 = .ok (.iload_n 1, 1) := by decide +kernel
theorem dJ7_fill_eb02e_8 : decode cJ7_fill_eb02e 8 = .ok (.istore 4, 2) := by decide +kernel
theorem dJ7_fill_eb02e_10 : decode cJ7_fill_eb02e 10 = .ok (.iload 4, 2) := by decide +kernel
theorem dJ7_fill_eb02e_12 : decode cJ7_fill_eb02e 12 = .ok (.iload_n 2, 1) := by decide +kernel
theorem dJ7_fill_eb02e_13 : decode cJ7_fill_eb02e 13 = .ok (.if_icmp .ge 14, 3) := by decide +kernel
theorem dJ7_fill_eb02e_16 : decode cJ7_fill_eb02e 16 = .ok (.aload_n 0, 1) := by decide +kernel
theorem dJ7_fill_eb02e_17 : decode cJ7_fill_eb02e 17 = .ok (.iload 4, 2) := by decide +kernel
theorem dJ7_fill_eb02e_19 : decode cJ7_fill_eb02e 19 = .ok (.iload_n 3, 1) := by decide +kernel
theorem dJ7_fill_eb02e_20 : decode cJ7_fill_eb02e 20 = .ok (.bastore, 1) := by decide +kernel
theorem dJ7_fill_eb02e_21 : decode cJ7_fill_eb02e 21 = .ok (.iinc 4 1, 3) := by decide +kernel
theorem dJ7_fill_eb02e_24 : decode cJ7_fill_eb02e 24 = .ok (.goto (-14), 3) := by decide +kernel
theorem dJ7_fill_eb02e_27 : decode cJ7_fill_eb02e 27 = .ok (.return_, 1) := by decide +kernel
theorem dL_law_0 : decode cL_law 0 = .ok (.new 7, 3) := by decide +kernel
theorem dL_law_3 : decode cL_law 3 = .ok (.dup, 1) := by decide +kernel
theorem dL_law_4 : decode cL_law 4 = .ok (.invokespecial 9, 3) := by decide +kernel
theorem dL_law_7 : decode cL_law 7 = .ok (.astore_n 1, 1) := by decide +kernel
theorem dL_law_8 : decode cL_law 8 = .ok (.new 10, 3) := by decide +kernel
theorem dL_law_11 : decode cL_law 11 = .ok (.dup, 1) := by decide +kernel
theorem dL_law_12 : decode cL_law 12 = .ok (.invokespecial 12, 3) := by decide +kernel
theorem dL_law_15 : decode cL_law 15 = .ok (.astore_n 2, 1) := by decide +kernel
theorem dL_law_16 : decode cL_law 16 = .ok (.iconst 0, 1) := by decide +kernel
theorem dL_law_17 : decode cL_law 17 = .ok (.istore_n 3, 1) := by decide +kernel
theorem dL_law_18 : decode cL_law 18 = .ok (.iload_n 3, 1) := by decide +kernel
theorem dL_law_19 : decode cL_law 19 = .ok (.aload_n 0, 1) := by decide +kernel
theorem dL_law_20 : decode cL_law 20 = .ok (.arraylength, 1) := by decide +kernel
theorem dL_law_21 : decode cL_law 21 = .ok (.iconst 5, 1) := by decide +kernel
theorem dL_law_22 : decode cL_law 22 = .ok (.isub, 1) := by decide +kernel
theorem dL_law_23 : decode cL_law 23 = .ok (.if_icmp .gt 425, 3) := by decide +kernel
theorem dL_law_26 : decode cL_law 26 = .ok (.aload_n 0, 1) := by decide +kernel
theorem dL_law_27 : decode cL_law 27 = .ok (.iload_n 3, 1) := by decide +kernel
theorem dL_law_28 : decode cL_law 28 = .ok (.iaload, 1) := by decide +kernel
theorem dL_law_29 : decode cL_law 29 = .ok (.bipush 15, 2) := by decide +kernel
theorem dL_law_31 : decode cL_law 31 = .ok (.iand, 1) := by decide +kernel
theorem dL_law_32 : decode cL_law 32 = .ok (.tableswitch 410 0 11 #[64, 87, 110, 143, 186, 239, 272, 305, 328, 361, 384, 397], 64) := by decide +kernel
theorem dL_law_96 : decode cL_law 96 = .ok (.aload_n 1, 1) := by decide +kernel
theorem dL_law_97 : decode cL_law 97 = .ok (.aload_n 0, 1) := by decide +kernel
theorem dL_law_98 : decode cL_law 98 = .ok (.iload_n 3, 1) := by decide +kernel
theorem dL_law_99 : decode cL_law 99 = .ok (.iconst 1, 1) := by decide +kernel
theorem dL_law_100 : decode cL_law 100 = .ok (.iadd, 1) := by decide +kernel
theorem dL_law_101 : decode cL_law 101 = .ok (.iaload, 1) := by decide +kernel
theorem dL_law_102 : decode cL_law 102 = .ok (.invokevirtual 13, 3) := by decide +kernel
theorem dL_law_105 : decode cL_law 105 = .ok (.aload_n 2, 1) := by decide +kernel
theorem dL_law_106 : decode cL_law 106 = .ok (.aload_n 0, 1) := by decide +kernel
theorem dL_law_107 : decode cL_law 107 = .ok (.iload_n 3, 1) := by decide +kernel
theorem dL_law_108 : decode cL_law 108 = .ok (.iconst 1, 1) := by decide +kernel
theorem dL_law_109 : decode cL_law 109 = .ok (.iadd, 1) := by decide +kernel
theorem dL_law_110 : decode cL_law 110 = .ok (.iaload, 1) := by decide +kernel
theorem dL_law_111 : decode cL_law 111 = .ok (.invokevirtual 17, 3) := by decide +kernel
theorem dL_law_114 : decode cL_law 114 = .ok (.if_icmp .eq 328, 3) := by decide +kernel
theorem dL_law_117 : decode cL_law 117 = .ok (.iconst 0, 1) := by decide +kernel
theorem dL_law_118 : decode cL_law 118 = .ok (.ireturn, 1) := by decide +kernel
theorem dL_law_119 : decode cL_law 119 = .ok (.aload_n 1, 1) := by decide +kernel
theorem dL_law_120 : decode cL_law 120 = .ok (.aload_n 0, 1) := by decide +kernel
theorem dL_law_121 : decode cL_law 121 = .ok (.iload_n 3, 1) := by decide +kernel
theorem dL_law_122 : decode cL_law 122 = .ok (.iconst 1, 1) := by decide +kernel
theorem dL_law_123 : decode cL_law 123 = .ok (.iadd, 1) := by decide +kernel
theorem dL_law_124 : decode cL_law 124 = .ok (.iaload, 1) := by decide +kernel
theorem dL_law_125 : decode cL_law 125 = .ok (.invokevirtual 18, 3) := by decide +kernel
theorem dL_law_128 : decode cL_law 128 = .ok (.aload_n 2, 1) := by decide +kernel
theorem dL_law_129 : decode cL_law 129 = .ok (.aload_n 0, 1) := by decide +kernel
theorem dL_law_130 : decode cL_law 130 = .ok (.iload_n 3, 1) := by decide +kernel
theorem dL_law_131 : decode cL_law 131 = .ok (.iconst 1, 1) := by decide +kernel
theorem dL_law_132 : decode cL_law 132 = .ok (.iadd, 1) := by decide +kernel
theorem dL_law_133 : decode cL_law 133 = .ok (.iaload, 1) := by decide +kernel
theorem dL_law_134 : decode cL_law 134 = .ok (.invokevirtual 22, 3) := by decide +kernel
theorem dL_law_137 : decode cL_law 137 = .ok (.if_icmp .eq 305, 3) := by decide +kernel
theorem dL_law_140 : decode cL_law 140 = .ok (.iconst 0, 1) := by decide +kernel
theorem dL_law_141 : decode cL_law 141 = .ok (.ireturn, 1) := by decide +kernel
theorem dL_law_142 : decode cL_law 142 = .ok (.aload_n 1, 1) := by decide +kernel
theorem dL_law_143 : decode cL_law 143 = .ok (.aload_n 0, 1) := by decide +kernel
theorem dL_law_144 : decode cL_law 144 = .ok (.iload_n 3, 1) := by decide +kernel
theorem dL_law_145 : decode cL_law 145 = .ok (.iconst 1, 1) := by decide +kernel
theorem dL_law_146 : decode cL_law 146 = .ok (.iadd, 1) := by decide +kernel
theorem dL_law_147 : decode cL_law 147 = .ok (.iaload, 1) := by decide +kernel
theorem dL_law_148 : decode cL_law 148 = .ok (.aload_n 0, 1) := by decide +kernel
theorem dL_law_149 : decode cL_law 149 = .ok (.iload_n 3, 1) := by decide +kernel
theorem dL_law_150 : decode cL_law 150 = .ok (.iconst 2, 1) := by decide +kernel
theorem dL_law_151 : decode cL_law 151 = .ok (.iadd, 1) := by decide +kernel
theorem dL_law_152 : decode cL_law 152 = .ok (.iaload, 1) := by decide +kernel
theorem dL_law_153 : decode cL_law 153 = .ok (.invokevirtual 23, 3) := by decide +kernel
theorem dL_law_156 : decode cL_law 156 = .ok (.aload_n 2, 1) := by decide +kernel
theorem dL_law_157 : decode cL_law 157 = .ok (.aload_n 0, 1) := by decide +kernel
theorem dL_law_158 : decode cL_law 158 = .ok (.iload_n 3, 1) := by decide +kernel
theorem dL_law_159 : decode cL_law 159 = .ok (.iconst 1, 1) := by decide +kernel
theorem dL_law_160 : decode cL_law 160 = .ok (.iadd, 1) := by decide +kernel
theorem dL_law_161 : decode cL_law 161 = .ok (.iaload, 1) := by decide +kernel
theorem dL_law_162 : decode cL_law 162 = .ok (.aload_n 0, 1) := by decide +kernel
theorem dL_law_163 : decode cL_law 163 = .ok (.iload_n 3, 1) := by decide +kernel
theorem dL_law_164 : decode cL_law 164 = .ok (.iconst 2, 1) := by decide +kernel
theorem dL_law_165 : decode cL_law 165 = .ok (.iadd, 1) := by decide +kernel
theorem dL_law_166 : decode cL_law 166 = .ok (.iaload, 1) := by decide +kernel
theorem dL_law_167 : decode cL_law 167 = .ok (.invokevirtual 27, 3) := by decide +kernel
theorem dL_law_170 : decode cL_law 170 = .ok (.if_icmp .eq 272, 3) := by decide +kernel
theorem dL_law_173 : decode cL_law 173 = .ok (.iconst 0, 1) := by decide +kernel
theorem dL_law_174 : decode cL_law 174 = .ok (.ireturn, 1) := by decide +kernel
theorem dL_law_175 : decode cL_law 175 = .ok (.aload_n 1, 1) := by decide +kernel
theorem dL_law_176 : decode cL_law 176 = .ok (.aload_n 0, 1) := by decide +kernel
theorem dL_law_177 : decode cL_law 177 = .ok (.iload_n 3, 1) := by decide +kernel
theorem dL_law_178 : decode cL_law 178 = .ok (.iconst 1, 1) := by decide +kernel
theorem dL_law_179 : decode cL_law 179 = .ok (.iadd, 1) := by decide +kernel
theorem dL_law_180 : decode cL_law 180 = .ok (.iaload, 1) := by decide +kernel
theorem dL_law_181 : decode cL_law 181 = .ok (.aload_n 0, 1) := by decide +kernel
theorem dL_law_182 : decode cL_law 182 = .ok (.iload_n 3, 1) := by decide +kernel
theorem dL_law_183 : decode cL_law 183 = .ok (.iconst 2, 1) := by decide +kernel
theorem dL_law_184 : decode cL_law 184 = .ok (.iadd, 1) := by decide +kernel
theorem dL_law_185 : decode cL_law 185 = .ok (.iaload, 1) := by decide +kernel
theorem dL_law_186 : decode cL_law 186 = .ok (.aload_n 0, 1) := by decide +kernel
theorem dL_law_187 : decode cL_law 187 = .ok (.iload_n 3, 1) := by decide +kernel
theorem dL_law_188 : decode cL_law 188 = .ok (.iconst 3, 1) := by decide +kernel
theorem dL_law_189 : decode cL_law 189 = .ok (.iadd, 1) := by decide +kernel
theorem dL_law_190 : decode cL_law 190 = .ok (.iaload, 1) := by decide +kernel
theorem dL_law_191 : decode cL_law 191 = .ok (.invokevirtual 28, 3) := by decide +kernel
theorem dL_law_194 : decode cL_law 194 = .ok (.aload_n 2, 1) := by decide +kernel
theorem dL_law_195 : decode cL_law 195 = .ok (.aload_n 0, 1) := by decide +kernel
theorem dL_law_196 : decode cL_law 196 = .ok (.iload_n 3, 1) := by decide +kernel
theorem dL_law_197 : decode cL_law 197 = .ok (.iconst 1, 1) := by decide +kernel
theorem dL_law_198 : decode cL_law 198 = .ok (.iadd, 1) := by decide +kernel
theorem dL_law_199 : decode cL_law 199 = .ok (.iaload, 1) := by decide +kernel
theorem dL_law_200 : decode cL_law 200 = .ok (.aload_n 0, 1) := by decide +kernel
theorem dL_law_201 : decode cL_law 201 = .ok (.iload_n 3, 1) := by decide +kernel
theorem dL_law_202 : decode cL_law 202 = .ok (.iconst 2, 1) := by decide +kernel
theorem dL_law_203 : decode cL_law 203 = .ok (.iadd, 1) := by decide +kernel
theorem dL_law_204 : decode cL_law 204 = .ok (.iaload, 1) := by decide +kernel
theorem dL_law_205 : decode cL_law 205 = .ok (.aload_n 0, 1) := by decide +kernel
theorem dL_law_206 : decode cL_law 206 = .ok (.iload_n 3, 1) := by decide +kernel
theorem dL_law_207 : decode cL_law 207 = .ok (.iconst 3, 1) := by decide +kernel
theorem dL_law_208 : decode cL_law 208 = .ok (.iadd, 1) := by decide +kernel
theorem dL_law_209 : decode cL_law 209 = .ok (.iaload, 1) := by decide +kernel
theorem dL_law_210 : decode cL_law 210 = .ok (.invokevirtual 32, 3) := by decide +kernel
theorem dL_law_213 : decode cL_law 213 = .ok (.if_icmp .eq 229, 3) := by decide +kernel
theorem dL_law_216 : decode cL_law 216 = .ok (.iconst 0, 1) := by decide +kernel
theorem dL_law_217 : decode cL_law 217 = .ok (.ireturn, 1) := by decide +kernel
theorem dL_law_218 : decode cL_law 218 = .ok (.aload_n 1, 1) := by decide +kernel
theorem dL_law_219 : decode cL_law 219 = .ok (.aload_n 0, 1) := by decide +kernel
theorem dL_law_220 : decode cL_law 220 = .ok (.iload_n 3, 1) := by decide +kernel
theorem dL_law_221 : decode cL_law 221 = .ok (.iconst 1, 1) := by decide +kernel
theorem dL_law_222 : decode cL_law 222 = .ok (.iadd, 1) := by decide +kernel
theorem dL_law_223 : decode cL_law 223 = .ok (.iaload, 1) := by decide +kernel
theorem dL_law_224 : decode cL_law 224 = .ok (.aload_n 0, 1) := by decide +kernel
theorem dL_law_225 : decode cL_law 225 = .ok (.iload_n 3, 1) := by decide +kernel
theorem dL_law_226 : decode cL_law 226 = .ok (.iconst 2, 1) := by decide +kernel
theorem dL_law_227 : decode cL_law 227 = .ok (.iadd, 1) := by decide +kernel
theorem dL_law_228 : decode cL_law 228 = .ok (.iaload, 1) := by decide +kernel
theorem dL_law_229 : decode cL_law 229 = .ok (.aload_n 0, 1) := by decide +kernel
theorem dL_law_230 : decode cL_law 230 = .ok (.iload_n 3, 1) := by decide +kernel
theorem dL_law_231 : decode cL_law 231 = .ok (.iconst 3, 1) := by decide +kernel
theorem dL_law_232 : decode cL_law 232 = .ok (.iadd, 1) := by decide +kernel
theorem dL_law_233 : decode cL_law 233 = .ok (.iaload, 1) := by decide +kernel
theorem dL_law_234 : decode cL_law 234 = .ok (.aload_n 0, 1) := by decide +kernel
theorem dL_law_235 : decode cL_law 235 = .ok (.iload_n 3, 1) := by decide +kernel
theorem dL_law_236 : decode cL_law 236 = .ok (.iconst 4, 1) := by decide +kernel
theorem dL_law_237 : decode cL_law 237 = .ok (.iadd, 1) := by decide +kernel
theorem dL_law_238 : decode cL_law 238 = .ok (.iaload, 1) := by decide +kernel
theorem dL_law_239 : decode cL_law 239 = .ok (.invokevirtual 33, 3) := by decide +kernel
theorem dL_law_242 : decode cL_law 242 = .ok (.aload_n 2, 1) := by decide +kernel
theorem dL_law_243 : decode cL_law 243 = .ok (.aload_n 0, 1) := by decide +kernel
theorem dL_law_244 : decode cL_law 244 = .ok (.iload_n 3, 1) := by decide +kernel
theorem dL_law_245 : decode cL_law 245 = .ok (.iconst 1, 1) := by decide +kernel
theorem dL_law_246 : decode cL_law 246 = .ok (.iadd, 1) := by decide +kernel
theorem dL_law_247 : decode cL_law 247 = .ok (.iaload, 1) := by decide +kernel
theorem dL_law_248 : decode cL_law 248 = .ok (.aload_n 0, 1) := by decide +kernel
theorem dL_law_249 : decode cL_law 249 = .ok (.iload_n 3, 1) := by decide +kernel
theorem dL_law_250 : decode cL_law 250 = .ok (.iconst 2, 1) := by decide +kernel
theorem dL_law_251 : decode cL_law 251 = .ok (.iadd, 1) := by decide +kernel
theorem dL_law_252 : decode cL_law 252 = .ok (.iaload, 1) := by decide +kernel
theorem dL_law_253 : decode cL_law 253 = .ok (.aload_n 0, 1) := by decide +kernel
theorem dL_law_254 : decode cL_law 254 = .ok (.iload_n 3, 1) := by decide +kernel
theorem dL_law_255 : decode cL_law 255 = .ok (.iconst 3, 1) := by decide +kernel
theorem dL_law_256 : decode cL_law 256 = .ok (.iadd, 1) := by decide +kernel
theorem dL_law_257 : decode cL_law 257 = .ok (.iaload, 1) := by decide +kernel
theorem dL_law_258 : decode cL_law 258 = .ok (.aload_n 0, 1) := by decide +kernel
theorem dL_law_259 : decode cL_law 259 = .ok (.iload_n 3, 1) := by decide +kernel
theorem dL_law_260 : decode cL_law 260 = .ok (.iconst 4, 1) := by decide +kernel
theorem dL_law_261 : decode cL_law 261 = .ok (.iadd, 1) := by decide +kernel
theorem dL_law_262 : decode cL_law 262 = .ok (.iaload, 1) := by decide +kernel
theorem dL_law_263 : decode cL_law 263 = .ok (.invokevirtual 37, 3) := by decide +kernel
theorem dL_law_266 : decode cL_law 266 = .ok (.if_icmp .eq 176, 3) := by decide +kernel
theorem dL_law_269 : decode cL_law 269 = .ok (.iconst 0, 1) := by decide +kernel
theorem dL_law_270 : decode cL_law 270 = .ok (.ireturn, 1) := by decide +kernel
theorem dL_law_271 : decode cL_law 271 = .ok (.aload_n 1, 1) := by decide +kernel
theorem dL_law_272 : decode cL_law 272 = .ok (.aload_n 0, 1) := by decide +kernel
theorem dL_law_273 : decode cL_law 273 = .ok (.iload_n 3, 1) := by decide +kernel
theorem dL_law_274 : decode cL_law 274 = .ok (.iconst 1, 1) := by decide +kernel
theorem dL_law_275 : decode cL_law 275 = .ok (.iadd, 1) := by decide +kernel
theorem dL_law_276 : decode cL_law 276 = .ok (.iaload, 1) := by decide +kernel
theorem dL_law_277 : decode cL_law 277 = .ok (.aload_n 0, 1) := by decide +kernel
theorem dL_law_278 : decode cL_law 278 = .ok (.iload_n 3, 1) := by decide +kernel
theorem dL_law_279 : decode cL_law 279 = .ok (.iconst 2, 1) := by decide +kernel
theorem dL_law_280 : decode cL_law 280 = .ok (.iadd, 1) := by decide +kernel
theorem dL_law_281 : decode cL_law 281 = .ok (.iaload, 1) := by decide +kernel
theorem dL_law_282 : decode cL_law 282 = .ok (.invokevirtual 38, 3) := by decide +kernel
theorem dL_law_285 : decode cL_law 285 = .ok (.aload_n 2, 1) := by decide +kernel
theorem dL_law_286 : decode cL_law 286 = .ok (.aload_n 0, 1) := by decide +kernel
theorem dL_law_287 : decode cL_law 287 = .ok (.iload_n 3, 1) := by decide +kernel
theorem dL_law_288 : decode cL_law 288 = .ok (.iconst 1, 1) := by decide +kernel
theorem dL_law_289 : decode cL_law 289 = .ok (.iadd, 1) := by decide +kernel
theorem dL_law_290 : decode cL_law 290 = .ok (.iaload, 1) := by decide +kernel
theorem dL_law_291 : decode cL_law 291 = .ok (.aload_n 0, 1) := by decide +kernel
theorem dL_law_292 : decode cL_law 292 = .ok (.iload_n 3, 1) := by decide +kernel
theorem dL_law_293 : decode cL_law 293 = .ok (.iconst 2, 1) := by decide +kernel
theorem dL_law_294 : decode cL_law 294 = .ok (.iadd, 1) := by decide +kernel
theorem dL_law_295 : decode cL_law 295 = .ok (.iaload, 1) := by decide +kernel
theorem dL_law_296 : decode cL_law 296 = .ok (.invokevirtual 41, 3) := by decide +kernel
theorem dL_law_299 : decode cL_law 299 = .ok (.if_icmp .eq 143, 3) := by decide +kernel
theorem dL_law_302 : decode cL_law 302 = .ok (.iconst 0, 1) := by decide +kernel
theorem dL_law_303 : decode cL_law 303 = .ok (.ireturn, 1) := by decide +kernel
theorem dL_law_304 : decode cL_law 304 = .ok (.aload_n 1, 1) := by decide +kernel
theorem dL_law_305 : decode cL_law 305 = .ok (.aload_n 0, 1) := by decide +kernel
theorem dL_law_306 : decode cL_law 306 = .ok (.iload_n 3, 1) := by decide +kernel
theorem dL_law_307 : decode cL_law 307 = .ok (.iconst 1, 1) := by decide +kernel
theorem dL_law_308 : decode cL_law 308 = .ok (.iadd, 1) := by decide +kernel
theorem dL_law_309 : decode cL_law 309 = .ok (.iaload, 1) := by decide +kernel
theorem dL_law_310 : decode cL_law 310 = .ok (.aload_n 0, 1) := by decide +kernel
theorem dL_law_311 : decode cL_law 311 = .ok (.iload_n 3, 1) := by decide +kernel
theorem dL_law_312 : decode cL_law 312 = .ok (.iconst 2, 1) := by decide +kernel
theorem dL_law_313 : decode cL_law 313 = .ok (.iadd, 1) := by decide +kernel
theorem dL_law_314 : decode cL_law 314 = .ok (.iaload, 1) := by decide +kernel
theorem dL_law_315 : decode cL_law 315 = .ok (.invokevirtual 42, 3) := by decide +kernel
theorem dL_law_318 : decode cL_law 318 = .ok (.aload_n 2, 1) := by decide +kernel
theorem dL_law_319 : decode cL_law 319 = .ok (.aload_n 0, 1) := by decide +kernel
theorem dL_law_320 : decode cL_law 320 = .ok (.iload_n 3, 1) := by decide +kernel
theorem dL_law_321 : decode cL_law 321 = .ok (.iconst 1, 1) := by decide +kernel
theorem dL_law_322 : decode cL_law 322 = .ok (.iadd, 1) := by decide +kernel
theorem dL_law_323 : decode cL_law 323 = .ok (.iaload, 1) := by decide +kernel
theorem dL_law_324 : decode cL_law 324 = .ok (.aload_n 0, 1) := by decide +kernel
theorem dL_law_325 : decode cL_law 325 = .ok (.iload_n 3, 1) := by decide +kernel
theorem dL_law_326 : decode cL_law 326 = .ok (.iconst 2, 1) := by decide +kernel
theorem dL_law_327 : decode cL_law 327 = .ok (.iadd, 1) := by decide +kernel
theorem dL_law_328 : decode cL_law 328 = .ok (.iaload, 1) := by decide +kernel
theorem dL_law_329 : decode cL_law 329 = .ok (.invokevirtual 45, 3) := by decide +kernel
theorem dL_law_332 : decode cL_law 332 = .ok (.if_icmp .eq 110, 3) := by decide +kernel
theorem dL_law_335 : decode cL_law 335 = .ok (.iconst 0, 1) := by decide +kernel
theorem dL_law_336 : decode cL_law 336 = .ok (.ireturn, 1) := by decide +kernel
theorem dL_law_337 : decode cL_law 337 = .ok (.aload_n 1, 1) := by decide +kernel
theorem dL_law_338 : decode cL_law 338 = .ok (.aload_n 0, 1) := by decide +kernel
theorem dL_law_339 : decode cL_law 339 = .ok (.iload_n 3, 1) := by decide +kernel
theorem dL_law_340 : decode cL_law 340 = .ok (.iconst 1, 1) := by decide +kernel
theorem dL_law_341 : decode cL_law 341 = .ok (.iadd, 1) := by decide +kernel
theorem dL_law_342 : decode cL_law 342 = .ok (.iaload, 1) := by decide +kernel
theorem dL_law_343 : decode cL_law 343 = .ok (.invokevirtual 46, 3) := by decide +kernel
theorem dL_law_346 : decode cL_law 346 = .ok (.aload_n 2, 1) := by decide +kernel
theorem dL_law_347 : decode cL_law 347 = .ok (.aload_n 0, 1) := by decide +kernel
theorem dL_law_348 : decode cL_law 348 = .ok (.iload_n 3, 1) := by decide +kernel
theorem dL_law_349 : decode cL_law 349 = .ok (.iconst 1, 1) := by decide +kernel
theorem dL_law_350 : decode cL_law 350 = .ok (.iadd, 1) := by decide +kernel
theorem dL_law_351 : decode cL_law 351 = .ok (.iaload, 1) := by decide +kernel
theorem dL_law_352 : decode cL_law 352 = .ok (.invokevirtual 49, 3) := by decide +kernel
theorem dL_law_355 : decode cL_law 355 = .ok (.if_icmp .eq 87, 3) := by decide +kernel
theorem dL_law_358 : decode cL_law 358 = .ok (.iconst 0, 1) := by decide +kernel
theorem dL_law_359 : decode cL_law 359 = .ok (.ireturn, 1) := by decide +kernel
theorem dL_law_360 : decode cL_law 360 = .ok (.aload_n 1, 1) := by decide +kernel
theorem dL_law_361 : decode cL_law 361 = .ok (.aload_n 0, 1) := by decide +kernel
theorem dL_law_362 : decode cL_law 362 = .ok (.iload_n 3, 1) := by decide +kernel
theorem dL_law_363 : decode cL_law 363 = .ok (.iconst 1, 1) := by decide +kernel
theorem dL_law_364 : decode cL_law 364 = .ok (.iadd, 1) := by decide +kernel
theorem dL_law_365 : decode cL_law 365 = .ok (.iaload, 1) := by decide +kernel
theorem dL_law_366 : decode cL_law 366 = .ok (.aload_n 0, 1) := by decide +kernel
theorem dL_law_367 : decode cL_law 367 = .ok (.iload_n 3, 1) := by decide +kernel
theorem dL_law_368 : decode cL_law 368 = .ok (.iconst 2, 1) := by decide +kernel
theorem dL_law_369 : decode cL_law 369 = .ok (.iadd, 1) := by decide +kernel
theorem dL_law_370 : decode cL_law 370 = .ok (.iaload, 1) := by decide +kernel
theorem dL_law_371 : decode cL_law 371 = .ok (.invokevirtual 50, 3) := by decide +kernel
theorem dL_law_374 : decode cL_law 374 = .ok (.aload_n 2, 1) := by decide +kernel
theorem dL_law_375 : decode cL_law 375 = .ok (.aload_n 0, 1) := by decide +kernel
theorem dL_law_376 : decode cL_law 376 = .ok (.iload_n 3, 1) := by decide +kernel
theorem dL_law_377 : decode cL_law 377 = .ok (.iconst 1, 1) := by decide +kernel
theorem dL_law_378 : decode cL_law 378 = .ok (.iadd, 1) := by decide +kernel
theorem dL_law_379 : decode cL_law 379 = .ok (.iaload, 1) := by decide +kernel
theorem dL_law_380 : decode cL_law 380 = .ok (.aload_n 0, 1) := by decide +kernel
theorem dL_law_381 : decode cL_law 381 = .ok (.iload_n 3, 1) := by decide +kernel
theorem dL_law_382 : decode cL_law 382 = .ok (.iconst 2, 1) := by decide +kernel
theorem dL_law_383 : decode cL_law 383 = .ok (.iadd, 1) := by decide +kernel
theorem dL_law_384 : decode cL_law 384 = .ok (.iaload, 1) := by decide +kernel
theorem dL_law_385 : decode cL_law 385 = .ok (.invokevirtual 53, 3) := by decide +kernel
theorem dL_law_388 : decode cL_law 388 = .ok (.if_icmp .eq 54, 3) := by decide +kernel
theorem dL_law_391 : decode cL_law 391 = .ok (.iconst 0, 1) := by decide +kernel
theorem dL_law_392 : decode cL_law 392 = .ok (.ireturn, 1) := by decide +kernel
theorem dL_law_393 : decode cL_law 393 = .ok (.aload_n 1, 1) := by decide +kernel
theorem dL_law_394 : decode cL_law 394 = .ok (.aload_n 0, 1) := by decide +kernel
theorem dL_law_395 : decode cL_law 395 = .ok (.iload_n 3, 1) := by decide +kernel
theorem dL_law_396 : decode cL_law 396 = .ok (.iconst 1, 1) := by decide +kernel
theorem dL_law_397 : decode cL_law 397 = .ok (.iadd, 1) := by decide +kernel
theorem dL_law_398 : decode cL_law 398 = .ok (.iaload, 1) := by decide +kernel
theorem dL_law_399 : decode cL_law 399 = .ok (.invokevirtual 54, 3) := by decide +kernel
theorem dL_law_402 : decode cL_law 402 = .ok (.aload_n 2, 1) := by decide +kernel
theorem dL_law_403 : decode cL_law 403 = .ok (.aload_n 0, 1) := by decide +kernel
theorem dL_law_404 : decode cL_law 404 = .ok (.iload_n 3, 1) := by decide +kernel
theorem dL_law_405 : decode cL_law 405 = .ok (.iconst 1, 1) := by decide +kernel
theorem dL_law_406 : decode cL_law 406 = .ok (.iadd, 1) := by decide +kernel
theorem dL_law_407 : decode cL_law 407 = .ok (.iaload, 1) := by decide +kernel
theorem dL_law_408 : decode cL_law 408 = .ok (.invokevirtual 57, 3) := by decide +kernel
theorem dL_law_411 : decode cL_law 411 = .ok (.if_icmp .eq 31, 3) := by decide +kernel
theorem dL_law_414 : decode cL_law 414 = .ok (.iconst 0, 1) := by decide +kernel
theorem dL_law_415 : decode cL_law 415 = .ok (.ireturn, 1) := by decide +kernel
theorem dL_law_416 : decode cL_law 416 = .ok (.aload_n 1, 1) := by decide +kernel
theorem dL_law_417 : decode cL_law 417 = .ok (.invokevirtual 58, 3) := by decide +kernel
theorem dL_law_420 : decode cL_law 420 = .ok (.aload_n 2, 1) := by decide +kernel
theorem dL_law_421 : decode cL_law 421 = .ok (.invokevirtual 62, 3) := by decide +kernel
theorem dL_law_424 : decode cL_law 424 = .ok (.if_icmp .eq 18, 3) := by decide +kernel
theorem dL_law_427 : decode cL_law 427 = .ok (.iconst 0, 1) := by decide +kernel
theorem dL_law_428 : decode cL_law 428 = .ok (.ireturn, 1) := by decide +kernel
theorem dL_law_429 : decode cL_law 429 = .ok (.aload_n 1, 1) := by decide +kernel
theorem dL_law_430 : decode cL_law 430 = .ok (.invokevirtual 63, 3) := by decide +kernel
theorem dL_law_433 : decode cL_law 433 = .ok (.aload_n 2, 1) := by decide +kernel
theorem dL_law_434 : decode cL_law 434 = .ok (.invokevirtual 66, 3) := by decide +kernel
theorem dL_law_437 : decode cL_law 437 = .ok (.if_icmp .eq 5, 3) := by decide +kernel
theorem dL_law_440 : decode cL_law 440 = .ok (.iconst 0, 1) := by decide +kernel
theorem dL_law_441 : decode cL_law 441 = .ok (.ireturn, 1) := by decide +kernel
theorem dL_law_442 : decode cL_law 442 = .ok (.iinc 3 5, 3) := by decide +kernel
theorem dL_law_445 : decode cL_law 445 = .ok (.goto (-427), 3) := by decide +kernel
theorem dL_law_448 : decode cL_law 448 = .ok (.iconst 1, 1) := by decide +kernel
theorem dL_law_449 : decode cL_law 449 = .ok (.ireturn, 1) := by decide +kernel
theorem dX3_isRow_0 : decode cX3_isRow 0 = .ok (.iload_n 1, 1) := by decide +kernel
theorem dX3_isRow_1 : decode cX3_isRow 1 = .ok (.ifCond .lt 24, 3) := by decide +kernel
theorem dX3_isRow_4 : decode cX3_isRow 4 = .ok (.iload_n 1, 1) := by decide +kernel
theorem dX3_isRow_5 : decode cX3_isRow 5 = .ok (.aload_n 0, 1) := by decide +kernel
theorem dX3_isRow_6 : decode cX3_isRow 6 = .ok (.getfield 24, 3) := by decide +kernel
theorem dX3_isRow_9 : decode cX3_isRow 9 = .ok (.if_icmp .ge 16, 3) := by decide +kernel
theorem dX3_isRow_12 : decode cX3_isRow 12 = .ok (.aload_n 0, 1) := by decide +kernel
theorem dX3_isRow_13 : decode cX3_isRow 13 = .ok (.getfield 18, 3) := by decide +kernel
theorem dX3_isRow_16 : decode cX3_isRow 16 = .ok (.iload_n 1, 1) := by decide +kernel
theorem dX3_isRow_17 : decode cX3_isRow 17 = .ok (.iaload, 1) := by decide +kernel
theorem dX3_isRow_18 : decode cX3_isRow 18 = .ok (.ifCond .lt 7, 3) := by decide +kernel
theorem dX3_isRow_21 : decode cX3_isRow 21 = .ok (.iconst 1, 1) := by decide +kernel
theorem dX3_isRow_22 : decode cX3_isRow 22 = .ok (.goto 4, 3) := by decide +kernel
theorem dX3_isRow_25 : decode cX3_isRow 25 = .ok (.iconst 0, 1) := by decide +kernel
theorem dX3_isRow_26 : decode cX3_isRow 26 = .ok (.ireturn, 1) := by decide +kernel
theorem dX3_placesOf_0 : decode cX3_placesOf 0 = .ok (.iload_n 0, 1) := by decide +kernel
theorem dX3_placesOf_1 : decode cX3_placesOf 1 = .ok (.bipush 7, 2) := by decide +kernel
theorem dX3_placesOf_3 : decode cX3_placesOf 3 = .ok (.iadd, 1) := by decide +kernel
theorem dX3_placesOf_4 : decode cX3_placesOf 4 = .ok (.bipush 8, 2) := by decide +kernel
theorem dX3_placesOf_6 : decode cX3_placesOf 6 = .ok (.idiv, 1) := by decide +kernel
theorem dX3_placesOf_7 : decode cX3_placesOf 7 = .ok (.bipush 8, 2) := by decide +kernel
theorem dX3_placesOf_9 : decode cX3_placesOf 9 = .ok (.imul, 1) := by decide +kernel
theorem dX3_placesOf_10 : decode cX3_placesOf 10 = .ok (.ireturn, 1) := by decide +kernel
theorem dX3_many_0 : decode cX3_many 0 = .ok (.aload_n 0, 1) := by decide +kernel
theorem dX3_many_1 : decode cX3_many 1 = .ok (.getfield 24, 3) := by decide +kernel
theorem dX3_many_4 : decode cX3_many 4 = .ok (.aload_n 0, 1) := by decide +kernel
theorem dX3_many_5 : decode cX3_many 5 = .ok (.getfield 28, 3) := by decide +kernel
theorem dX3_many_8 : decode cX3_many 8 = .ok (.isub, 1) := by decide +kernel
theorem dX3_many_9 : decode cX3_many 9 = .ok (.ireturn, 1) := by decide +kernel
theorem dX3_take_0 : decode cX3_take 0 = .ok (.iload_n 1, 1) := by decide +kernel
theorem dX3_take_1 : decode cX3_take 1 = .ok (.ifCond .lt 10, 3) := by decide +kernel
theorem dX3_take_4 : decode cX3_take 4 = .ok (.iload_n 1, 1) := by decide +kernel
theorem dX3_take_5 : decode cX3_take 5 = .ok (.sipush 16384, 3) := by decide +kernel
theorem dX3_take_8 : decode cX3_take 8 = .ok (.if_icmp .le 5, 3) := by decide +kernel
theorem dX3_take_11 : decode cX3_take 11 = .ok (.iconst (-1), 1) := by decide +kernel
theorem dX3_take_12 : decode cX3_take 12 = .ok (.ireturn, 1) := by decide +kernel
theorem dX3_take_13 : decode cX3_take 13 = .ok (.aload_n 0, 1) := by decide +kernel
theorem dX3_take_14 : decode cX3_take 14 = .ok (.invokevirtual 31, 3) := by decide +kernel
theorem dX3_take_17 : decode cX3_take 17 = .ok (.sipush 20000, 3) := by decide +kernel
theorem dX3_take_20 : decode cX3_take 20 = .ok (.if_icmp .eq 17, 3) := by decide +kernel
theorem dX3_take_23 : decode cX3_take 23 = .ok (.aload_n 0, 1) := by decide +kernel
theorem dX3_take_24 : decode cX3_take 24 = .ok (.getfield 35, 3) := by decide +kernel
theorem dX3_take_27 : decode cX3_take 27 = .ok (.iload_n 1, 1) := by decide +kernel
theorem dX3_take_28 : decode cX3_take 28 = .ok (.invokestatic 38, 3) := by decide +kernel
theorem dX3_take_31 : decode cX3_take 31 = .ok (.iadd, 1) := by decide +kernel
theorem dX3_take_32 : decode cX3_take 32 = .ok (.ldc 7, 2) := by decide +kernel
theorem dX3_take_34 : decode cX3_take 34 = .ok (.if_icmp .le 6, 3) := by decide +kernel
theorem dX3_take_37 : decode cX3_take 37 = .ok (.bipush (-2), 2) := by decide +kernel
theorem dX3_take_39 : decode cX3_take 39 = .ok (.ireturn, 1) := by decide +kernel
theorem dX3_take_40 : decode cX3_take 40 = .ok (.aload_n 0, 1) := by decide +kernel
theorem dX3_take_41 : decode cX3_take 41 = .ok (.getfield 24, 3) := by decide +kernel
theorem dX3_take_44 : decode cX3_take 44 = .ok (.istore_n 2, 1) := by decide +kernel
theorem dX3_take_45 : decode cX3_take 45 = .ok (.aload_n 0, 1) := by decide +kernel
theorem dX3_take_46 : decode cX3_take 46 = .ok (.getfield 28, 3) := by decide +kernel
theorem dX3_take_49 : decode cX3_take 49 = .ok (.ifCond .le 26, 3) := by decide +kernel
theorem dX3_take_52 : decode cX3_take 52 = .ok (.aload_n 0, 1) := by decide +kernel
theorem dX3_take_53 : decode cX3_take 53 = .ok (.dup, 1) := by decide +kernel
theorem dX3_take_54 : decode cX3_take 54 = .ok (.getfield 28, 3) := by decide +kernel
theorem dX3_take_57 : decode cX3_take 57 = .ok (.iconst 1, 1) := by decide +kernel
theorem dX3_take_58 : decode cX3_take 58 = .ok (.isub, 1) := by decide +kernel
theorem dX3_take_59 : decode cX3_take 59 = .ok (.putfield 28, 3) := by decide +kernel
theorem dX3_take_62 : decode cX3_take 62 = .ok (.aload_n 0, 1) := by decide +kernel
theorem dX3_take_63 : decode cX3_take 63 = .ok (.getfield 21, 3) := by decide +kernel
theorem dX3_take_66 : decode cX3_take 66 = .ok (.aload_n 0, 1) := by decide +kernel
theorem dX3_take_67 : decode cX3_take 67 = .ok (.getfield 28, 3) := by decide +kernel
theorem dX3_take_70 : decode cX3_take 70 = .ok (.iaload, 1) := by decide +kernel
theorem dX3_take_71 : decode cX3_take 71 = .ok (.istore_n 2, 1) := by decide +kernel
theorem dX3_take_72 : decode cX3_take 72 = .ok (.goto 13, 3) := by decide +kernel
theorem dX3_take_75 : decode cX3_take 75 = .ok (.aload_n 0, 1) := by decide +kernel
theorem dX3_take_76 : decode cX3_take 76 = .ok (.dup, 1) := by decide +kernel
theorem dX3_take_77 : decode cX3_take 77 = .ok (.getfield 24, 3) := by decide +kernel
theorem dX3_take_80 : decode cX3_take 80 = .ok (.iconst 1, 1) := by decide +kernel
theorem dX3_take_81 : decode cX3_take 81 = .ok (.iadd, 1) := by decide +kernel
theorem dX3_take_82 : decode cX3_take 82 = .ok (.putfield 24, 3) := by decide +kernel
theorem dX3_take_85 : decode cX3_take 85 = .ok (.aload_n 0, 1) := by decide +kernel
theorem dX3_take_86 : decode cX3_take 86 = .ok (.getfield 18, 3) := by decide +kernel
theorem dX3_take_89 : decode cX3_take 89 = .ok (.iload_n 2, 1) := by decide +kernel
theorem dX3_take_90 : decode cX3_take 90 = .ok (.iconst 0, 1) := by decide +kernel
theorem dX3_take_91 : decode cX3_take 91 = .ok (.iastore, 1) := by decide +kernel
theorem dX3_take_92 : decode cX3_take 92 = .ok (.aload_n 0, 1) := by decide +kernel
end
section
theorem dX3_take_93 : decode cX3_take 93 = .ok (.iload_n 2, 1) := by decide +kernel
theorem dX3_take_94 : decode cX3_take 94 = .ok (.iload_n 1, 1) := by decide +kernel
theorem dX3_take_95 : decode cX3_take 95 = .ok (.invokevirtual 42, 3) := by decide +kernel
theorem dX3_take_98 : decode cX3_take 98 = .ok (.iload_n 2, 1) := by decide +kernel
theorem dX3_take_99 : decode cX3_take 99 = .ok (.ireturn, 1) := by decide +kernel
theorem dX3_shift_0 : decode cX3_shift 0 = .ok (.iconst 0, 1) := by decide +kernel
theorem dX3_shift_1 : decode cX3_shift 1 = .ok (.istore_n 3, 1) := by decide +kernel
theorem dX3_shift_2 : decode cX3_shift 2 = .ok (.iload_n 3, 1) := by decide +kernel
theorem dX3_shift_3 : decode cX3_shift 3 = .ok (.aload_n 0, 1) := by decide +kernel
theorem dX3_shift_4 : decode cX3_shift 4 = .ok (.getfield 24, 3) := by decide +kernel
theorem dX3_shift_7 : decode cX3_shift 7 = .ok (.if_icmp .ge 42, 3) := by decide +kernel
theorem dX3_shift_10 : decode cX3_shift 10 = .ok (.aload_n 0, 1) := by decide +kernel
theorem dX3_shift_11 : decode cX3_shift 11 = .ok (.getfield 14, 3) := by decide +kernel
theorem dX3_shift_14 : decode cX3_shift 14 = .ok (.iload_n 3, 1) := by decide +kernel
theorem dX3_shift_15 : decode cX3_shift 15 = .ok (.dup2, 1) := by decide +kernel
theorem dX3_shift_16 : decode cX3_shift 16 = .ok (.iaload, 1) := by decide +kernel
theorem dX3_shift_17 : decode cX3_shift 17 = .ok (.aload_n 0, 1) := by decide +kernel
theorem dX3_shift_18 : decode cX3_shift 18 = .ok (.getfield 18, 3) := by decide +kernel
theorem dX3_shift_21 : decode cX3_shift 21 = .ok (.iload_n 3, 1) := by decide +kernel
theorem dX3_shift_22 : decode cX3_shift 22 = .ok (.iaload, 1) := by decide +kernel
theorem dX3_shift_23 : decode cX3_shift 23 = .ok (.ifCond .le 17, 3) := by decide +kernel
theorem dX3_shift_26 : decode cX3_shift 26 = .ok (.aload_n 0, 1) := by decide +kernel
theorem dX3_shift_27 : decode cX3_shift 27 = .ok (.getfield 14, 3) := by decide +kernel
theorem dX3_shift_30 : decode cX3_shift 30 = .ok (.iload_n 3, 1) := by decide +kernel
theorem dX3_shift_31 : decode cX3_shift 31 = .ok (.iaload, 1) := by decide +kernel
theorem dX3_shift_32 : decode cX3_shift 32 = .ok (.iload_n 1, 1) := by decide +kernel
theorem dX3_shift_33 : decode cX3_shift 33 = .ok (.if_icmp .le 7, 3) := by decide +kernel
theorem dX3_shift_36 : decode cX3_shift 36 = .ok (.iload_n 2, 1) := by decide +kernel
theorem dX3_shift_37 : decode cX3_shift 37 = .ok (.goto 4, 3) := by decide +kernel
theorem dX3_shift_40 : decode cX3_shift 40 = .ok (.iconst 0, 1) := by decide +kernel
theorem dX3_shift_41 : decode cX3_shift 41 = .ok (.iadd, 1) := by decide +kernel
theorem dX3_shift_42 : decode cX3_shift 42 = .ok (.iastore, 1) := by decide +kernel
theorem dX3_shift_43 : decode cX3_shift 43 = .ok (.iinc 3 1, 3) := by decide +kernel
theorem dX3_shift_46 : decode cX3_shift 46 = .ok (.goto (-44), 3) := by decide +kernel
theorem dX3_shift_49 : decode cX3_shift 49 = .ok (.return_, 1) := by decide +kernel
theorem dX3_change_0 : decode cX3_change 0 = .ok (.aload_n 0, 1) := by decide +kernel
theorem dX3_change_1 : decode cX3_change 1 = .ok (.getfield 18, 3) := by decide +kernel
theorem dX3_change_4 : decode cX3_change 4 = .ok (.iload_n 1, 1) := by decide +kernel
theorem dX3_change_5 : decode cX3_change 5 = .ok (.iaload, 1) := by decide +kernel
theorem dX3_change_6 : decode cX3_change 6 = .ok (.istore_n 3, 1) := by decide +kernel
theorem dX3_change_7 : decode cX3_change 7 = .ok (.aload_n 0, 1) := by decide +kernel
theorem dX3_change_8 : decode cX3_change 8 = .ok (.getfield 14, 3) := by decide +kernel
theorem dX3_change_11 : decode cX3_change 11 = .ok (.iload_n 1, 1) := by decide +kernel
theorem dX3_change_12 : decode cX3_change 12 = .ok (.iload_n 3, 1) := by decide +kernel
theorem dX3_change_13 : decode cX3_change 13 = .ok (.ifCond .ne 10, 3) := by decide +kernel
theorem dX3_change_16 : decode cX3_change 16 = .ok (.aload_n 0, 1) := by decide +kernel
theorem dX3_change_17 : decode cX3_change 17 = .ok (.getfield 46, 3) := by decide +kernel
theorem dX3_change_20 : decode cX3_change 20 = .ok (.goto 9, 3) := by decide +kernel
theorem dX3_change_23 : decode cX3_change 23 = .ok (.aload_n 0, 1) := by decide +kernel
theorem dX3_change_24 : decode cX3_change 24 = .ok (.getfield 14, 3) := by decide +kernel
theorem dX3_change_27 : decode cX3_change 27 = .ok (.iload_n 1, 1) := by decide +kernel
theorem dX3_change_28 : decode cX3_change 28 = .ok (.iaload, 1) := by decide +kernel
theorem dX3_change_29 : decode cX3_change 29 = .ok (.iastore, 1) := by decide +kernel
theorem dX3_change_30 : decode cX3_change 30 = .ok (.aload_n 0, 1) := by decide +kernel
theorem dX3_change_31 : decode cX3_change 31 = .ok (.getfield 14, 3) := by decide +kernel
theorem dX3_change_34 : decode cX3_change 34 = .ok (.iload_n 1, 1) := by decide +kernel
theorem dX3_change_35 : decode cX3_change 35 = .ok (.iaload, 1) := by decide +kernel
theorem dX3_change_36 : decode cX3_change 36 = .ok (.iload_n 3, 1) := by decide +kernel
theorem dX3_change_37 : decode cX3_change 37 = .ok (.iadd, 1) := by decide +kernel
theorem dX3_change_38 : decode cX3_change 38 = .ok (.istore 4, 2) := by decide +kernel
theorem dX3_change_40 : decode cX3_change 40 = .ok (.iload_n 2, 1) := by decide +kernel
theorem dX3_change_41 : decode cX3_change 41 = .ok (.iload_n 3, 1) := by decide +kernel
theorem dX3_change_42 : decode cX3_change 42 = .ok (.isub, 1) := by decide +kernel
theorem dX3_change_43 : decode cX3_change 43 = .ok (.istore 5, 2) := by decide +kernel
theorem dX3_change_45 : decode cX3_change 45 = .ok (.iload 4, 2) := by decide +kernel
theorem dX3_change_47 : decode cX3_change 47 = .ok (.istore 6, 2) := by decide +kernel
theorem dX3_change_49 : decode cX3_change 49 = .ok (.iload 6, 2) := by decide +kernel
theorem dX3_change_51 : decode cX3_change 51 = .ok (.aload_n 0, 1) := by decide +kernel
theorem dX3_change_52 : decode cX3_change 52 = .ok (.getfield 46, 3) := by decide +kernel
theorem dX3_change_55 : decode cX3_change 55 = .ok (.if_icmp .ge 31, 3) := by decide +kernel
theorem dX3_change_58 : decode cX3_change 58 = .ok (.iload 5, 2) := by decide +kernel
theorem dX3_change_60 : decode cX3_change 60 = .ok (.ifCond .ge 26, 3) := by decide +kernel
theorem dX3_change_63 : decode cX3_change 63 = .ok (.aload_n 0, 1) := by decide +kernel
theorem dX3_change_64 : decode cX3_change 64 = .ok (.getfield 8, 3) := by decide +kernel
theorem dX3_change_67 : decode cX3_change 67 = .ok (.iload 6, 2) := by decide +kernel
theorem dX3_change_69 : decode cX3_change 69 = .ok (.iload 5, 2) := by decide +kernel
theorem dX3_change_71 : decode cX3_change 71 = .ok (.iadd, 1) := by decide +kernel
theorem dX3_change_72 : decode cX3_change 72 = .ok (.aload_n 0, 1) := by decide +kernel
theorem dX3_change_73 : decode cX3_change 73 = .ok (.getfield 8, 3) := by decide +kernel
theorem dX3_change_76 : decode cX3_change 76 = .ok (.iload 6, 2) := by decide +kernel
theorem dX3_change_78 : decode cX3_change 78 = .ok (.baload, 1) := by decide +kernel
theorem dX3_change_79 : decode cX3_change 79 = .ok (.bastore, 1) := by decide +kernel
theorem dX3_change_80 : decode cX3_change 80 = .ok (.iinc 6 1, 3) := by decide +kernel
theorem dX3_change_83 : decode cX3_change 83 = .ok (.goto (-34), 3) := by decide +kernel
theorem dX3_change_86 : decode cX3_change 86 = .ok (.aload_n 0, 1) := by decide +kernel
theorem dX3_change_87 : decode cX3_change 87 = .ok (.getfield 46, 3) := by decide +kernel
theorem dX3_change_90 : decode cX3_change 90 = .ok (.iconst 1, 1) := by decide +kernel
theorem dX3_change_91 : decode cX3_change 91 = .ok (.isub, 1) := by decide +kernel
theorem dX3_change_92 : decode cX3_change 92 = .ok (.istore 6, 2) := by decide +kernel
theorem dX3_change_94 : decode cX3_change 94 = .ok (.iload 6, 2) := by decide +kernel
theorem dX3_change_96 : decode cX3_change 96 = .ok (.iload 4, 2) := by decide +kernel
theorem dX3_change_98 : decode cX3_change 98 = .ok (.if_icmp .lt 31, 3) := by decide +kernel
theorem dX3_change_101 : decode cX3_change 101 = .ok (.iload 5, 2) := by decide +kernel
theorem dX3_change_103 : decode cX3_change 103 = .ok (.ifCond .le 26, 3) := by decide +kernel
theorem dX3_change_106 : decode cX3_change 106 = .ok (.aload_n 0, 1) := by decide +kernel
theorem dX3_change_107 : decode cX3_change 107 = .ok (.getfield 8, 3) := by decide +kernel
theorem dX3_change_110 : decode cX3_change 110 = .ok (.iload 6, 2) := by decide +kernel
theorem dX3_change_112 : decode cX3_change 112 = .ok (.iload 5, 2) := by decide +kernel
theorem dX3_change_114 : decode cX3_change 114 = .ok (.iadd, 1) := by decide +kernel
theorem dX3_change_115 : decode cX3_change 115 = .ok (.aload_n 0, 1) := by decide +kernel
theorem dX3_change_116 : decode cX3_change 116 = .ok (.getfield 8, 3) := by decide +kernel
theorem dX3_change_119 : decode cX3_change 119 = .ok (.iload 6, 2) := by decide +kernel
theorem dX3_change_121 : decode cX3_change 121 = .ok (.baload, 1) := by decide +kernel
theorem dX3_change_122 : decode cX3_change 122 = .ok (.bastore, 1) := by decide +kernel
theorem dX3_change_123 : decode cX3_change 123 = .ok (.iinc 6 (-1), 3) := by decide +kernel
theorem dX3_change_126 : decode cX3_change 126 = .ok (.goto (-32), 3) := by decide +kernel
theorem dX3_change_129 : decode cX3_change 129 = .ok (.iload 4, 2) := by decide +kernel
theorem dX3_change_131 : decode cX3_change 131 = .ok (.istore 6, 2) := by decide +kernel
theorem dX3_change_133 : decode cX3_change 133 = .ok (.iload 6, 2) := by decide +kernel
theorem dX3_change_135 : decode cX3_change 135 = .ok (.iload 4, 2) := by decide +kernel
theorem dX3_change_137 : decode cX3_change 137 = .ok (.iload 5, 2) := by decide +kernel
theorem dX3_change_139 : decode cX3_change 139 = .ok (.iadd, 1) := by decide +kernel
theorem dX3_change_140 : decode cX3_change 140 = .ok (.if_icmp .ge 17, 3) := by decide +kernel
theorem dX3_change_143 : decode cX3_change 143 = .ok (.aload_n 0, 1) := by decide +kernel
theorem dX3_change_144 : decode cX3_change 144 = .ok (.getfield 8, 3) := by decide +kernel
theorem dX3_change_147 : decode cX3_change 147 = .ok (.iload 6, 2) := by decide +kernel
theorem dX3_change_149 : decode cX3_change 149 = .ok (.iconst 0, 1) := by decide +kernel
theorem dX3_change_150 : decode cX3_change 150 = .ok (.bastore, 1) := by decide +kernel
theorem dX3_change_151 : decode cX3_change 151 = .ok (.iinc 6 1, 3) := by decide +kernel
theorem dX3_change_154 : decode cX3_change 154 = .ok (.goto (-21), 3) := by decide +kernel
theorem dX3_change_157 : decode cX3_change 157 = .ok (.aload_n 0, 1) := by decide +kernel
theorem dX3_change_158 : decode cX3_change 158 = .ok (.aload_n 0, 1) := by decide +kernel
theorem dX3_change_159 : decode cX3_change 159 = .ok (.getfield 14, 3) := by decide +kernel
theorem dX3_change_162 : decode cX3_change 162 = .ok (.iload_n 1, 1) := by decide +kernel
theorem dX3_change_163 : decode cX3_change 163 = .ok (.iaload, 1) := by decide +kernel
theorem dX3_change_164 : decode cX3_change 164 = .ok (.iload 5, 2) := by decide +kernel
theorem dX3_change_166 : decode cX3_change 166 = .ok (.invokevirtual 49, 3) := by decide +kernel
theorem dX3_change_169 : decode cX3_change 169 = .ok (.aload_n 0, 1) := by decide +kernel
theorem dX3_change_170 : decode cX3_change 170 = .ok (.dup, 1) := by decide +kernel
theorem dX3_change_171 : decode cX3_change 171 = .ok (.getfield 46, 3) := by decide +kernel
theorem dX3_change_174 : decode cX3_change 174 = .ok (.iload 5, 2) := by decide +kernel
theorem dX3_change_176 : decode cX3_change 176 = .ok (.iadd, 1) := by decide +kernel
theorem dX3_change_177 : decode cX3_change 177 = .ok (.putfield 46, 3) := by decide +kernel
theorem dX3_change_180 : decode cX3_change 180 = .ok (.aload_n 0, 1) := by decide +kernel
theorem dX3_change_181 : decode cX3_change 181 = .ok (.dup, 1) := by decide +kernel
theorem dX3_change_182 : decode cX3_change 182 = .ok (.getfield 35, 3) := by decide +kernel
theorem dX3_change_185 : decode cX3_change 185 = .ok (.iload_n 2, 1) := by decide +kernel
theorem dX3_change_186 : decode cX3_change 186 = .ok (.invokestatic 38, 3) := by decide +kernel
theorem dX3_change_189 : decode cX3_change 189 = .ok (.iload_n 3, 1) := by decide +kernel
theorem dX3_change_190 : decode cX3_change 190 = .ok (.invokestatic 38, 3) := by decide +kernel
theorem dX3_change_193 : decode cX3_change 193 = .ok (.isub, 1) := by decide +kernel
theorem dX3_change_194 : decode cX3_change 194 = .ok (.iadd, 1) := by decide +kernel
theorem dX3_change_195 : decode cX3_change 195 = .ok (.putfield 35, 3) := by decide +kernel
theorem dX3_change_198 : decode cX3_change 198 = .ok (.aload_n 0, 1) := by decide +kernel
theorem dX3_change_199 : decode cX3_change 199 = .ok (.getfield 18, 3) := by decide +kernel
theorem dX3_change_202 : decode cX3_change 202 = .ok (.iload_n 1, 1) := by decide +kernel
theorem dX3_change_203 : decode cX3_change 203 = .ok (.iload_n 2, 1) := by decide +kernel
theorem dX3_change_204 : decode cX3_change 204 = .ok (.iastore, 1) := by decide +kernel
theorem dX3_change_205 : decode cX3_change 205 = .ok (.return_, 1) := by decide +kernel
theorem dX3_give_0 : decode cX3_give 0 = .ok (.aload_n 0, 1) := by decide +kernel
theorem dX3_give_1 : decode cX3_give 1 = .ok (.iload_n 1, 1) := by decide +kernel
theorem dX3_give_2 : decode cX3_give 2 = .ok (.invokevirtual 52, 3) := by decide +kernel
theorem dX3_give_5 : decode cX3_give 5 = .ok (.ifCond .ne 5, 3) := by decide +kernel
theorem dX3_give_8 : decode cX3_give 8 = .ok (.iconst 0, 1) := by decide +kernel
theorem dX3_give_9 : decode cX3_give 9 = .ok (.ireturn, 1) := by decide +kernel
theorem dX3_give_10 : decode cX3_give 10 = .ok (.aload_n 0, 1) := by decide +kernel
theorem dX3_give_11 : decode cX3_give 11 = .ok (.iload_n 1, 1) := by decide +kernel
theorem dX3_give_12 : decode cX3_give 12 = .ok (.iconst 0, 1) := by decide +kernel
theorem dX3_give_13 : decode cX3_give 13 = .ok (.invokevirtual 42, 3) := by decide +kernel
theorem dX3_give_16 : decode cX3_give 16 = .ok (.aload_n 0, 1) := by decide +kernel
theorem dX3_give_17 : decode cX3_give 17 = .ok (.getfield 18, 3) := by decide +kernel
theorem dX3_give_20 : decode cX3_give 20 = .ok (.iload_n 1, 1) := by decide +kernel
theorem dX3_give_21 : decode cX3_give 21 = .ok (.iconst (-1), 1) := by decide +kernel
theorem dX3_give_22 : decode cX3_give 22 = .ok (.iastore, 1) := by decide +kernel
theorem dX3_give_23 : decode cX3_give 23 = .ok (.aload_n 0, 1) := by decide +kernel
theorem dX3_give_24 : decode cX3_give 24 = .ok (.getfield 21, 3) := by decide +kernel
theorem dX3_give_27 : decode cX3_give 27 = .ok (.aload_n 0, 1) := by decide +kernel
theorem dX3_give_28 : decode cX3_give 28 = .ok (.getfield 28, 3) := by decide +kernel
theorem dX3_give_31 : decode cX3_give 31 = .ok (.iload_n 1, 1) := by decide +kernel
theorem dX3_give_32 : decode cX3_give 32 = .ok (.iastore, 1) := by decide +kernel
theorem dX3_give_33 : decode cX3_give 33 = .ok (.aload_n 0, 1) := by decide +kernel
theorem dX3_give_34 : decode cX3_give 34 = .ok (.dup, 1) := by decide +kernel
theorem dX3_give_35 : decode cX3_give 35 = .ok (.getfield 28, 3) := by decide +kernel
theorem dX3_give_38 : decode cX3_give 38 = .ok (.iconst 1, 1) := by decide +kernel
theorem dX3_give_39 : decode cX3_give 39 = .ok (.iadd, 1) := by decide +kernel
theorem dX3_give_40 : decode cX3_give 40 = .ok (.putfield 28, 3) := by decide +kernel
theorem dX3_give_43 : decode cX3_give 43 = .ok (.iconst 1, 1) := by decide +kernel
theorem dX3_give_44 : decode cX3_give 44 = .ok (.ireturn, 1) := by decide +kernel
theorem dX3_hasRoom_0 : decode cX3_hasRoom 0 = .ok (.iload_n 2, 1) := by decide +kernel
theorem dX3_hasRoom_1 : decode cX3_hasRoom 1 = .ok (.invokestatic 38, 3) := by decide +kernel
theorem dX3_hasRoom_4 : decode cX3_hasRoom 4 = .ok (.aload_n 0, 1) := by decide +kernel
theorem dX3_hasRoom_5 : decode cX3_hasRoom 5 = .ok (.getfield 18, 3) := by decide +kernel
theorem dX3_hasRoom_8 : decode cX3_hasRoom 8 = .ok (.iload_n 1, 1) := by decide +kernel
theorem dX3_hasRoom_9 : decode cX3_hasRoom 9 = .ok (.iaload, 1) := by decide +kernel
theorem dX3_hasRoom_10 : decode cX3_hasRoom 10 = .ok (.invokestatic 38, 3) := by decide +kernel
theorem dX3_hasRoom_13 : decode cX3_hasRoom 13 = .ok (.if_icmp .le 17, 3) := by decide +kernel
theorem dX3_hasRoom_16 : decode cX3_hasRoom 16 = .ok (.aload_n 0, 1) := by decide +kernel
theorem dX3_hasRoom_17 : decode cX3_hasRoom 17 = .ok (.getfield 35, 3) := by decide +kernel
theorem dX3_hasRoom_20 : decode cX3_hasRoom 20 = .ok (.iload_n 2, 1) := by decide +kernel
theorem dX3_hasRoom_21 : decode cX3_hasRoom 21 = .ok (.invokestatic 38, 3) := by decide +kernel
theorem dX3_hasRoom_24 : decode cX3_hasRoom 24 = .ok (.iadd, 1) := by decide +kernel
theorem dX3_hasRoom_25 : decode cX3_hasRoom 25 = .ok (.ldc 7, 2) := by decide +kernel
theorem dX3_hasRoom_27 : decode cX3_hasRoom 27 = .ok (.if_icmp .gt 7, 3) := by decide +kernel
theorem dX3_hasRoom_30 : decode cX3_hasRoom 30 = .ok (.iconst 1, 1) := by decide +kernel
theorem dX3_hasRoom_31 : decode cX3_hasRoom 31 = .ok (.goto 4, 3) := by decide +kernel
theorem dX3_hasRoom_34 : decode cX3_hasRoom 34 = .ok (.iconst 0, 1) := by decide +kernel
theorem dX3_hasRoom_35 : decode cX3_hasRoom 35 = .ok (.ireturn, 1) := by decide +kernel
theorem dX3_resize_0 : decode cX3_resize 0 = .ok (.aload_n 0, 1) := by decide +kernel
theorem dX3_resize_1 : decode cX3_resize 1 = .ok (.iload_n 1, 1) := by decide +kernel
theorem dX3_resize_2 : decode cX3_resize 2 = .ok (.invokevirtual 52, 3) := by decide +kernel
theorem dX3_resize_5 : decode cX3_resize 5 = .ok (.ifCond .eq 14, 3) := by decide +kernel
theorem dX3_resize_8 : decode cX3_resize 8 = .ok (.iload_n 2, 1) := by decide +kernel
theorem dX3_resize_9 : decode cX3_resize 9 = .ok (.ifCond .lt 10, 3) := by decide +kernel
theorem dX3_resize_12 : decode cX3_resize 12 = .ok (.iload_n 2, 1) := by decide +kernel
theorem dX3_resize_13 : decode cX3_resize 13 = .ok (.sipush 16384, 3) := by decide +kernel
theorem dX3_resize_16 : decode cX3_resize 16 = .ok (.if_icmp .le 5, 3) := by decide +kernel
theorem dX3_resize_19 : decode cX3_resize 19 = .ok (.iconst (-1), 1) := by decide +kernel
theorem dX3_resize_20 : decode cX3_resize 20 = .ok (.ireturn, 1) := by decide +kernel
theorem dX3_resize_21 : decode cX3_resize 21 = .ok (.aload_n 0, 1) := by decide +kernel
theorem dX3_resize_22 : decode cX3_resize 22 = .ok (.iload_n 1, 1) := by decide +kernel
theorem dX3_resize_23 : decode cX3_resize 23 = .ok (.iload_n 2, 1) := by decide +kernel
theorem dX3_resize_24 : decode cX3_resize 24 = .ok (.invokevirtual 56, 3) := by decide +kernel
theorem dX3_resize_27 : decode cX3_resize 27 = .ok (.ifCond .ne 6, 3) := by decide +kernel
theorem dX3_resize_30 : decode cX3_resize 30 = .ok (.bipush (-2), 2) := by decide +kernel
theorem dX3_resize_32 : decode cX3_resize 32 = .ok (.ireturn, 1) := by decide +kernel
theorem dX3_resize_33 : decode cX3_resize 33 = .ok (.aload_n 0, 1) := by decide +kernel
theorem dX3_resize_34 : decode cX3_resize 34 = .ok (.iload_n 1, 1) := by decide +kernel
theorem dX3_resize_35 : decode cX3_resize 35 = .ok (.iload_n 2, 1) := by decide +kernel
theorem dX3_resize_36 : decode cX3_resize 36 = .ok (.invokevirtual 42, 3) := by decide +kernel
theorem dX3_resize_39 : decode cX3_resize 39 = .ok (.iload_n 2, 1) := by decide +kernel
theorem dX3_resize_40 : decode cX3_resize 40 = .ok (.ireturn, 1) := by decide +kernel
theorem dX3_put_0 : decode cX3_put 0 = .ok (.aload_n 0, 1) := by decide +kernel
theorem dX3_put_1 : decode cX3_put 1 = .ok (.iload_n 1, 1) := by decide +kernel
theorem dX3_put_2 : decode cX3_put 2 = .ok (.invokevirtual 52, 3) := by decide +kernel
theorem dX3_put_5 : decode cX3_put 5 = .ok (.ifCond .eq 17, 3) := by decide +kernel
theorem dX3_put_8 : decode cX3_put 8 = .ok (.iload_n 2, 1) := by decide +kernel
theorem dX3_put_9 : decode cX3_put 9 = .ok (.ifCond .lt 13, 3) := by decide +kernel
theorem dX3_put_12 : decode cX3_put 12 = .ok (.iload_n 2, 1) := by decide +kernel
theorem dX3_put_13 : decode cX3_put 13 = .ok (.aload_n 0, 1) := by decide +kernel
theorem dX3_put_14 : decode cX3_put 14 = .ok (.getfield 18, 3) := by decide +kernel
theorem dX3_put_17 : decode cX3_put 17 = .ok (.iload_n 1, 1) := by decide +kernel
theorem dX3_put_18 : decode cX3_put 18 = .ok (.iaload, 1) := by decide +kernel
theorem dX3_put_19 : decode cX3_put 19 = .ok (.if_icmp .lt 5, 3) := by decide +kernel
theorem dX3_put_22 : decode cX3_put 22 = .ok (.iconst 0, 1) := by decide +kernel
theorem dX3_put_23 : decode cX3_put 23 = .ok (.ireturn, 1) := by decide +kernel
theorem dX3_put_24 : decode cX3_put 24 = .ok (.aload_n 0, 1) := by decide +kernel
theorem dX3_put_25 : decode cX3_put 25 = .ok (.getfield 8, 3) := by decide +kernel
theorem dX3_put_28 : decode cX3_put 28 = .ok (.aload_n 0, 1) := by decide +kernel
theorem dX3_put_29 : decode cX3_put 29 = .ok (.getfield 14, 3) := by decide +kernel
theorem dX3_put_32 : decode cX3_put 32 = .ok (.iload_n 1, 1) := by decide +kernel
theorem dX3_put_33 : decode cX3_put 33 = .ok (.iaload, 1) := by decide +kernel
theorem dX3_put_34 : decode cX3_put 34 = .ok (.iload_n 2, 1) := by decide +kernel
theorem dX3_put_35 : decode cX3_put 35 = .ok (.iadd, 1) := by decide +kernel
theorem dX3_put_36 : decode cX3_put 36 = .ok (.iload_n 3, 1) := by decide +kernel
theorem dX3_put_37 : decode cX3_put 37 = .ok (.i2b, 1) := by decide +kernel
theorem dX3_put_38 : decode cX3_put 38 = .ok (.bastore, 1) := by decide +kernel
theorem dX3_put_39 : decode cX3_put 39 = .ok (.iconst 1, 1) := by decide +kernel
theorem dX3_put_40 : decode cX3_put 40 = .ok (.ireturn, 1) := by decide +kernel
theorem dX3_fill_0 : decode cX3_fill 0 = .ok (.aload_n 0, 1) := by decide +kernel
theorem dX3_fill_1 : decode cX3_fill 1 = .ok (.iload_n 1, 1) := by decide +kernel
theorem dX3_fill_2 : decode cX3_fill 2 = .ok (.invokevirtual 52, 3) := by decide +kernel
theorem dX3_fill_5 : decode cX3_fill 5 = .ok (.ifCond .eq 33, 3) := by decide +kernel
theorem dX3_fill_8 : decode cX3_fill 8 = .ok (.iload_n 2, 1) := by decide +kernel
theorem dX3_fill_9 : decode cX3_fill 9 = .ok (.ifCond .lt 29, 3) := by decide +kernel
theorem dX3_fill_12 : decode cX3_fill 12 = .ok (.iload_n 3, 1) := by decide +kernel
theorem dX3_fill_13 : decode cX3_fill 13 = .ok (.ifCond .lt 25, 3) := by decide +kernel
theorem dX3_fill_16 : decode cX3_fill 16 = .ok (.iload_n 2, 1) := by decide +kernel
theorem dX3_fill_17 : decode cX3_fill 17 = .ok (.aload_n 0, 1) := by decide +kernel
theorem dX3_fill_18 : decode cX3_fill 18 = .ok (.getfield 18, 3) := by decide +kernel
theorem dX3_fill_21 : decode cX3_fill 21 = .ok (.iload_n 1, 1) := by decide +kernel
theorem dX3_fill_22 : decode cX3_fill 22 = .ok (.iaload, 1) := by decide +kernel
theorem dX3_fill_23 : decode cX3_fill 23 = .ok (.if_icmp .gt 15, 3) := by decide +kernel
theorem dX3_fill_26 : decode cX3_fill 26 = .ok (.iload_n 3, 1) := by decide +kernel
theorem dX3_fill_27 : decode cX3_fill 27 = .ok (.aload_n 0, 1) := by decide +kernel
theorem dX3_fill_28 : decode cX3_fill 28 = .ok (.getfield 18, 3) := by decide +kernel
theorem dX3_fill_31 : decode cX3_fill 31 = .ok (.iload_n 1, 1) := by decide +kernel
theorem dX3_fill_32 : decode cX3_fill 32 = .ok (.iaload, 1) := by decide +kernel
theorem dX3_fill_33 : decode cX3_fill 33 = .ok (.iload_n 2, 1) := by decide +kernel
theorem dX3_fill_34 : decode cX3_fill 34 = .ok (.isub, 1) := by decide +kernel
theorem dX3_fill_35 : decode cX3_fill 35 = .ok (.if_icmp .le 5, 3) := by decide +kernel
theorem dX3_fill_38 : decode cX3_fill 38 = .ok (.iconst 0, 1) := by decide +kernel
theorem dX3_fill_39 : decode cX3_fill 39 = .ok (.ireturn, 1) := by decide +kernel
theorem dX3_fill_40 : decode cX3_fill 40 = .ok (.iconst 0, 1) := by decide +kernel
theorem dX3_fill_41 : decode cX3_fill 41 = .ok (.istore 5, 2) := by decide +kernel
theorem dX3_fill_43 : decode cX3_fill 43 = .ok (.iload 5, 2) := by decide +kernel
theorem dX3_fill_45 : decode cX3_fill 45 = .ok (.iload_n 3, 1) := by decide +kernel
theorem dX3_fill_46 : decode cX3_fill 46 = .ok (.if_icmp .ge 41, 3) := by decide +kernel
theorem dX3_fill_49 : decode cX3_fill 49 = .ok (.aload_n 0, 1) := by decide +kernel
theorem dX3_fill_50 : decode cX3_fill 50 = .ok (.getfield 8, 3) := by decide +kernel
theorem dX3_fill_53 : decode cX3_fill 53 = .ok (.aload_n 0, 1) := by decide +kernel
theorem dX3_fill_54 : decode cX3_fill 54 = .ok (.getfield 14, 3) := by decide +kernel
theorem dX3_fill_57 : decode cX3_fill 57 = .ok (.iload_n 1, 1) := by decide +kernel
theorem dX3_fill_58 : decode cX3_fill 58 = .ok (.iaload, 1) := by decide +kernel
theorem dX3_fill_59 : decode cX3_fill 59 = .ok (.iload_n 2, 1) := by decide +kernel
theorem dX3_fill_60 : decode cX3_fill 60 = .ok (.iadd, 1) := by decide +kernel
theorem dX3_fill_61 : decode cX3_fill 61 = .ok (.iload 5, 2) := by decide +kernel
theorem dX3_fill_63 : decode cX3_fill 63 = .ok (.iadd, 1) := by decide +kernel
theorem dX3_fill_64 : decode cX3_fill 64 = .ok (.iload 4, 2) := by decide +kernel
theorem dX3_fill_66 : decode cX3_fill 66 = .ok (.bipush 7, 2) := by decide +kernel
theorem dX3_fill_68 : decode cX3_fill 68 = .ok (.iload 5, 2) := by decide +kernel
theorem dX3_fill_70 : decode cX3_fill 70 = .ok (.imul, 1) := by decide +kernel
theorem dX3_fill_71 : decode cX3_fill 71 = .ok (.iadd, 1) := by decide +kernel
theorem dX3_fill_72 : decode cX3_fill 72 = .ok (.iload 5, 2) := by decide +kernel
theorem dX3_fill_74 : decode cX3_fill 74 = .ok (.sipush 250, 3) := by decide +kernel
theorem dX3_fill_77 : decode cX3_fill 77 = .ok (.idiv, 1) := by decide +kernel
theorem dX3_fill_78 : decode cX3_fill 78 = .ok (.iadd, 1) := by decide +kernel
theorem dX3_fill_79 : decode cX3_fill 79 = .ok (.i2b, 1) := by decide +kernel
theorem dX3_fill_80 : decode cX3_fill 80 = .ok (.bastore, 1) := by decide +kernel
theorem dX3_fill_81 : decode cX3_fill 81 = .ok (.iinc 5 1, 3) := by decide +kernel
theorem dX3_fill_84 : decode cX3_fill 84 = .ok (.goto (-41), 3) := by decide +kernel
theorem dX3_fill_87 : decode cX3_fill 87 = .ok (.iconst 1, 1) := by decide +kernel
theorem dX3_fill_88 : decode cX3_fill 88 = .ok (.ireturn, 1) := by decide +kernel
theorem dX3_copy_0 : decode cX3_copy 0 = .ok (.aload_n 0, 1) := by decide +kernel
theorem dX3_copy_1 : decode cX3_copy 1 = .ok (.iload_n 1, 1) := by decide +kernel
theorem dX3_copy_2 : decode cX3_copy 2 = .ok (.invokevirtual 52, 3) := by decide +kernel
theorem dX3_copy_5 : decode cX3_copy 5 = .ok (.ifCond .eq 11, 3) := by decide +kernel
theorem dX3_copy_8 : decode cX3_copy 8 = .ok (.aload_n 0, 1) := by decide +kernel
theorem dX3_copy_9 : decode cX3_copy 9 = .ok (.iload_n 2, 1) := by decide +kernel
theorem dX3_copy_10 : decode cX3_copy 10 = .ok (.invokevirtual 52, 3) := by decide +kernel
theorem dX3_copy_13 : decode cX3_copy 13 = .ok (.ifCond .ne 5, 3) := by decide +kernel
theorem dX3_copy_16 : decode cX3_copy 16 = .ok (.iconst (-1), 1) := by decide +kernel
theorem dX3_copy_17 : decode cX3_copy 17 = .ok (.ireturn, 1) := by decide +kernel
theorem dX3_copy_18 : decode cX3_copy 18 = .ok (.aload_n 0, 1) := by decide +kernel
theorem dX3_copy_19 : decode cX3_copy 19 = .ok (.getfield 18, 3) := by decide +kernel
theorem dX3_copy_22 : decode cX3_copy 22 = .ok (.iload_n 2, 1) := by decide +kernel
theorem dX3_copy_23 : decode cX3_copy 23 = .ok (.iaload, 1) := by decide +kernel
theorem dX3_copy_24 : decode cX3_copy 24 = .ok (.istore_n 3, 1) := by decide +kernel
theorem dX3_copy_25 : decode cX3_copy 25 = .ok (.aload_n 0, 1) := by decide +kernel
theorem dX3_copy_26 : decode cX3_copy 26 = .ok (.iload_n 1, 1) := by decide +kernel
theorem dX3_copy_27 : decode cX3_copy 27 = .ok (.iload_n 3, 1) := by decide +kernel
theorem dX3_copy_28 : decode cX3_copy 28 = .ok (.invokevirtual 56, 3) := by decide +kernel
theorem dX3_copy_31 : decode cX3_copy 31 = .ok (.ifCond .ne 6, 3) := by decide +kernel
theorem dX3_copy_34 : decode cX3_copy 34 = .ok (.bipush (-2), 2) := by decide +kernel
theorem dX3_copy_36 : decode cX3_copy 36 = .ok (.ireturn, 1) := by decide +kernel
theorem dX3_copy_37 : decode cX3_copy 37 = .ok (.aload_n 0, 1) := by decide +kernel
theorem dX3_copy_38 : decode cX3_copy 38 = .ok (.iload_n 1, 1) := by decide +kernel
theorem dX3_copy_39 : decode cX3_copy 39 = .ok (.iload_n 3, 1) := by decide +kernel
theorem dX3_copy_40 : decode cX3_copy 40 = .ok (.invokevirtual 42, 3) := by decide +kernel
theorem dX3_copy_43 : decode cX3_copy 43 = .ok (.iconst 0, 1) := by decide +kernel
theorem dX3_copy_44 : decode cX3_copy 44 = .ok (.istore 4, 2) := by decide +kernel
theorem dX3_copy_46 : decode cX3_copy 46 = .ok (.iload 4, 2) := by decide +kernel
theorem dX3_copy_48 : decode cX3_copy 48 = .ok (.iload_n 3, 1) := by decide +kernel
theorem dX3_copy_49 : decode cX3_copy 49 = .ok (.if_icmp .ge 37, 3) := by decide +kernel
theorem dX3_copy_52 : decode cX3_copy 52 = .ok (.aload_n 0, 1) := by decide +kernel
theorem dX3_copy_53 : decode cX3_copy 53 = .ok (.getfield 8, 3) := by decide +kernel
theorem dX3_copy_56 : decode cX3_copy 56 = .ok (.aload_n 0, 1) := by decide +kernel
theorem dX3_copy_57 : decode cX3_copy 57 = .ok (.getfield 14, 3) := by decide +kernel
theorem dX3_copy_60 : decode cX3_copy 60 = .ok (.iload_n 1, 1) := by decide +kernel
theorem dX3_copy_61 : decode cX3_copy 61 = .ok (.iaload, 1) := by decide +kernel
theorem dX3_copy_62 : decode cX3_copy 62 = .ok (.iload 4, 2) := by decide +kernel
theorem dX3_copy_64 : decode cX3_copy 64 = .ok (.iadd, 1) := by decide +kernel
theorem dX3_copy_65 : decode cX3_copy 65 = .ok (.aload_n 0, 1) := by decide +kernel
theorem dX3_copy_66 : decode cX3_copy 66 = .ok (.getfield 8, 3) := by decide +kernel
theorem dX3_copy_69 : decode cX3_copy 69 = .ok (.aload_n 0, 1) := by decide +kernel
theorem dX3_copy_70 : decode cX3_copy 70 = .ok (.getfield 14, 3) := by decide +kernel
theorem dX3_copy_73 : decode cX3_copy 73 = .ok (.iload_n 2, 1) := by decide +kernel
theorem dX3_copy_74 : decode cX3_copy 74 = .ok (.iaload, 1) := by decide +kernel
theorem dX3_copy_75 : decode cX3_copy 75 = .ok (.iload 4, 2) := by decide +kernel
theorem dX3_copy_77 : decode cX3_copy 77 = .ok (.iadd, 1) := by decide +kernel
theorem dX3_copy_78 : decode cX3_copy 78 = .ok (.baload, 1) := by decide +kernel
theorem dX3_copy_79 : decode cX3_copy 79 = .ok (.bastore, 1) := by decide +kernel
theorem dX3_copy_80 : decode cX3_copy 80 = .ok (.iinc 4 1, 3) := by decide +kernel
theorem dX3_copy_83 : decode cX3_copy 83 = .ok (.goto (-37), 3) := by decide +kernel
theorem dX3_copy_86 : decode cX3_copy 86 = .ok (.iload_n 3, 1) := by decide +kernel
theorem dX3_copy_87 : decode cX3_copy 87 = .ok (.ireturn, 1) := by decide +kernel
theorem dX3_get_0 : decode cX3_get 0 = .ok (.aload_n 0, 1) := by decide +kernel
theorem dX3_get_1 : decode cX3_get 1 = .ok (.iload_n 1, 1) := by decide +kernel
theorem dX3_get_2 : decode cX3_get 2 = .ok (.invokevirtual 52, 3) := by decide +kernel
theorem dX3_get_5 : decode cX3_get 5 = .ok (.ifCond .eq 37, 3) := by decide +kernel
theorem dX3_get_8 : decode cX3_get 8 = .ok (.iload_n 2, 1) := by decide +kernel
theorem dX3_get_9 : decode cX3_get 9 = .ok (.ifCond .lt 33, 3) := by decide +kernel
theorem dX3_get_12 : decode cX3_get 12 = .ok (.iload_n 2, 1) := by decide +kernel
theorem dX3_get_13 : decode cX3_get 13 = .ok (.aload_n 0, 1) := by decide +kernel
theorem dX3_get_14 : decode cX3_get 14 = .ok (.getfield 18, 3) := by decide +kernel
theorem dX3_get_17 : decode cX3_get 17 = .ok (.iload_n 1, 1) := by decide +kernel
theorem dX3_get_18 : decode cX3_get 18 = .ok (.iaload, 1) := by decide +kernel
theorem dX3_get_19 : decode cX3_get 19 = .ok (.if_icmp .ge 23, 3) := by decide +kernel
theorem dX3_get_22 : decode cX3_get 22 = .ok (.aload_n 0, 1) := by decide +kernel
theorem dX3_get_23 : decode cX3_get 23 = .ok (.getfield 8, 3) := by decide +kernel
theorem dX3_get_26 : decode cX3_get 26 = .ok (.aload_n 0, 1) := by decide +kernel
theorem dX3_get_27 : decode cX3_get 27 = .ok (.getfield 14, 3) := by decide +kernel
theorem dX3_get_30 : decode cX3_get 30 = .ok (.iload_n 1, 1) := by decide +kernel
theorem dX3_get_31 : decode cX3_get 31 = .ok (.iaload, 1) := by decide +kernel
theorem dX3_get_32 : decode cX3_get 32 = .ok (.iload_n 2, 1) := by decide +kernel
theorem dX3_get_33 : decode cX3_get 33 = .ok (.iadd, 1) := by decide +kernel
theorem dX3_get_34 : decode cX3_get 34 = .ok (.baload, 1) := by decide +kernel
theorem dX3_get_35 : decode cX3_get 35 = .ok (.sipush 255, 3) := by decide +kernel
theorem dX3_get_38 : decode cX3_get 38 = .ok (.iand, 1) := by decide +kernel
theorem dX3_get_39 : decode cX3_get 39 = .ok (.goto 4, 3) := by decide +kernel
theorem dX3_get_42 : decode cX3_get 42 = .ok (.iconst (-1), 1) := by decide +kernel
theorem dX3_get_43 : decode cX3_get 43 = .ok (.ireturn, 1) := by decide +kernel
theorem dX3_size_0 : decode cX3_size 0 = .ok (.aload_n 0, 1) := by decide +kernel
theorem dX3_size_1 : decode cX3_size 1 = .ok (.iload_n 1, 1) := by decide +kernel
theorem dX3_size_2 : decode cX3_size 2 = .ok (.invokevirtual 52, 3) := by decide +kernel
theorem dX3_size_5 : decode cX3_size 5 = .ok (.ifCond .eq 12, 3) := by decide +kernel
theorem dX3_size_8 : decode cX3_size 8 = .ok (.aload_n 0, 1) := by decide +kernel
theorem dX3_size_9 : decode cX3_size 9 = .ok (.getfield 18, 3) := by decide +kernel
theorem dX3_size_12 : decode cX3_size 12 = .ok (.iload_n 1, 1) := by decide +kernel
theorem dX3_size_13 : decode cX3_size 13 = .ok (.iaload, 1) := by decide +kernel
theorem dX3_size_14 : decode cX3_size 14 = .ok (.goto 4, 3) := by decide +kernel
theorem dX3_size_17 : decode cX3_size 17 = .ok (.iconst (-1), 1) := by decide +kernel
theorem dX3_size_18 : decode cX3_size 18 = .ok (.ireturn, 1) := by decide +kernel
theorem dX3_compare_0 : decode cX3_compare 0 = .ok (.aload_n 0, 1) := by decide +kernel
theorem dX3_compare_1 : decode cX3_compare 1 = .ok (.iload_n 1, 1) := by decide +kernel
theorem dX3_compare_2 : decode cX3_compare 2 = .ok (.invokevirtual 52, 3) := by decide +kernel
theorem dX3_compare_5 : decode cX3_compare 5 = .ok (.ifCond .eq 11, 3) := by decide +kernel
theorem dX3_compare_8 : decode cX3_compare 8 = .ok (.aload_n 0, 1) := by decide +kernel
theorem dX3_compare_9 : decode cX3_compare 9 = .ok (.iload_n 2, 1) := by decide +kernel
theorem dX3_compare_10 : decode cX3_compare 10 = .ok (.invokevirtual 52, 3) := by decide +kernel
theorem dX3_compare_13 : decode cX3_compare 13 = .ok (.ifCond .ne 6, 3) := by decide +kernel
theorem dX3_compare_16 : decode cX3_compare 16 = .ok (.bipush (-2), 2) := by decide +kernel
theorem dX3_compare_18 : decode cX3_compare 18 = .ok (.ireturn, 1) := by decide +kernel
theorem dX3_compare_19 : decode cX3_compare 19 = .ok (.iconst 0, 1) := by decide +kernel
theorem dX3_compare_20 : decode cX3_compare 20 = .ok (.istore_n 3, 1) := by decide +kernel
theorem dX3_compare_21 : decode cX3_compare 21 = .ok (.iload_n 3, 1) := by decide +kernel
theorem dX3_compare_22 : decode cX3_compare 22 = .ok (.aload_n 0, 1) := by decide +kernel
theorem dX3_compare_23 : decode cX3_compare 23 = .ok (.getfield 18, 3) := by decide +kernel
theorem dX3_compare_26 : decode cX3_compare 26 = .ok (.iload_n 1, 1) := by decide +kernel
theorem dX3_compare_27 : decode cX3_compare 27 = .ok (.iaload, 1) := by decide +kernel
theorem dX3_compare_28 : decode cX3_compare 28 = .ok (.if_icmp .ge 50, 3) := by decide +kernel
theorem dX3_compare_31 : decode cX3_compare 31 = .ok (.iload_n 3, 1) := by decide +kernel
theorem dX3_compare_32 : decode cX3_compare 32 = .ok (.aload_n 0, 1) := by decide +kernel
theorem dX3_compare_33 : decode cX3_compare 33 = .ok (.getfield 18, 3) := by decide +kernel
theorem dX3_compare_36 : decode cX3_compare 36 = .ok (.iload_n 2, 1) := by decide +kernel
theorem dX3_compare_37 : decode cX3_compare 37 = .ok (.iaload, 1) := by decide +kernel
theorem dX3_compare_38 : decode cX3_compare 38 = .ok (.if_icmp .ge 40, 3) := by decide +kernel
theorem dX3_compare_41 : decode cX3_compare 41 = .ok (.aload_n 0, 1) := by decide +kernel
theorem dX3_compare_42 : decode cX3_compare 42 = .ok (.iload_n 1, 1) := by decide +kernel
theorem dX3_compare_43 : decode cX3_compare 43 = .ok (.iload_n 3, 1) := by decide +kernel
theorem dX3_compare_44 : decode cX3_compare 44 = .ok (.invokevirtual 60, 3) := by decide +kernel
theorem dX3_compare_47 : decode cX3_compare 47 = .ok (.aload_n 0, 1) := by decide +kernel
theorem dX3_compare_48 : decode cX3_compare 48 = .ok (.iload_n 2, 1) := by decide +kernel
theorem dX3_compare_49 : decode cX3_compare 49 = .ok (.iload_n 3, 1) := by decide +kernel
theorem dX3_compare_50 : decode cX3_compare 50 = .ok (.invokevirtual 60, 3) := by decide +kernel
theorem dX3_compare_53 : decode cX3_compare 53 = .ok (.isub, 1) := by decide +kernel
theorem dX3_compare_54 : decode cX3_compare 54 = .ok (.istore 4, 2) := by decide +kernel
theorem dX3_compare_56 : decode cX3_compare 56 = .ok (.iload 4, 2) := by decide +kernel
theorem dX3_compare_58 : decode cX3_compare 58 = .ok (.ifCond .eq 14, 3) := by decide +kernel
theorem dX3_compare_61 : decode cX3_compare 61 = .ok (.iload 4, 2) := by decide +kernel
theorem dX3_compare_63 : decode cX3_compare 63 = .ok (.ifCond .ge 7, 3) := by decide +kernel
theorem dX3_compare_66 : decode cX3_compare 66 = .ok (.iconst (-1), 1) := by decide +kernel
theorem dX3_compare_67 : decode cX3_compare 67 = .ok (.goto 4, 3) := by decide +kernel
theorem dX3_compare_70 : decode cX3_compare 70 = .ok (.iconst 1, 1) := by decide +kernel
theorem dX3_compare_71 : decode cX3_compare 71 = .ok (.ireturn, 1) := by decide +kernel
theorem dX3_compare_72 : decode cX3_compare 72 = .ok (.iinc 3 1, 3) := by decide +kernel
theorem dX3_compare_75 : decode cX3_compare 75 = .ok (.goto (-54), 3) := by decide +kernel
theorem dX3_compare_78 : decode cX3_compare 78 = .ok (.aload_n 0, 1) := by decide +kernel
theorem dX3_compare_79 : decode cX3_compare 79 = .ok (.getfield 18, 3) := by decide +kernel
theorem dX3_compare_82 : decode cX3_compare 82 = .ok (.iload_n 1, 1) := by decide +kernel
theorem dX3_compare_83 : decode cX3_compare 83 = .ok (.iaload, 1) := by decide +kernel
theorem dX3_compare_84 : decode cX3_compare 84 = .ok (.aload_n 0, 1) := by decide +kernel
theorem dX3_compare_85 : decode cX3_compare 85 = .ok (.getfield 18, 3) := by decide +kernel
theorem dX3_compare_88 : decode cX3_compare 88 = .ok (.iload_n 2, 1) := by decide +kernel
theorem dX3_compare_89 : decode cX3_compare 89 = .ok (.iaload, 1) := by decide +kernel
theorem dX3_compare_90 : decode cX3_compare 90 = .ok (.if_icmp .ge 7, 3) := by decide +kernel
theorem dX3_compare_93 : decode cX3_compare 93 = .ok (.iconst (-1), 1) := by decide +kernel
theorem dX3_compare_94 : decode cX3_compare 94 = .ok (.goto 23, 3) := by decide +kernel
theorem dX3_compare_97 : decode cX3_compare 97 = .ok (.aload_n 0, 1) := by decide +kernel
theorem dX3_compare_98 : decode cX3_compare 98 = .ok (.getfield 18, 3) := by decide +kernel
theorem dX3_compare_101 : decode cX3_compare 101 = .ok (.iload_n 1, 1) := by decide +kernel
theorem dX3_compare_102 : decode cX3_compare 102 = .ok (.iaload, 1) := by decide +kernel
theorem dX3_compare_103 : decode cX3_compare 103 = .ok (.aload_n 0, 1) := by decide +kernel
theorem dX3_compare_104 : decode cX3_compare 104 = .ok (.getfield 18, 3) := by decide +kernel
theorem dX3_compare_107 : decode cX3_compare 107 = .ok (.iload_n 2, 1) := by decide +kernel
theorem dX3_compare_108 : decode cX3_compare 108 = .ok (.iaload, 1) := by decide +kernel
theorem dX3_compare_109 : decode cX3_compare 109 = .ok (.if_icmp .le 7, 3) := by decide +kernel
theorem dX3_compare_112 : decode cX3_compare 112 = .ok (.iconst 1, 1) := by decide +kernel
theorem dX3_compare_113 : decode cX3_compare 113 = .ok (.goto 4, 3) := by decide +kernel
theorem dX3_compare_116 : decode cX3_compare 116 = .ok (.iconst 0, 1) := by decide +kernel
theorem dX3_compare_117 : decode cX3_compare 117 = .ok (.ireturn, 1) := by decide +kernel
theorem dX3_sum_0 : decode cX3_sum 0 = .ok (.bipush 7, 2) := by decide +kernel
theorem dX3_sum_2 : decode cX3_sum 2 = .ok (.istore_n 2, 1) := by decide +kernel
theorem dX3_sum_3 : decode cX3_sum 3 = .ok (.iconst 0, 1) := by decide +kernel
theorem dX3_sum_4 : decode cX3_sum 4 = .ok (.istore_n 3, 1) := by decide +kernel
theorem dX3_sum_5 : decode cX3_sum 5 = .ok (.iload_n 3, 1) := by decide +kernel
theorem dX3_sum_6 : decode cX3_sum 6 = .ok (.aload_n 0, 1) := by decide +kernel
theorem dX3_sum_7 : decode cX3_sum 7 = .ok (.iload_n 1, 1) := by decide +kernel
theorem dX3_sum_8 : decode cX3_sum 8 = .ok (.invokevirtual 64, 3) := by decide +kernel
theorem dX3_sum_11 : decode cX3_sum 11 = .ok (.if_icmp .ge 21, 3) := by decide +kernel
theorem dX3_sum_14 : decode cX3_sum 14 = .ok (.bipush 31, 2) := by decide +kernel
theorem dX3_sum_16 : decode cX3_sum 16 = .ok (.iload_n 2, 1) := by decide +kernel
theorem dX3_sum_17 : decode cX3_sum 17 = .ok (.imul, 1) := by decide +kernel
theorem dX3_sum_18 : decode cX3_sum 18 = .ok (.aload_n 0, 1) := by decide +kernel
theorem dX3_sum_19 : decode cX3_sum 19 = .ok (.iload_n 1, 1) := by decide +kernel
theorem dX3_sum_20 : decode cX3_sum 20 = .ok (.iload_n 3, 1) := by decide +kernel
theorem dX3_sum_21 : decode cX3_sum 21 = .ok (.invokevirtual 60, 3) := by decide +kernel
theorem dX3_sum_24 : decode cX3_sum 24 = .ok (.iadd, 1) := by decide +kernel
theorem dX3_sum_25 : decode cX3_sum 25 = .ok (.istore_n 2, 1) := by decide +kernel
theorem dX3_sum_26 : decode cX3_sum 26 = .ok (.iinc 3 1, 3) := by decide +kernel
theorem dX3_sum_29 : decode cX3_sum 29 = .ok (.goto (-24), 3) := by decide +kernel
theorem dX3_sum_32 : decode cX3_sum 32 = .ok (.aload_n 0, 1) := by decide +kernel
theorem dX3_sum_33 : decode cX3_sum 33 = .ok (.iload_n 1, 1) := by decide +kernel
theorem dX3_sum_34 : decode cX3_sum 34 = .ok (.invokevirtual 52, 3) := by decide +kernel
theorem dX3_sum_37 : decode cX3_sum 37 = .ok (.ifCond .eq 7, 3) := by decide +kernel
theorem dX3_sum_40 : decode cX3_sum 40 = .ok (.iload_n 2, 1) := by decide +kernel
theorem dX3_sum_41 : decode cX3_sum 41 = .ok (.goto 4, 3) := by decide +kernel
theorem dX3_sum_44 : decode cX3_sum 44 = .ok (.iconst 0, 1) := by decide +kernel
theorem dX3_sum_45 : decode cX3_sum 45 = .ok (.ireturn, 1) := by decide +kernel
theorem dX3_rows_0 : decode cX3_rows 0 = .ok (.aload_n 0, 1) := by decide +kernel
theorem dX3_rows_1 : decode cX3_rows 1 = .ok (.invokevirtual 31, 3) := by decide +kernel
theorem dX3_rows_4 : decode cX3_rows 4 = .ok (.ireturn, 1) := by decide +kernel
theorem dX3_places_0 : decode cX3_places 0 = .ok (.aload_n 0, 1) := by decide +kernel
theorem dX3_places_1 : decode cX3_places 1 = .ok (.getfield 35, 3) := by decide +kernel
theorem dX3_places_4 : decode cX3_places 4 = .ok (.ireturn, 1) := by decide +kernel
end
section
/-! rows of my own over the kit: references that may be null, numbers that are Nats, calls over one world -/
section SFR
variable {p : Program} {l : Launch} {e : Env} {R : Room} {s : State} {m : MethodId} {args : Array Value} {below : List Frame} {meth : Method} {c : Code} {H : Heap} {locs : List Loc} {cells slots : Nat} {Q : State → Prop}
variable {cc : ByteArray} {pc : Nat} {ls : Array Slot} {rest : List Value}
theorem sf_aload_n (hexec : p.tables.exec = Jvm.exec) (hb : c.code = cc) {k : Fin 4} {i : Nat} {r : Option Nat} (hdg : decode cc pc = .ok (.aload_n k, 1)) (hi : (k : Nat) = i) (hl : ls[i]? = some (.val (va_rf r)))
    (kk : W p l e R s m args below meth c H locs cells slots Q (F0 m (pc + 1) ls (va_rf r :: rest))) : W p l e R s m args below meth c H locs cells slots Q (F0 m pc ls rest) := by
  cases r with
  | none => exact lv_aload_nN hexec hb hdg hi hl kk
  | some a => exact lv_aload_n hexec hb hdg hi hl kk
theorem sf_aload (hexec : p.tables.exec = Jvm.exec) (hb : c.code = cc) {i : Nat} {r : Option Nat} (hdg : decode cc pc = .ok (.aload i, 2)) (hl : ls[i]? = some (.val (va_rf r)))
    (kk : W p l e R s m args below meth c H locs cells slots Q (F0 m (pc + 2) ls (va_rf r :: rest))) : W p l e R s m args below meth c H locs cells slots Q (F0 m pc ls rest) := by
  cases r with
  | none => exact lv_aloadN hexec hb hdg hl kk
  | some a => exact lv_aload hexec hb hdg hl kk
theorem sf_astore_n (hexec : p.tables.exec = Jvm.exec) (hb : c.code = cc) {k : Fin 4} {i nL : Nat} {r : Option Nat} {lv lv' : List (Nat × Value)} (hdg : decode cc pc = .ok (.astore_n k, 1)) (hi : (k : Nat) = i) (h : lv_has ls nL lv) (hn : i < nL) (hl : (i, va_rf r) :: lv.filter (fun q => !(q.1 == i) && !(q.1 + 1 == i && q.2.category == 2)) = lv')
    (kk : ∀ ls' : Array Slot, lv_has ls' nL lv' → W p l e R s m args below meth c H locs cells slots Q (F0 m (pc + 1) ls' rest)) : W p l e R s m args below meth c H locs cells slots Q (F0 m pc ls (va_rf r :: rest)) := by
  cases r with
  | none => exact lv_astore_nN hexec hb hdg hi h hn hl kk
  | some a => exact lv_astore_n hexec hb hdg hi h hn hl kk
theorem sf_astore (hexec : p.tables.exec = Jvm.exec) (hb : c.code = cc) {i nL : Nat} {r : Option Nat} {lv lv' : List (Nat × Value)} (hdg : decode cc pc = .ok (.astore i, 2)) (h : lv_has ls nL lv) (hn : i < nL) (hl : (i, va_rf r) :: lv.filter (fun q => !(q.1 == i) && !(q.1 + 1 == i && q.2.category == 2)) = lv')
    (kk : ∀ ls' : Array Slot, lv_has ls' nL lv' → W p l e R s m args below meth c H locs cells slots Q (F0 m (pc + 2) ls' rest)) : W p l e R s m args below meth c H locs cells slots Q (F0 m pc ls (va_rf r :: rest)) := by
  cases r with
  | none => exact lv_astoreN hexec hb hdg h hn hl kk
  | some a => exact lv_astore hexec hb hdg h hn hl kk
theorem sf_ifnull (hexec : p.tables.exec = Jvm.exec) (hb : c.code = cc) {r : Option Nat} {off : Int} {tgt : Nat} (hdg : decode cc pc = .ok (.ifnull off, 3)) (ht : (pc : Int) + off = (tgt : Int))
    (kt : r = none → W p l e R s m args below meth c H locs cells slots Q (F0 m tgt ls rest)) (kf : ∀ a : Nat, r = some a → W p l e R s m args below meth c H locs cells slots Q (F0 m (pc + 3) ls rest)) : W p l e R s m args below meth c H locs cells slots Q (F0 m pc ls (va_rf r :: rest)) := by
  cases r with
  | none => exact lv_ifnullN hexec hb hdg ht (kt rfl)
  | some a => exact lv_ifnull hexec hb hdg (kf a rfl)
theorem sf_ifnonnull (hexec : p.tables.exec = Jvm.exec) (hb : c.code = cc) {r : Option Nat} {off : Int} {tgt : Nat} (hdg : decode cc pc = .ok (.ifnonnull off, 3)) (ht : (pc : Int) + off = (tgt : Int))
    (kt : ∀ a : Nat, r = some a → W p l e R s m args below meth c H locs cells slots Q (F0 m tgt ls rest)) (kf : r = none → W p l e R s m args below meth c H locs cells slots Q (F0 m (pc + 3) ls rest)) : W p l e R s m args below meth c H locs cells slots Q (F0 m pc ls (va_rf r :: rest)) := by
  cases r with
  | none => exact lv_ifnonnullN hexec hb hdg (kf rfl)
  | some a => exact lv_ifnonnull hexec hb hdg ht (kt a rfl)
-- numbers that are Nats
theorem sf_iadd (hexec : p.tables.exec = Jvm.exec) (hb : c.code = cc) {x y : Nat} (hdg : decode cc pc = .ok (.iadd, 1)) (kk : W p l e R s m args below meth c H locs cells slots Q (F0 m (pc + 1) ls (.int (nI (x + y)) :: rest))) : W p l e R s m args below meth c H locs cells slots Q (F0 m pc ls (.int (nI y) :: .int (nI x) :: rest)) :=
  lv_iadd hexec hb hdg (by rw [nI_add]; exact kk)
theorem sf_isub (hexec : p.tables.exec = Jvm.exec) (hb : c.code = cc) {x y : Nat} (hxy : y ≤ x) (hdg : decode cc pc = .ok (.isub, 1)) (kk : W p l e R s m args below meth c H locs cells slots Q (F0 m (pc + 1) ls (.int (nI (x - y)) :: rest))) : W p l e R s m args below meth c H locs cells slots Q (F0 m pc ls (.int (nI y) :: .int (nI x) :: rest)) :=
  lv_isub hexec hb hdg (by rw [pk_sub hxy]; exact kk)
theorem sf_imul (hexec : p.tables.exec = Jvm.exec) (hb : c.code = cc) {x y : Nat} (hdg : decode cc pc = .ok (.imul, 1)) (kk : W p l e R s m args below meth c H locs cells slots Q (F0 m (pc + 1) ls (.int (nI (x * y)) :: rest))) : W p l e R s m args below meth c H locs cells slots Q (F0 m pc ls (.int (nI y) :: .int (nI x) :: rest)) :=
  lv_imul hexec hb hdg (by rw [pk_mul]; exact kk)
theorem sf_idiv (hexec : p.tables.exec = Jvm.exec) (hb : c.code = cc) {x y : Nat} (hx : x < 2 ^ 31) (h0 : 0 < y) (hy : y < 2 ^ 31) (hdg : decode cc pc = .ok (.idiv, 1)) (kk : W p l e R s m args below meth c H locs cells slots Q (F0 m (pc + 1) ls (.int (nI (x / y)) :: rest))) : W p l e R s m args below meth c H locs cells slots Q (F0 m pc ls (.int (nI y) :: .int (nI x) :: rest)) :=
  lv_idiv hexec hb hdg (nI_ne0 h0 hy) (by rw [pk_div hx h0 hy]; exact kk)
theorem sf_icmp_lt (hexec : p.tables.exec = Jvm.exec) (hb : c.code = cc) {x y : Nat} (hx : x < 2 ^ 31) (hy : y < 2 ^ 31) {off : Int} {tgt : Nat} (hdg : decode cc pc = .ok (.if_icmp .lt off, 3)) (ht : (pc : Int) + off = (tgt : Int)) (kt : x < y → W p l e R s m args below meth c H locs cells slots Q (F0 m tgt ls rest)) (kf : y ≤ x → W p l e R s m args below meth c H locs cells slots Q (F0 m (pc + 3) ls rest)) : W p l e R s m args below meth c H locs cells slots Q (F0 m pc ls (.int (nI y) :: .int (nI x) :: rest)) :=
  lv_icmp_lt hexec hb hdg ht (fun h => kt ((nI_ltI hx hy).mp h)) (fun h => kf (Nat.not_lt.mp fun q => h ((nI_ltI hx hy).mpr q)))
theorem sf_icmp_le (hexec : p.tables.exec = Jvm.exec) (hb : c.code = cc) {x y : Nat} (hx : x < 2 ^ 31) (hy : y < 2 ^ 31) {off : Int} {tgt : Nat} (hdg : decode cc pc = .ok (.if_icmp .le off, 3)) (ht : (pc : Int) + off = (tgt : Int)) (kt : x ≤ y → W p l e R s m args below meth c H locs cells slots Q (F0 m tgt ls rest)) (kf : y < x → W p l e R s m args below meth c H locs cells slots Q (F0 m (pc + 3) ls rest)) : W p l e R s m args below meth c H locs cells slots Q (F0 m pc ls (.int (nI y) :: .int (nI x) :: rest)) :=
  lv_icmp_le hexec hb hdg ht (fun h => kt ((nI_leI hx hy).mp h)) (fun h => kf (Nat.not_le.mp fun q => h ((nI_leI hx hy).mpr q)))
theorem sf_icmp_gt (hexec : p.tables.exec = Jvm.exec) (hb : c.code = cc) {x y : Nat} (hx : x < 2 ^ 31) (hy : y < 2 ^ 31) {off : Int} {tgt : Nat} (hdg : decode cc pc = .ok (.if_icmp .gt off, 3)) (ht : (pc : Int) + off = (tgt : Int)) (kt : y < x → W p l e R s m args below meth c H locs cells slots Q (F0 m tgt ls rest)) (kf : x ≤ y → W p l e R s m args below meth c H locs cells slots Q (F0 m (pc + 3) ls rest)) : W p l e R s m args below meth c H locs cells slots Q (F0 m pc ls (.int (nI y) :: .int (nI x) :: rest)) :=
  lv_icmp_gt hexec hb hdg ht (fun h => kt ((nI_ltI hy hx).mp h)) (fun h => kf (Nat.not_lt.mp fun q => h ((nI_ltI hy hx).mpr q)))
theorem sf_icmp_ge (hexec : p.tables.exec = Jvm.exec) (hb : c.code = cc) {x y : Nat} (hx : x < 2 ^ 31) (hy : y < 2 ^ 31) {off : Int} {tgt : Nat} (hdg : decode cc pc = .ok (.if_icmp .ge off, 3)) (ht : (pc : Int) + off = (tgt : Int)) (kt : y ≤ x → W p l e R s m args below meth c H locs cells slots Q (F0 m tgt ls rest)) (kf : x < y → W p l e R s m args below meth c H locs cells slots Q (F0 m (pc + 3) ls rest)) : W p l e R s m args below meth c H locs cells slots Q (F0 m pc ls (.int (nI y) :: .int (nI x) :: rest)) :=
  lv_icmp_ge hexec hb hdg ht (fun h => kt ((nI_leI hy hx).mp h)) (fun h => kf (Nat.not_le.mp fun q => h ((nI_leI hy hx).mpr q)))
theorem sf_icmp_eq (hexec : p.tables.exec = Jvm.exec) (hb : c.code = cc) {x y : Nat} (hx : x < 2 ^ 31) (hy : y < 2 ^ 31) {off : Int} {tgt : Nat} (hdg : decode cc pc = .ok (.if_icmp .eq off, 3)) (ht : (pc : Int) + off = (tgt : Int)) (kt : x = y → W p l e R s m args below meth c H locs cells slots Q (F0 m tgt ls rest)) (kf : x ≠ y → W p l e R s m args below meth c H locs cells slots Q (F0 m (pc + 3) ls rest)) : W p l e R s m args below meth c H locs cells slots Q (F0 m pc ls (.int (nI y) :: .int (nI x) :: rest)) :=
  lv_icmp_eq hexec hb hdg ht (fun h => kt ((nI_eq hx hy).mp h)) (fun h => kf fun q => h (by rw [q]))
theorem sf_icmp_ne (hexec : p.tables.exec = Jvm.exec) (hb : c.code = cc) {x y : Nat} (hx : x < 2 ^ 31) (hy : y < 2 ^ 31) {off : Int} {tgt : Nat} (hdg : decode cc pc = .ok (.if_icmp .ne off, 3)) (ht : (pc : Int) + off = (tgt : Int)) (kt : x ≠ y → W p l e R s m args below meth c H locs cells slots Q (F0 m tgt ls rest)) (kf : x = y → W p l e R s m args below meth c H locs cells slots Q (F0 m (pc + 3) ls rest)) : W p l e R s m args below meth c H locs cells slots Q (F0 m pc ls (.int (nI y) :: .int (nI x) :: rest)) :=
  lv_icmp_ne hexec hb hdg ht (fun h => kt fun q => h (by rw [q])) (fun h => kf ((nI_eq hx hy).mp h))
-- contracts over one world
end SFR
/-- the one word that goes by the state, not by the word lists: Memory's call of the shelf's own placesFor -/
def sf_N (U : State) : Prop := va_Nw (.methodLinkNest RX0 30 yX2_placesFor RX2) U
def sf_Pre (D : va_G) (cl : List vw_C) (tys : List (ClassId × FieldType)) (av : List Value) (ws : va_W) (sz : Nat) : Array Value → State → Prop := va_Pc av (fun U => U.heap.size = sz ∧ va_P D cl ws U.heap ∧ va_K D cl tys U ∧ va_D (fun _ => True) ws ∧ sf_N U)
theorem sf_blind {D : va_G} {cl : List vw_C} {tys : List (ClassId × FieldType)} {av : List Value} {ws : va_W} {sz : Nat} : FrameBlind (sf_Pre D cl tys av ws sz) := fun a U g mk q => by
  obtain ⟨q0, q1, qP, qK, qD, qN⟩ := q
  exact ⟨q0, q1, qP, va_K.moved (u := U) (U := U.calling g mk a) (Vm.Alike.refl U.vm) qK, qD, va_Nw.same (u := U) (U := U.calling g mk a) rfl rfl qN⟩
theorem sf_preU {D : va_G} {cl : List vw_C} {tys : List (ClassId × FieldType)} {av : List Value} {ws : va_W} {H : Heap} {s : State} {A : Nat → Prop} (hP : va_P D cl ws H) (hK : va_K D cl tys s) (hD : va_D A ws) (hN : sf_N s) : ∀ U : State, U.heap = H → s.WarmedH U.vm → sf_Pre D cl tys av ws H.size av.toArray U :=
  fun U hU hW => ⟨rfl, by rw [hU], by rw [hU]; exact hP, va_K.moved hW.alike hK, hD.weaken (fun _ _ _ _ => trivial), va_Nw.warmM hW hN⟩
def sf_E {S : Type} (D : va_G) (cl : List vw_C) (A : Nat → Prop) (wsf : S → va_W) : S → State → Prop := fun u t => va_P D cl (wsf u) t.heap ∧ va_D A (wsf u)
theorem sf_in {A : Nat → Prop} {ws : va_W} {H0 H : Heap} {locs : List Loc} (hD : va_D A ws) (hS : va_S A H0 H locs) (hA : ∀ q, H0.size ≤ q → A q) : ∀ q, va_A ws H.size q → A q := by
  intro q h
  rcases h with ⟨k, e, h⟩ | h
  · exact hD.2 k (q, e) h
  · exact hA q (Nat.le_trans hS.1 h)
section SFC
variable {p : Program} {l : Launch} {e : Env} {R : Room} {s : State} {m : MethodId} {args : Array Value} {below : List Frame} {meth : Method} {c : Code} {H : Heap} {locs : List Loc} {cells slots : Nat} {Q : State → Prop}
variable {pc : Nat} {ls : Array Slot} {rest st0 : List Value} {a : Array Value} {A : Nat → Prop} {H0 : Heap} {mc ms : Nat} {D : va_G} {cl : List vw_C} {ws : va_W}
theorem sf_cv {S : Type} {post : S → Prop} {wsf : S → va_W} (hr : va_Run p l e R s m args below meth c H locs cells slots mc ms (F0 m pc ls st0) rest (va_Qv post (sf_E D cl (va_A ws H.size) wsf) (va_A ws H.size) a) (va_A ws H.size)) (hD : va_D A ws) (hS : va_S A H0 H locs) (hA : ∀ q, H0.size ≤ q → A q)
    (kk : ∀ (u : S) (H1 : Heap) (locs1 : List Loc), post u → va_P D cl (wsf u) H1 → va_D A (wsf u) → va_S A H0 H1 locs1 → W p l e R s m args below meth c H1 locs1 (cells + mc) (slots + ms) Q (F0 m (pc + 3) ls rest)) : W p l e R s m args below meth c H locs cells slots Q (F0 m pc ls st0) := by
  have hF := sf_in hD hS hA
  refine va_callv hr hS (fun q _ h => hF q h) hF (fun u t H1 locs1 ht hvm hw hB hz1 hk1 hS1 => kk u H1 locs1 hw ?_ (hB.2.weaken (fun k q _ h => hF q.1 h)) hS1)
  rw [← ht]
  exact hB.1
theorem sf_ci {S : Type} {post : Int32 → S → Prop} {wsf : S → va_W} (hr : va_Run p l e R s m args below meth c H locs cells slots mc ms (F0 m pc ls st0) rest (va_Qi post (sf_E D cl (va_A ws H.size) wsf) (va_A ws H.size) a) (va_A ws H.size)) (hD : va_D A ws) (hS : va_S A H0 H locs) (hA : ∀ q, H0.size ≤ q → A q)
    (kk : ∀ (r : Int32) (u : S) (H1 : Heap) (locs1 : List Loc), post r u → va_P D cl (wsf u) H1 → va_D A (wsf u) → va_S A H0 H1 locs1 → W p l e R s m args below meth c H1 locs1 (cells + mc) (slots + ms) Q (F0 m (pc + 3) ls (.int r :: rest))) : W p l e R s m args below meth c H locs cells slots Q (F0 m pc ls st0) := by
  have hF := sf_in hD hS hA
  refine va_calli hr hS (fun q _ h => hF q h) hF (fun r u t H1 locs1 ht hvm hw hB hz1 hk1 hS1 => kk r u H1 locs1 hw ?_ (hB.2.weaken (fun k q _ h => hF q.1 h)) hS1)
  rw [← ht]
  exact hB.1
theorem sf_cq {S : Type} {post : Option Nat → S → Prop} {wsf : S → va_W} (hr : va_Run p l e R s m args below meth c H locs cells slots mc ms (F0 m pc ls st0) rest (va_Qq post (sf_E D cl (va_A ws H.size) wsf) (va_A ws H.size) a) (va_A ws H.size)) (hD : va_D A ws) (hS : va_S A H0 H locs) (hA : ∀ q, H0.size ≤ q → A q)
    (kk : ∀ (r : Option Nat) (u : S) (H1 : Heap) (locs1 : List Loc), post r u → va_P D cl (wsf u) H1 → va_D A (wsf u) → va_S A H0 H1 locs1 → W p l e R s m args below meth c H1 locs1 (cells + mc) (slots + ms) Q (F0 m (pc + 3) ls (va_rf r :: rest))) : W p l e R s m args below meth c H locs cells slots Q (F0 m pc ls st0) := by
  have hF := sf_in hD hS hA
  refine va_callq hr hS (fun q _ h => hF q h) hF (fun r u t H1 locs1 ht hvm hw hB hz1 hk1 hS1 => kk r u H1 locs1 hw ?_ (hB.2.weaken (fun k q _ h => hF q.1 h)) hS1)
  rw [← ht]
  exact hB.1
end SFC
/-! fields of the objects of a pool -/
section SFP
variable {p : Program} {l : Launch} {e : Env} {R : Room} {s : State} {m : MethodId} {args : Array Value} {below : List Frame} {meth : Method} {c : Code} {H : Heap} {locs : List Loc} {cells slots : Nat} {Q : State → Prop}
variable {cc : ByteArray} {pc : Nat} {ls : Array Slot} {rest : List Value} {D : va_G} {cl : List vw_C} {A : Nat → Prop} {a : Nat} {tys : List (ClassId × FieldType)} {H0 : Heap} {X : va_W} {LP : List Nat} {f f' : Nat → va_E}
theorem sf_rget (hexec : p.tables.exec = Jvm.exec) (hb : c.code = cc) {own ref C : String} {T : u_T} {N ci index : Nat} {Ts : List Cond} (hts : ∀ w ∈ Ts, w.before args s = true) (hin : ∀ w ∈ u_ws C T N, w ∈ Ts) (hown : s.vm.findClass own = some m.cls) (hK : va_K D cl tys s) (hP : va_P D cl (X ++ va_pl LP f) H) (ha : a ∈ LP) {fs : List Value} (hf : f a = .inr (ci, fs)) (hc : cl[ci]? = some (C, T, N)) (k : Nat) (hk : k < N) (hlink : (Cond.fieldLink own index ref (T k).2.1 (T k).2.2.1).before args s = true) (hsame : ∀ x, s.fieldFound? (T k).1 (T k).2.1 (T k).2.2.1 = some x → s.fieldFound? ref (T k).2.1 (T k).2.2.1 = some x) {v : Value} (hv : fs[k]? = some v) (hdg : decode cc pc = .ok (.getfield index, 3))
    (kk : W p l e R s m args below meth c H locs cells slots Q (F0 m (pc + 3) ls (v :: rest))) : W p l e R s m args below meth c H locs cells slots Q (F0 m pc ls (.ref a :: rest)) := by
  obtain ⟨q0, hq⟩ := va_pl_get (X := X) (f := f) ha
  rw [hf] at hq
  exact va_get hexec hb hts hin hown hK hP q0 hq hc k hk hlink hsame hv hdg kk
theorem sf_rput (hexec : p.tables.exec = Jvm.exec) (hb : c.code = cc) {own ref C : String} {T : u_T} {N ci index : Nat} {Ts : List Cond} (hts : ∀ w ∈ Ts, w.before args s = true) (hin : ∀ w ∈ u_ws C T N, w ∈ Ts) (ty0 : Nat → FieldType) (hty : ∀ k, k < N → parseFieldDescriptor (T k).2.2.1 = some (ty0 k)) (hnm : ∀ a, a < N → ∀ b, b < N → a ≠ b → (T a).2.1 ≠ (T b).2.1) (hown : s.vm.findClass own = some m.cls) (hK : va_K D cl tys s) (hP : va_P D cl (X ++ va_pl LP f) H) (hD : va_D A (X ++ va_pl LP f)) (hS0 : va_S A H0 H locs) (ha : a ∈ LP) {fs : List Value} (hf : f a = .inr (ci, fs)) (hc : cl[ci]? = some (C, T, N)) (k : Nat) (hk : k < N) (hlink : (Cond.fieldLink own index ref (T k).2.1 (T k).2.2.1).before args s = true) (hsame : ∀ x, s.fieldFound? (T k).1 (T k).2.1 (T k).2.2.1 = some x → s.fieldFound? ref (T k).2.1 (T k).2.2.1 = some x) (hfin : (T k).2.2.2 = false) {ty : FieldType} {v : Value} (hd : parseFieldDescriptor (T k).2.2.1 = some ty) (hn : narrow ty v = v) (hfit : fits ty v = true) (hl : k < fs.length) (hf' : va_up f a (.inr (ci, fs.set k v)) = f')
    (hdg : decode cc pc = .ok (.putfield index, 3)) (kk : ∀ (H1 : Heap) (locs1 : List Loc), va_P D cl (X ++ va_pl LP f') H1 → va_D A (X ++ va_pl LP f') → va_S A H0 H1 locs1 → W p l e R s m args below meth c H1 locs1 cells slots Q (F0 m (pc + 3) ls rest)) : W p l e R s m args below meth c H locs cells slots Q (F0 m pc ls (v :: .ref a :: rest)) := by
  obtain ⟨q0, hq⟩ := va_pl_get (X := X) (f := f) ha
  have hset := va_pl_set (e := .inr (ci, fs.set k v)) hD ha hq
  rw [hf'] at hset
  rw [hf] at hq
  refine va_put hexec hb hts hin ty0 hty hnm hown hK hP hD hS0 q0 hq hc k hk hlink hsame hfin hd hn hfit hl hdg (fun H1 locs1 h1 h2 h3 => ?_)
  rw [hset] at h1 h2
  exact kk H1 locs1 h1 h2 h3
end SFP
end
section
/-! calls: a site's words, and a call's run; arrays at Nat places -/
def sf_Site (own C : String) (index : Nat) (y : MethodName) (bytes : ByteArray) (maxL : Nat) (ret : Option FieldType) (n : Nat) : Prop :=
  Cond.code y bytes maxL ret ∈ lw_tbl ∧ Cond.methodLink own index y ∈ lw_tbl ∧ Cond.instanceMethod y ∈ lw_tbl ∧ Cond.selects C y y ∈ lw_tbl ∧ Cond.initialized C ∈ lw_tbl ∧ (y.cls = C ∧ y.cls ≠ "java/lang/invoke/MethodHandle" ∧ y.cls ≠ "java/lang/invoke/VarHandle" ∧ (parseMethodDescriptor y.desc).map (fun d => d.parameters.length) = some n)
def sf_SiteS (own : String) (index : Nat) (y : MethodName) (bytes : ByteArray) (maxL : Nat) (ret : Option FieldType) (n : Nat) : Prop :=
  Cond.code y bytes maxL ret ∈ lw_tbl ∧ Cond.methodLink own index y ∈ lw_tbl ∧ Cond.static y ∈ lw_tbl ∧ Cond.initialized y.cls ∈ lw_tbl ∧ (y.cls ≠ "java/lang/invoke/MethodHandle" ∧ y.cls ≠ "java/lang/invoke/VarHandle" ∧ (parseMethodDescriptor y.desc).map (fun d => d.parameters.length) = some n)
def sf_SiteI (own : String) (index : Nat) (y : MethodName) (bytes : ByteArray) (maxL : Nat) (n : Nat) : Prop :=
  Cond.code y bytes maxL none ∈ lw_tbl ∧ Cond.methodLink own index y ∈ lw_tbl ∧ Cond.instanceMethod y ∈ lw_tbl ∧ Cond.initialized y.cls ∈ lw_tbl ∧ y.name = "<init>" ∧ (y.cls ≠ "java/lang/invoke/MethodHandle" ∧ y.cls ≠ "java/lang/invoke/VarHandle" ∧ (parseMethodDescriptor y.desc).map (fun d => d.parameters.length) = some n)
theorem sf_goodA {big a b : List Cond} (ha : GoodIn big a) (hb : GoodIn big b) : GoodIn big (a ++ b) := fun w h => (List.mem_append.mp h).elim (ha w) (hb w)
/-- the caller's words hold all that go along -/
def sf_Has (Ts : List Cond) : Prop := ∀ w, w ∈ lw_tbl → goodWord w = true → w ∈ Ts
theorem sf_has {w0 : Cond} : sf_Has (w0 :: sf_T) := fun _ h hg => sf_mem h hg
theorem sf_hasL : sf_Has lw_tbl := fun _ h _ => h
theorem sf_goodT {Ts : List Cond} (hT : sf_Has Ts) {w : Cond} (h : w ∈ lw_tbl) (hg : goodWord w = true) : GoodIn Ts (w :: sf_T) := by
  intro v hv
  rcases List.mem_cons.mp hv with e | hv
  · subst e
    exact ⟨hT _ h hg, good_of_word hg⟩
  · exact ⟨hT _ (List.mem_filter.mp hv).1 (List.mem_filter.mp hv).2, good_of_word (List.mem_filter.mp hv).2⟩
theorem sf_good1 {Ts : List Cond} (hT : sf_Has Ts) {w : Cond} (h : w ∈ lw_tbl) (hg : goodWord w = true) : w ∈ Ts ∧ ((w.onTables && w.keeps) = true ∨ ∃ ty, w = .arrayClass ty) := ⟨hT w h hg, good_of_word hg⟩
section SFK
variable {p : Program} {l : Launch} {e : Env} {R : Room} {s : State} {m : MethodId} {args : Array Value} {below : List Frame} {meth : Method} {c : Code} {H : Heap} {locs : List Loc} {cells slots : Nat} {Q : State → Prop}
variable {y : MethodName} {bytes cc : ByteArray} {maxL nL n index pc : Nat} {ret : Option FieldType} {rm : Room} {Pc : Array Value → State → Prop} {Qc : Array Value → State → Outcome → State → Prop} {free : Addr → Prop} {Ts : List Cond} {own C : String} {b : Addr} {As rest : List Value} {ls : Array Slot} {mc ms : Nat}
theorem sf_runV (S : CallFix p m c cc nL s args Ts own) (hT : sf_Has Ts) (hM : Met l y (Cond.code y bytes maxL ret :: sf_T) rm Pc Qc mc ms free) (k : sf_Site own C index y bytes maxL ret n) (hp : PreV s H C b Pc As) (hn : As.length = n) (hsize : ls.size = nL) (hW : (rest.map fun v => v.category).sum ≤ 8) (hR : rm.frames + 1 ≤ R.frames ∧ 8 + (maxL + 11) + rm.locals ≤ R.locals) (hrc : rm.cells = mc ∧ rm.slots = ms) (hf : cells + mc ≤ R.cells ∧ slots + ms ≤ R.slots) (hdg : decode cc pc = .ok (.invokevirtual index, 3)) :
    va_Run p l e R s m args below meth c H locs cells slots mc ms (F0 m pc ls (As.reverse ++ .ref b :: rest)) rest (Qc (Value.ref b :: As).toArray) free := by
  obtain ⟨h1, h2, h3, h4, h5, h6⟩ := k
  refine va_runV S hM (cwV n S.2.2.2.2 ?_ rfl hrc.1 hrc.2 h6 hR) hp rfl hn hsize rfl (lv_room hW) hdg hf
  refine sf_goodA ?_ (sf_goodT hT h1 rfl)
  intro w hw
  simp only [List.mem_cons, List.not_mem_nil, or_false] at hw
  rcases hw with e | e | e | e <;> subst e
  · exact sf_good1 hT h2 rfl
  · exact sf_good1 hT h3 rfl
  · exact sf_good1 hT h4 rfl
  · exact sf_good1 hT h5 rfl
theorem sf_runS (S : CallFix p m c cc nL s args Ts own) (hT : sf_Has Ts) (hM : Met l y (Cond.code y bytes maxL ret :: sf_T) rm Pc Qc mc ms free) (k : sf_SiteS own index y bytes maxL ret n) (hp : PreS s H Pc As) (hn : As.length = n) (hsize : ls.size = nL) (hW : (rest.map fun v => v.category).sum ≤ 8) (hR : rm.frames + 1 ≤ R.frames ∧ 8 + (maxL + 11) + rm.locals ≤ R.locals) (hrc : rm.cells = mc ∧ rm.slots = ms) (hf : cells + mc ≤ R.cells ∧ slots + ms ≤ R.slots) (hdg : decode cc pc = .ok (.invokestatic index, 3)) :
    va_Run p l e R s m args below meth c H locs cells slots mc ms (F0 m pc ls (As.reverse ++ rest)) rest (Qc As.toArray) free := by
  obtain ⟨h1, h2, h3, h4, h5⟩ := k
  refine va_runS S hM (va_cwS n S.2.2.2.2 ?_ rfl hrc.1 hrc.2 h5 hR) hp rfl hn hsize rfl (lv_room hW) hdg hf
  refine sf_goodA ?_ (sf_goodT hT h1 rfl)
  intro w hw
  simp only [List.mem_cons, List.not_mem_nil, or_false] at hw
  rcases hw with e | e | e <;> subst e
  · exact sf_good1 hT h2 rfl
  · exact sf_good1 hT h3 rfl
  · exact sf_good1 hT h4 rfl
theorem sf_runI (S : CallFix p m c cc nL s args Ts own) (hT : sf_Has Ts) (hM : Met l y (Cond.code y bytes maxL none :: sf_T) rm Pc Qc mc ms free) (k : sf_SiteI own index y bytes maxL n) (hp : PreS s H Pc (.ref b :: As)) (hn : As.length = n) (hsize : ls.size = nL) (hW : (rest.map fun v => v.category).sum ≤ 8) (hR : rm.frames + 1 ≤ R.frames ∧ 8 + (maxL + 11) + rm.locals ≤ R.locals) (hrc : rm.cells = mc ∧ rm.slots = ms) (hf : cells + mc ≤ R.cells ∧ slots + ms ≤ R.slots) (hdg : decode cc pc = .ok (.invokespecial index, 3)) :
    va_Run p l e R s m args below meth c H locs cells slots mc ms (F0 m pc ls (As.reverse ++ .ref b :: rest)) rest (Qc (Value.ref b :: As).toArray) free := by
  obtain ⟨h1, h2, h3, h4, h5, h6⟩ := k
  have ok : ∀ {w : Cond}, w ∈ lw_tbl → goodWord w = true → w.before args s = true := fun h hg => S.2.2.2.2 _ (hT _ h hg)
  exact va_runI S hM (cwI n S.2.2.2.2 (sf_goodT hT h1 rfl) rfl hrc.1 hrc.2 (ok h4 rfl) (ok h2 rfl) (ok h3 rfl) h5 h6 hR) hp rfl hn hsize rfl (lv_room hW) hdg hf
theorem sf_runP (S : CallFix p m c cc nL s args Ts own) (hT : sf_Has Ts) {host : String} (hM : Met l y (Cond.code y bytes maxL ret :: sf_T) rm Pc Qc mc ms free) (hl : va_Nw (.methodLinkNest own index y host) s) (h1 : Cond.code y bytes maxL ret ∈ lw_tbl) (h3 : Cond.static y ∈ lw_tbl) (h4 : Cond.initialized y.cls ∈ lw_tbl) (h5 : y.cls ≠ "java/lang/invoke/MethodHandle" ∧ y.cls ≠ "java/lang/invoke/VarHandle" ∧ (parseMethodDescriptor y.desc).map (fun d => d.parameters.length) = some n) (hp : PreS s H Pc As) (hn : As.length = n) (hsize : ls.size = nL) (hW : (rest.map fun v => v.category).sum ≤ 8) (hR : rm.frames + 1 ≤ R.frames ∧ 8 + (maxL + 11) + rm.locals ≤ R.locals) (hrc : rm.cells = mc ∧ rm.slots = ms) (hf : cells + mc ≤ R.cells ∧ slots + ms ≤ R.slots) (hdg : decode cc pc = .ok (.invokestatic index, 3)) :
    va_Run p l e R s m args below meth c H locs cells slots mc ms (F0 m pc ls (As.reverse ++ rest)) rest (Qc As.toArray) free := by
  have ok : ∀ {w : Cond}, w ∈ lw_tbl → goodWord w = true → w.before args s = true := fun h hg => S.2.2.2.2 _ (hT _ h hg)
  exact va_runSN S hM ⟨va_cnB n S.2.2.2.2 (sf_goodT hT h1 rfl) rfl hrc.1 hrc.2 hl (ok h4 rfl) h5 hR, ok h3 rfl, trivial⟩ hp rfl hn hsize rfl (lv_room hW) hdg hf
end SFK
section SFA
variable {p : Program} {l : Launch} {e : Env} {R : Room} {s : State} {m : MethodId} {args : Array Value} {below : List Frame} {meth : Method} {c : Code} {H : Heap} {locs : List Loc} {cells slots : Nat} {Q : State → Prop}
variable {cc : ByteArray} {pc : Nat} {ls : Array Slot} {rest : List Value} {D : va_G} {cl : List vw_C} {A : Nat → Prop} {a : Nat} {tys : List (ClassId × FieldType)} {ws : va_W} {H0 : Heap} {cA : ClassId} {n : Nat}
theorem sf_iald (hexec : p.tables.exec = Jvm.exec) (hb : c.code = cc) (hK : va_K D cl tys s) (hP : va_P D cl ws H) (q0 t0 : Nat) {f : Nat → Int32} (ha : ws[q0]? = some (a, .inl (cA, n, .inl f))) (ht : tys[t0]? = some (cA, .int)) {i : Nat} (hi : i < n) (hn : n < 2 ^ 31) (hdg : decode cc pc = .ok (.iaload, 1))
    (kk : W p l e R s m args below meth c H locs cells slots Q (F0 m (pc + 1) ls (.int (f i) :: rest))) : W p l e R s m args below meth c H locs cells slots Q (F0 m pc ls (.int (nI i) :: .ref a :: rest)) := by
  refine va_iald hexec hb hK hP q0 t0 ha ht (vp_in_nI hi hn) hdg ?_
  rw [nI_clamp (Nat.lt_trans hi hn)]
  exact kk
theorem sf_bald (hexec : p.tables.exec = Jvm.exec) (hb : c.code = cc) (hK : va_K D cl tys s) (hP : va_P D cl ws H) (q0 t0 : Nat) {f : Nat → Int32} (ha : ws[q0]? = some (a, .inl (cA, n, .inl f))) (ht : tys[t0]? = some (cA, .byte)) {i : Nat} (hi : i < n) (hn : n < 2 ^ 31) (hdg : decode cc pc = .ok (.baload, 1))
    (kk : W p l e R s m args below meth c H locs cells slots Q (F0 m (pc + 1) ls (.int (f i) :: rest))) : W p l e R s m args below meth c H locs cells slots Q (F0 m pc ls (.int (nI i) :: .ref a :: rest)) := by
  refine va_bald hexec hb hK hP q0 t0 ha ht (vp_in_nI hi hn) hdg ?_
  rw [nI_clamp (Nat.lt_trans hi hn)]
  exact kk
theorem sf_aald (hexec : p.tables.exec = Jvm.exec) (hb : c.code = cc) (hK : va_K D cl tys s) (hP : va_P D cl ws H) (q0 t0 : Nat) {C : String} {f : Nat → Option Nat} (ha : ws[q0]? = some (a, .inl (cA, n, .inr (.inr (.inr (.inr f)))))) (ht : tys[t0]? = some (cA, .object C)) {i : Nat} (hi : i < n) (hn : n < 2 ^ 31) (hdg : decode cc pc = .ok (.aaload, 1))
    (kk : W p l e R s m args below meth c H locs cells slots Q (F0 m (pc + 1) ls (va_rf (f i) :: rest))) : W p l e R s m args below meth c H locs cells slots Q (F0 m pc ls (.int (nI i) :: .ref a :: rest)) := by
  refine va_aldq hexec hb hK hP q0 t0 ha ht (vp_in_nI hi hn) hdg ?_
  rw [nI_clamp (Nat.lt_trans hi hn)]
  exact kk
theorem sf_iast (hexec : p.tables.exec = Jvm.exec) (hb : c.code = cc) (hK : va_K D cl tys s) (hP : va_P D cl ws H) (hD : va_D A ws) (hS : va_S A H0 H locs) (q0 t0 : Nat) {f : Nat → Int32} (ha : ws[q0]? = some (a, .inl (cA, n, .inl f))) (ht : tys[t0]? = some (cA, .int)) {i : Nat} {x : Int32} (hi : i < n) (hn : n < 2 ^ 31) (hdg : decode cc pc = .ok (.iastore, 1))
    (kk : ∀ (H1 : Heap) (locs1 : List Loc), va_P D cl (ws.set q0 (a, .inl (cA, n, .inl (upd f i x)))) H1 → va_D A (ws.set q0 (a, .inl (cA, n, .inl (upd f i x)))) → va_S A H0 H1 locs1 → W p l e R s m args below meth c H1 locs1 cells slots Q (F0 m (pc + 1) ls rest)) : W p l e R s m args below meth c H locs cells slots Q (F0 m pc ls (.int x :: .int (nI i) :: .ref a :: rest)) := by
  refine va_iast hexec hb hK hP hD hS q0 t0 ha ht (vp_in_nI hi hn) hdg (fun H1 locs1 h1 h2 h3 => ?_)
  rw [nI_clamp (Nat.lt_trans hi hn)] at h1 h2
  exact kk H1 locs1 h1 h2 h3
theorem sf_bast (hexec : p.tables.exec = Jvm.exec) (hb : c.code = cc) (hK : va_K D cl tys s) (hP : va_P D cl ws H) (hD : va_D A ws) (hS : va_S A H0 H locs) (q0 t0 : Nat) {f : Nat → Int32} (ha : ws[q0]? = some (a, .inl (cA, n, .inl f))) (ht : tys[t0]? = some (cA, .byte)) {i : Nat} {x : Int32} (hx : vp_nar .byte x = x) (hi : i < n) (hn : n < 2 ^ 31) (hdg : decode cc pc = .ok (.bastore, 1))
    (kk : ∀ (H1 : Heap) (locs1 : List Loc), va_P D cl (ws.set q0 (a, .inl (cA, n, .inl (upd f i x)))) H1 → va_D A (ws.set q0 (a, .inl (cA, n, .inl (upd f i x)))) → va_S A H0 H1 locs1 → W p l e R s m args below meth c H1 locs1 cells slots Q (F0 m (pc + 1) ls rest)) : W p l e R s m args below meth c H locs cells slots Q (F0 m pc ls (.int x :: .int (nI i) :: .ref a :: rest)) := by
  refine va_bast hexec hb hK hP hD hS q0 t0 ha ht (vp_in_nI hi hn) hdg (fun H1 locs1 h1 h2 h3 => ?_)
  rw [nI_clamp (Nat.lt_trans hi hn), hx] at h1 h2
  exact kk H1 locs1 h1 h2 h3
end SFA
theorem sf_nq {C : String} (r : Option Nat) : narrow (.object C) (va_rf r) = va_rf r := by cases r <;> rfl
theorem sf_fq {C : String} (r : Option Nat) : fits (.object C) (va_rf r) = true := by cases r <;> rfl
end
section
/-! the call sites -/
theorem k_X0_30 : yX2_placesFor.cls ≠ "java/lang/invoke/MethodHandle" ∧ yX2_placesFor.cls ≠ "java/lang/invoke/VarHandle" ∧ (parseMethodDescriptor yX2_placesFor.desc).map (fun d => d.parameters.length) = some 1 := by decide +kernel
theorem k_X2_9 : sf_SiteI RX2 9 yX0_init cX0_init 1 0 := ⟨co_X0_init, ml_X2_9, im_X0_init, in_X0, rfl, by decide +kernel⟩
theorem k_X2_33 : sf_SiteS RX2 33 yX2_isLength cX2_isLength 1 (some .boolean) 1 := ⟨co_X2_isLength, ml_X2_33, sm_X2_isLength, in_X2, by decide +kernel⟩
theorem k_X2_37 : sf_SiteS RX2 37 yX2_placesFor cX2_placesFor 1 (some .int) 1 := ⟨co_X2_placesFor, ml_X2_37, sm_X2_placesFor, in_X2, by decide +kernel⟩
theorem k_X2_41 : sf_Site RX2 RX0 41 yX0_hasRoomFor cX0_hasRoomFor 2 (some .boolean) 1 := ⟨co_X0_hasRoomFor, ml_X2_41, im_X0_hasRoomFor, se_X0_hasRoomFor, in_X0, by decide +kernel⟩
theorem k_X2_44 : sf_Site RX2 RX2 44 yX2_nextRow cX2_nextRow 2 (some (.object "ByteShelf$Row")) 0 := ⟨co_X2_nextRow, ml_X2_44, im_X2_nextRow, se_X2_nextRow, in_X2, by decide +kernel⟩
theorem k_X2_48 : sf_Site RX2 RX0 48 yX0_lay cX0_lay 4 none 2 := ⟨co_X0_lay, ml_X2_48, im_X0_lay, se_X0_lay, in_X0, by decide +kernel⟩
theorem k_X2_59 : sf_Site RX2 RX2 59 yX2_find cX2_find 3 (some (.object "ByteShelf$Row")) 1 := ⟨co_X2_find, ml_X2_59, im_X2_find, se_X2_find, in_X2, by decide +kernel⟩
theorem k_X2_63 : sf_Site RX2 RX0 63 yX0_lift cX0_lift 2 none 1 := ⟨co_X0_lift, ml_X2_63, im_X0_lift, se_X0_lift, in_X0, by decide +kernel⟩
theorem k_X2_70 : sf_Site RX2 RX0 70 yX0_setLength cX0_setLength 5 (some .boolean) 2 := ⟨co_X0_setLength, ml_X2_70, im_X0_setLength, se_X0_setLength, in_X0, by decide +kernel⟩
theorem k_X2_74 : sf_SiteS RX2 74 yX2_hasByte cX2_hasByte 2 (some .boolean) 2 := ⟨co_X2_hasByte, ml_X2_74, sm_X2_hasByte, in_X2, by decide +kernel⟩
theorem k_X2_84 : sf_SiteS RX2 84 yX2_hasBytes cX2_hasBytes 3 (some .boolean) 3 := ⟨co_X2_hasBytes, ml_X2_84, sm_X2_hasBytes, in_X2, by decide +kernel⟩
theorem k_X2_97 : sf_SiteS RX2 97 yJ9_min_7cf53 cJ9_min_7cf53 2 (some .int) 2 := ⟨co_J9_min_7cf53, ml_X2_97, sm_J9_min_7cf53, in_J9, by decide +kernel⟩
theorem k_X2_103 : sf_SiteS RX2 103 yX2_order cX2_order 2 (some .int) 2 := ⟨co_X2_order, ml_X2_103, sm_X2_order, in_X2, by decide +kernel⟩
theorem k_X2_109 : sf_SiteI RX2 109 yX1_init cX1_init 2 1 := ⟨co_X1_init, ml_X2_109, im_X1_init, in_X1, rfl, by decide +kernel⟩
theorem k_X3_31 : sf_Site RX3 RX3 31 yX3_many cX3_many 1 (some .int) 0 := ⟨co_X3_many, ml_X3_31, im_X3_many, se_X3_many, in_X3, by decide +kernel⟩
theorem k_X3_38 : sf_SiteS RX3 38 yX3_placesOf cX3_placesOf 1 (some .int) 1 := ⟨co_X3_placesOf, ml_X3_38, sm_X3_placesOf, in_X3, by decide +kernel⟩
theorem k_X3_42 : sf_Site RX3 RX3 42 yX3_change cX3_change 7 none 2 := ⟨co_X3_change, ml_X3_42, im_X3_change, se_X3_change, in_X3, by decide +kernel⟩
theorem k_X3_49 : sf_Site RX3 RX3 49 yX3_shift cX3_shift 4 none 2 := ⟨co_X3_shift, ml_X3_49, im_X3_shift, se_X3_shift, in_X3, by decide +kernel⟩
theorem k_X3_52 : sf_Site RX3 RX3 52 yX3_isRow cX3_isRow 2 (some .boolean) 1 := ⟨co_X3_isRow, ml_X3_52, im_X3_isRow, se_X3_isRow, in_X3, by decide +kernel⟩
theorem k_X3_56 : sf_Site RX3 RX3 56 yX3_hasRoom cX3_hasRoom 3 (some .boolean) 2 := ⟨co_X3_hasRoom, ml_X3_56, im_X3_hasRoom, se_X3_hasRoom, in_X3, by decide +kernel⟩
theorem k_X3_60 : sf_Site RX3 RX3 60 yX3_get cX3_get 3 (some .int) 2 := ⟨co_X3_get, ml_X3_60, im_X3_get, se_X3_get, in_X3, by decide +kernel⟩
theorem k_X3_64 : sf_Site RX3 RX3 64 yX3_size cX3_size 2 (some .int) 1 := ⟨co_X3_size, ml_X3_64, im_X3_size, se_X3_size, in_X3, by decide +kernel⟩
theorem k_X0_34 : sf_Site RX0 RX0 34 yX0_cut cX0_cut 3 (some .int) 1 := ⟨co_X0_cut, ml_X0_34, im_X0_cut, se_X0_cut, in_X0, by decide +kernel⟩
theorem k_X0_45 : sf_SiteS RX0 45 yJ7_fill_eb02e cJ7_fill_eb02e 5 none 4 := ⟨co_J7_fill_eb02e, ml_X0_45, sm_J7_fill_eb02e, in_J7, by decide +kernel⟩
theorem k_X0_51 : sf_Site RX0 RX0 51 yX0_append cX0_append 2 none 1 := ⟨co_X0_append, ml_X0_51, im_X0_append, se_X0_append, in_X0, by decide +kernel⟩
theorem k_X0_55 : sf_Site RX0 RX0 55 yX0_unlink cX0_unlink 4 none 1 := ⟨co_X0_unlink, ml_X0_55, im_X0_unlink, se_X0_unlink, in_X0, by decide +kernel⟩
theorem k_X0_58 : sf_Site RX0 RX0 58 yX0_hasRoomFor cX0_hasRoomFor 2 (some .boolean) 1 := ⟨co_X0_hasRoomFor, ml_X0_58, im_X0_hasRoomFor, se_X0_hasRoomFor, in_X0, by decide +kernel⟩
theorem k_X0_62 : sf_Site RX0 RX0 62 yX0_move cX0_move 4 none 2 := ⟨co_X0_move, ml_X0_62, im_X0_move, se_X0_move, in_X0, by decide +kernel⟩
theorem k_X0_72 : sf_Site RX0 RX0 72 yX0_pushTogether cX0_pushTogether 3 none 0 := ⟨co_X0_pushTogether, ml_X0_72, im_X0_pushTogether, se_X0_pushTogether, in_X0, by decide +kernel⟩
theorem k_L_9 : sf_SiteI RL 9 yX2_init cX2_init 1 0 := ⟨co_X2_init, ml_L_9, im_X2_init, in_X2, rfl, by decide +kernel⟩
theorem k_L_12 : sf_SiteI RL 12 yX3_init cX3_init 1 0 := ⟨co_X3_init, ml_L_12, im_X3_init, in_X3, rfl, by decide +kernel⟩
theorem k_L_13 : sf_Site RL RX2 13 yX2_take cX2_take 3 (some .int) 1 := ⟨co_X2_take, ml_L_13, im_X2_take, se_X2_take, in_X2, by decide +kernel⟩
theorem k_L_17 : sf_Site RL RX3 17 yX3_take cX3_take 3 (some .int) 1 := ⟨co_X3_take, ml_L_17, im_X3_take, se_X3_take, in_X3, by decide +kernel⟩
theorem k_L_18 : sf_Site RL RX2 18 yX2_give cX2_give 3 (some .boolean) 1 := ⟨co_X2_give, ml_L_18, im_X2_give, se_X2_give, in_X2, by decide +kernel⟩
theorem k_L_22 : sf_Site RL RX3 22 yX3_give cX3_give 2 (some .boolean) 1 := ⟨co_X3_give, ml_L_22, im_X3_give, se_X3_give, in_X3, by decide +kernel⟩
theorem k_L_23 : sf_Site RL RX2 23 yX2_resize cX2_resize 4 (some .int) 2 := ⟨co_X2_resize, ml_L_23, im_X2_resize, se_X2_resize, in_X2, by decide +kernel⟩
theorem k_L_27 : sf_Site RL RX3 27 yX3_resize cX3_resize 3 (some .int) 2 := ⟨co_X3_resize, ml_L_27, im_X3_resize, se_X3_resize, in_X3, by decide +kernel⟩
theorem k_L_28 : sf_Site RL RX2 28 yX2_put cX2_put 5 (some .boolean) 3 := ⟨co_X2_put, ml_L_28, im_X2_put, se_X2_put, in_X2, by decide +kernel⟩
theorem k_L_32 : sf_Site RL RX3 32 yX3_put cX3_put 4 (some .boolean) 3 := ⟨co_X3_put, ml_L_32, im_X3_put, se_X3_put, in_X3, by decide +kernel⟩
theorem k_L_33 : sf_Site RL RX2 33 yX2_fill cX2_fill 9 (some .boolean) 4 := ⟨co_X2_fill, ml_L_33, im_X2_fill, se_X2_fill, in_X2, by decide +kernel⟩
theorem k_L_37 : sf_Site RL RX3 37 yX3_fill cX3_fill 6 (some .boolean) 4 := ⟨co_X3_fill, ml_L_37, im_X3_fill, se_X3_fill, in_X3, by decide +kernel⟩
theorem k_L_38 : sf_Site RL RX2 38 yX2_copy cX2_copy 5 (some .int) 2 := ⟨co_X2_copy, ml_L_38, im_X2_copy, se_X2_copy, in_X2, by decide +kernel⟩
theorem k_L_41 : sf_Site RL RX3 41 yX3_copy cX3_copy 5 (some .int) 2 := ⟨co_X3_copy, ml_L_41, im_X3_copy, se_X3_copy, in_X3, by decide +kernel⟩
theorem k_L_42 : sf_Site RL RX2 42 yX2_get cX2_get 4 (some .int) 2 := ⟨co_X2_get, ml_L_42, im_X2_get, se_X2_get, in_X2, by decide +kernel⟩
theorem k_L_45 : sf_Site RL RX3 45 yX3_get cX3_get 3 (some .int) 2 := ⟨co_X3_get, ml_L_45, im_X3_get, se_X3_get, in_X3, by decide +kernel⟩
theorem k_L_46 : sf_Site RL RX2 46 yX2_size cX2_size 3 (some .int) 1 := ⟨co_X2_size, ml_L_46, im_X2_size, se_X2_size, in_X2, by decide +kernel⟩
theorem k_L_49 : sf_Site RL RX3 49 yX3_size cX3_size 2 (some .int) 1 := ⟨co_X3_size, ml_L_49, im_X3_size, se_X3_size, in_X3, by decide +kernel⟩
theorem k_L_50 : sf_Site RL RX2 50 yX2_compare cX2_compare 10 (some .int) 2 := ⟨co_X2_compare, ml_L_50, im_X2_compare, se_X2_compare, in_X2, by decide +kernel⟩
theorem k_L_53 : sf_Site RL RX3 53 yX3_compare cX3_compare 5 (some .int) 2 := ⟨co_X3_compare, ml_L_53, im_X3_compare, se_X3_compare, in_X3, by decide +kernel⟩
theorem k_L_54 : sf_Site RL RX2 54 yX2_sum cX2_sum 7 (some .int) 1 := ⟨co_X2_sum, ml_L_54, im_X2_sum, se_X2_sum, in_X2, by decide +kernel⟩
theorem k_L_57 : sf_Site RL RX3 57 yX3_sum cX3_sum 4 (some .int) 1 := ⟨co_X3_sum, ml_L_57, im_X3_sum, se_X3_sum, in_X3, by decide +kernel⟩
theorem k_L_58 : sf_Site RL RX2 58 yX2_rows cX2_rows 1 (some .int) 0 := ⟨co_X2_rows, ml_L_58, im_X2_rows, se_X2_rows, in_X2, by decide +kernel⟩
theorem k_L_62 : sf_Site RL RX3 62 yX3_rows cX3_rows 1 (some .int) 0 := ⟨co_X3_rows, ml_L_62, im_X3_rows, se_X3_rows, in_X3, by decide +kernel⟩
theorem k_L_63 : sf_Site RL RX2 63 yX2_places cX2_places 1 (some .int) 0 := ⟨co_X2_places, ml_L_63, im_X2_places, se_X2_places, in_X2, by decide +kernel⟩
theorem k_L_66 : sf_Site RL RX3 66 yX3_places cX3_places 1 (some .int) 0 := ⟨co_X3_places, ml_L_66, im_X3_places, se_X3_places, in_X3, by decide +kernel⟩
theorem k_J7_13 : sf_SiteS RJ7 13 yJ7_rangeCheck_23922 cJ7_rangeCheck_23922 3 none 3 := ⟨co_J7_rangeCheck_23922, ml_J7_13, sm_J7_rangeCheck_23922, in_J7, by decide +kernel⟩
end
section
/-! pure rows: places, the chain's links, the layout. No machine here. -/
/-- the places of n bytes -/
def sf_P (n : Nat) : Nat := (n + 7) / 8 * 8
theorem sf_P_ge (n : Nat) : n ≤ sf_P n := by unfold sf_P; omega
theorem sf_P_le {n : Nat} (h : n ≤ 16384) : sf_P n ≤ 16384 := by unfold sf_P; omega
theorem sf_P_mono {a b : Nat} (h : a ≤ b) : sf_P a ≤ sf_P b := by unfold sf_P; omega
/-- the links of a chain: each member's two neighbours -/
def sf_lnk (bf af : Nat → Option Nat) (c : List Nat) : Prop := ∀ (l : List Nat) (a : Nat) (r : List Nat), c = l ++ a :: r → bf a = l.getLast? ∧ af a = r.head?
theorem sf_up_ne {α : Type} {f : Nat → α} {k j : Nat} {v : α} (h : j ≠ k) : va_up f k v j = f j := by simp [va_up, h]
theorem sf_last_mem {c : List Nat} {z : Nat} (h : c.getLast? = some z) : z ∈ c := List.mem_of_getLast? h
theorem sf_head_mem {c : List Nat} {z : Nat} (h : c.head? = some z) : z ∈ c := List.mem_of_head? h
theorem sf_last_cons (x : Nat) (l r : List Nat) : (l ++ x :: r).getLast? = (x :: r).getLast? := by
  rw [List.getLast?_append]
  cases h : (x :: r).getLast? with
  | none => simp at h
  | some z => rfl
theorem sf_last_ne {l r : List Nat} (h : r ≠ []) : (l ++ r).getLast? = r.getLast? := by
  cases r with
  | nil => exact absurd rfl h
  | cons x r => exact sf_last_cons x l r
theorem sf_head_ne {l r : List Nat} (h : l ≠ []) : (l ++ r).head? = l.head? := by
  cases l with
  | nil => exact absurd rfl h
  | cons x l => rfl
theorem sf_nd_mid {l r : List Nat} {a : Nat} (h : (l ++ a :: r).Nodup) : a ∉ l ∧ a ∉ r ∧ (l ++ r).Nodup ∧ ∀ x, x ∈ l → x ∈ r → False := by
  rw [List.nodup_append] at h
  obtain ⟨h1, h2, h3⟩ := h
  rw [List.nodup_cons] at h2
  refine ⟨fun q => h3 a q a List.mem_cons_self rfl, h2.1, ?_, fun x p q => h3 x p x (List.mem_cons_of_mem _ q) rfl⟩
  rw [List.nodup_append]
  exact ⟨h1, h2.2, fun x p y q => h3 x p y (List.mem_cons_of_mem _ q)⟩
/-- append: what the method writes -/
def sf_apA (af : Nat → Option Nat) (la : Option Nat) (a : Nat) : Nat → Option Nat := match la with
  | none => va_up af a none
  | some z => va_up (va_up af a none) z (some a)
theorem sf_lnk_app {bf af : Nat → Option Nat} {c : List Nat} {a : Nat} (h : sf_lnk bf af c) (ha : a ∉ c) (hn : c.Nodup) : sf_lnk (va_up bf a c.getLast?) (sf_apA af c.getLast? a) (c ++ [a]) := by
  intro l x r e
  rcases List.eq_nil_or_concat r with rfl | ⟨r', b, rfl⟩
  · obtain ⟨rfl, e2⟩ := List.append_inj' e rfl
    cases e2
    refine ⟨va_up_self _ _ _, ?_⟩
    cases hz : c.getLast? with
    | none => simp [sf_apA, va_up]
    | some z =>
      have : a ≠ z := fun q => ha (q ▸ sf_last_mem hz)
      simp [sf_apA, va_up, this]
  · rw [List.concat_eq_append] at e ⊢
    rw [← List.cons_append, ← List.append_assoc] at e
    obtain ⟨rfl, e2⟩ := List.append_inj' e rfl
    cases e2
    have hxc : x ∈ l ++ x :: r' := by simp
    have hxa : x ≠ a := fun q => ha (q ▸ hxc)
    obtain ⟨h1, h2⟩ := h l x r' rfl
    obtain ⟨n1, n2, -, -⟩ := sf_nd_mid hn
    refine ⟨by rw [sf_up_ne hxa]; exact h1, ?_⟩
    rw [sf_last_cons]
    cases hr : r' with
    | nil => simp [sf_apA, va_up]
    | cons y t =>
      have hz : (x :: y :: t).getLast? = (y :: t).getLast? := by simp
      rw [hz]
      cases hq : (y :: t).getLast? with
      | none => simp at hq
      | some z =>
        have hz2 : z ∈ r' := by rw [hr]; exact sf_last_mem hq
        have hxz : x ≠ z := fun q => n2 (q ▸ hz2)
        show va_up (va_up af a none) z (some a) x = _
        rw [sf_up_ne hxz, sf_up_ne hxa, h2, hr]
        rfl
/-- unlink: what the method writes -/
def sf_unA (af : Nat → Option Nat) (b n : Option Nat) : Nat → Option Nat := match b with
  | none => af
  | some z => va_up af z n
theorem sf_unA_ne {af : Nat → Option Nat} {b n : Option Nat} {x : Nat} (h : b ≠ some x) : sf_unA af b n x = af x := by
  cases b with
  | none => rfl
  | some z => exact sf_up_ne (fun q => h (by rw [q]))
theorem sf_unA_self {af : Nat → Option Nat} {n : Option Nat} {x : Nat} : sf_unA af (some x) n x = n := va_up_self _ _ _
theorem sf_lnk_un {bf af : Nat → Option Nat} {l r : List Nat} {a : Nat} (h : sf_lnk bf af (l ++ a :: r)) (hn : (l ++ a :: r).Nodup) : sf_lnk (sf_unA bf r.head? l.getLast?) (sf_unA af l.getLast? r.head?) (l ++ r) := by
  obtain ⟨n1, n2, n3, n4⟩ := sf_nd_mid hn
  have right : ∀ (as : List Nat) (x : Nat) (r' : List Nat), r = as ++ x :: r' → sf_unA bf r.head? l.getLast? x = (l ++ as).getLast? ∧ sf_unA af l.getLast? r.head? x = r'.head? := by
    intro as x r' e
    have hx : x ∈ r := by rw [e]; simp
    obtain ⟨h1, h2⟩ := h (l ++ a :: as) x r' (by rw [e]; simp)
    have hl : l.getLast? ≠ some x := fun q => n4 x (sf_last_mem q) hx
    refine ⟨?_, by rw [sf_unA_ne hl]; exact h2⟩
    cases has : as with
    | nil =>
      rw [has] at e
      have : r.head? = some x := by rw [e]; rfl
      rw [this, sf_unA_self, List.append_nil]
    | cons y t =>
      rw [has] at e h1
      have hy : r.head? = some y := by rw [e]; rfl
      have hyx : r.head? ≠ some x := by
        rw [hy]
        intro q
        cases q
        have n5 : r.Nodup := by
          rw [List.nodup_append] at n3
          exact n3.2.1
        rw [e, List.cons_append, List.nodup_cons] at n5
        exact n5.1 (by simp)
      rw [sf_unA_ne hyx, h1, sf_last_cons, sf_last_cons]
      rfl
  intro l' x r' e
  rcases List.append_eq_append_iff.mp e with ⟨as, rfl, e2⟩ | ⟨bs, e1, e2⟩
  · exact right as x r' e2
  · cases hb : bs with
    | nil =>
      rw [hb, List.append_nil] at e1
      rw [hb, List.nil_append] at e2
      have := right [] x r' e2.symm
      rw [List.append_nil] at this
      exact ⟨this.1.trans (by rw [e1]), this.2⟩
    | cons y t =>
      rw [hb, List.cons_append] at e2
      injection e2 with e3 e4
      subst e3
      rw [hb] at e1
      have hx : x ∈ l := by rw [e1]; simp
      obtain ⟨h1, h2⟩ := h l' x (t ++ a :: r) (by rw [e1]; simp)
      have hr : r.head? ≠ some x := fun q => n4 x hx (sf_head_mem q)
      refine ⟨by rw [sf_unA_ne hr]; exact h1, ?_⟩
      cases ht : t with
      | nil =>
        rw [ht] at e1 e4
        have : l.getLast? = some x := by rw [e1, sf_last_cons]; rfl
        rw [this, sf_unA_self, e4, List.nil_append]
      | cons y2 t2 =>
        have n5 : l.Nodup := by
          rw [List.nodup_append] at n3
          exact n3.1
        have hlx : l.getLast? ≠ some x := by
          intro q
          rw [e1, sf_last_cons, ht] at q
          have q2 : (y2 :: t2).getLast? = some x := by
            rw [← q]; simp
          have q3 : x ∈ t := by rw [ht]; exact sf_last_mem q2
          rw [e1] at n5
          exact (sf_nd_mid n5).2.1 q3
        rw [sf_unA_ne hlx, h2, e4, ht]
        rfl
theorem sf_lnk_nil {bf af : Nat → Option Nat} : sf_lnk bf af [] := fun l a r e => by simp at e
theorem sf_lnk_congr {bf af bf' af' : Nat → Option Nat} {c : List Nat} (h : sf_lnk bf af c) (h1 : ∀ a ∈ c, bf' a = bf a) (h2 : ∀ a ∈ c, af' a = af a) : sf_lnk bf' af' c := by
  intro l a r e
  have ha : a ∈ c := by rw [e]; simp
  rw [h1 a ha, h2 a ha]
  exact h l a r e
/-- the free rows: a stack, linked by 'after' -/
def sf_stk (af : Nat → Option Nat) : Option Nat → List Nat → Prop
  | g, [] => g = none
  | g, a :: t => g = some a ∧ sf_stk af (af a) t
theorem sf_stk_congr {af af' : Nat → Option Nat} : ∀ {f : List Nat} {g : Option Nat}, sf_stk af g f → (∀ a ∈ f, af' a = af a) → sf_stk af' g f
  | [], _, h, _ => h
  | a :: t, _, h, q => ⟨h.1, by rw [q a List.mem_cons_self]; exact sf_stk_congr h.2 (fun b hb => q b (List.mem_cons_of_mem _ hb))⟩
/-- the layout: the rows of the chain lie one behind the other between e0 and e -/
def sf_lay (st ln : Nat → Nat) : Nat → List Nat → Nat → Prop
  | e0, [], e => e0 ≤ e
  | e0, a :: t, e => e0 ≤ st a ∧ sf_lay st ln (st a + sf_P (ln a)) t e
theorem sf_lay_mono {st ln : Nat → Nat} : ∀ {c : List Nat} {e0 e0' e e' : Nat}, sf_lay st ln e0 c e → e0' ≤ e0 → e ≤ e' → sf_lay st ln e0' c e'
  | [], _, _, _, _, h, h1, h2 => Nat.le_trans h1 (Nat.le_trans h h2)
  | a :: t, _, _, _, _, h, h1, h2 => ⟨Nat.le_trans h1 h.1, sf_lay_mono h.2 (Nat.le_refl _) h2⟩
theorem sf_lay_congr {st ln st' ln' : Nat → Nat} : ∀ {c : List Nat} {e0 e : Nat}, sf_lay st ln e0 c e → (∀ a ∈ c, st' a = st a ∧ sf_P (ln' a) ≤ sf_P (ln a)) → sf_lay st' ln' e0 c e
  | [], _, _, h, _ => h
  | a :: t, _, _, h, q => ⟨by rw [(q a List.mem_cons_self).1]; exact h.1, by
      refine sf_lay_mono (sf_lay_congr h.2 (fun b hb => q b (List.mem_cons_of_mem _ hb))) ?_ (Nat.le_refl _)
      rw [(q a List.mem_cons_self).1]
      exact Nat.add_le_add_left (q a List.mem_cons_self).2 _⟩
theorem sf_lay_app {st ln : Nat → Nat} : ∀ {l r : List Nat} {e0 e : Nat}, sf_lay st ln e0 (l ++ r) e ↔ ∃ k, sf_lay st ln e0 l k ∧ sf_lay st ln k r e
  | [], r, e0, e => ⟨fun h => ⟨e0, Nat.le_refl _, h⟩, fun ⟨k, h1, h2⟩ => sf_lay_mono h2 h1 (Nat.le_refl _)⟩
  | a :: t, r, e0, e => by
    rw [List.cons_append]
    constructor
    · intro h
      obtain ⟨k, h1, h2⟩ := sf_lay_app.mp h.2
      exact ⟨k, ⟨h.1, h1⟩, h2⟩
    · intro ⟨k, h1, h2⟩
      exact ⟨h1.1, sf_lay_app.mpr ⟨k, h1.2, h2⟩⟩
theorem sf_lay_le {st ln : Nat → Nat} : ∀ {c : List Nat} {e0 e : Nat}, sf_lay st ln e0 c e → e0 ≤ e
  | [], _, _, h => h
  | a :: t, _, _, h => by
    have := sf_lay_le h.2
    have := h.1
    omega
theorem sf_lay_in {st ln : Nat → Nat} : ∀ {c : List Nat} {e0 e a : Nat}, sf_lay st ln e0 c e → a ∈ c → e0 ≤ st a ∧ st a + sf_P (ln a) ≤ e
  | b :: t, _, _, a, h, ha => by
    rcases List.mem_cons.mp ha with rfl | ha
    · exact ⟨h.1, sf_lay_le h.2⟩
    · have := sf_lay_in h.2 ha
      have := h.1
      omega
theorem sf_lay_un {st ln : Nat → Nat} {l r : List Nat} {a e0 e : Nat} (h : sf_lay st ln e0 (l ++ a :: r) e) : sf_lay st ln e0 (l ++ r) e := by
  obtain ⟨k, h1, h2⟩ := sf_lay_app.mp h
  refine sf_lay_app.mpr ⟨k, h1, sf_lay_mono h2.2 ?_ (Nat.le_refl _)⟩
  have := h2.1
  omega
theorem sf_lay_two {st ln : Nat → Nat} : ∀ {c : List Nat} {e0 e a b : Nat}, sf_lay st ln e0 c e → a ∈ c → b ∈ c → a ≠ b → st a + sf_P (ln a) ≤ st b ∨ st b + sf_P (ln b) ≤ st a
  | x :: t, _, _, a, b, h, ha, hb, hab => by
    rcases List.mem_cons.mp ha with ea | ha2
    · rcases List.mem_cons.mp hb with eb | hb2
      · exact absurd (ea.trans eb.symm) hab
      · rw [ea]; exact Or.inl (sf_lay_in h.2 hb2).1
    · rcases List.mem_cons.mp hb with eb | hb2
      · rw [eb]; exact Or.inr (sf_lay_in h.2 ha2).1
      · exact sf_lay_two h.2 ha2 hb2 hab
/-- the places of the rows of a list -/
def sf_sum (ln : Nat → Nat) : List Nat → Nat
  | [] => 0
  | a :: t => sf_P (ln a) + sf_sum ln t
theorem sf_sum_app {ln : Nat → Nat} : ∀ (l r : List Nat), sf_sum ln (l ++ r) = sf_sum ln l + sf_sum ln r
  | [], r => by simp [sf_sum]
  | a :: t, r => by rw [List.cons_append]; simp only [sf_sum]; rw [sf_sum_app t r]; omega
theorem sf_sum_congr {ln ln' : Nat → Nat} : ∀ {c : List Nat}, (∀ a ∈ c, sf_P (ln' a) = sf_P (ln a)) → sf_sum ln' c = sf_sum ln c
  | [], _ => rfl
  | a :: t, q => by
    simp only [sf_sum]
    rw [q a List.mem_cons_self, sf_sum_congr (fun b hb => q b (List.mem_cons_of_mem _ hb))]
theorem sf_lay_sum {st ln : Nat → Nat} : ∀ {c : List Nat} {e0 e : Nat}, sf_lay st ln e0 c e → e0 + sf_sum ln c ≤ e
  | [], _, _, h => h
  | a :: t, _, _, h => by
    have := sf_lay_sum h.2
    have := h.1
    simp only [sf_sum]
    omega
/-- pushing together: l is done, r is to come; all bytes of the rows stay what they were -/
def sf_PL (ln : Nat → Nat) (g0 : Nat → Int32) (st0 : Nat → Nat) (en : Nat) (l r : List Nat) (to : Nat) (g : Nat → Int32) (st : Nat → Nat) : Prop := to = sf_sum ln l ∧ sf_lay st ln 0 l to ∧ sf_lay st ln to r en ∧ (∀ a, a ∈ l ++ r → ∀ i, i < ln a → g (st a + i) = g0 (st0 a + i)) ∧ ∀ a, a ∉ l → st a = st0 a
theorem sf_PL_0 {ln : Nat → Nat} {g0 : Nat → Int32} {st0 : Nat → Nat} {en : Nat} {c : List Nat} (h : sf_lay st0 ln 0 c en) : sf_PL ln g0 st0 en [] c 0 g0 st0 := ⟨rfl, Nat.le_refl _, h, fun _ _ _ _ => rfl, fun _ _ => rfl⟩
theorem sf_PL_step {ln : Nat → Nat} {g0 g g' : Nat → Int32} {st0 st st' : Nat → Nat} {en to a : Nat} {l t : List Nat} (h : sf_PL ln g0 st0 en l (a :: t) to g st) (hn : (l ++ a :: t).Nodup) (hg : ∀ j, g' j = if to ≤ j ∧ j < to + ln a then g (st a + (j - to)) else g j) (hs : ∀ b, st' b = if b = a then to else st b) : sf_PL ln g0 st0 en (l ++ [a]) t (to + sf_P (ln a)) g' st' := by
  obtain ⟨h1, h2, ⟨h3, h4⟩, h5, h6⟩ := h
  obtain ⟨n1, n2, n3, n4⟩ := sf_nd_mid hn
  have hP := sf_P_ge (ln a)
  have ha : st' a = to := by rw [hs, if_pos rfl]
  have hl : ∀ b, b ∈ l → st' b = st b := fun b hb => by rw [hs]; exact if_neg (fun q : b = a => n1 (q ▸ hb))
  have ht : ∀ b, b ∈ t → st' b = st b := fun b hb => by rw [hs]; exact if_neg (fun q : b = a => n2 (q ▸ hb))
  refine ⟨?_, ?_, ?_, ?_, ?_⟩
  · rw [sf_sum_app, ← h1]; simp only [sf_sum]; omega
  · refine sf_lay_app.mpr ⟨to, sf_lay_congr h2 (fun b hb => ⟨hl b hb, Nat.le_refl _⟩), ?_⟩
    show to ≤ st' a ∧ st' a + sf_P (ln a) ≤ to + sf_P (ln a)
    rw [ha]
    exact ⟨Nat.le_refl _, Nat.le_refl _⟩
  · refine sf_lay_mono (sf_lay_congr h4 (fun b hb => ⟨ht b hb, Nat.le_refl _⟩)) ?_ (Nat.le_refl _)
    omega
  · intro b hb i hi
    rw [List.append_assoc] at hb
    have hb2 : b ∈ l ++ a :: t := hb
    rcases List.mem_append.mp hb with hb | hb
    · have q := (sf_lay_in h2 hb).2
      have qP := sf_P_ge (ln b)
      rw [hl b hb, hg, if_neg (by omega)]
      exact h5 b hb2 i hi
    · rcases List.mem_cons.mp hb with rfl | hb
      · rw [ha, hg, if_pos (by omega), Nat.add_sub_cancel_left]
        exact h5 b hb2 i hi
      · have q := (sf_lay_in h4 hb).1
        rw [ht b hb, hg, if_neg (by omega)]
        exact h5 b hb2 i hi
  · intro b hb
    have hb1 : b ∉ l := fun q => hb (List.mem_append_left _ q)
    have hb2 : b ≠ a := fun q => hb (by rw [q]; simp)
    rw [hs, if_neg hb2]
    exact h6 b hb1
end
section
/-! the memory's invariant, and what its methods' steps do to it (pure) -/
def sf_pk (b x y : Option Nat) : Option Nat := match b with
  | none => x
  | some _ => y
/-- the memory's part of a state: occupied, end, first, last, bytes, start, length, before, after -/
abbrev sf_M : Type := Nat × Nat × Option Nat × Option Nat × (Nat → Int32) × (Nat → Nat) × (Nat → Nat) × (Nat → Option Nat) × (Nat → Option Nat)
def sf_MI (LP c : List Nat) (oc en : Nat) (fs la : Option Nat) (g : Nat → Int32) (st ln : Nat → Nat) (bf af : Nat → Option Nat) : Prop :=
  c.Nodup ∧ (∀ a, a ∈ c → a ∈ LP) ∧ fs = c.head? ∧ la = c.getLast? ∧ sf_lnk bf af c ∧ sf_lay st ln 0 c en ∧ en ≤ 400000 ∧ oc = sf_sum ln c ∧ (∀ a, a ∈ c → ln a ≤ 16384) ∧ sb_Fit g
theorem sf_MI_oc {LP c : List Nat} {oc en : Nat} {fs la : Option Nat} {g : Nat → Int32} {st ln : Nat → Nat} {bf af : Nat → Option Nat} (h : sf_MI LP c oc en fs la g st ln bf af) : oc ≤ en ∧ en ≤ 400000 := by
  obtain ⟨-, -, -, -, -, h6, h7, h8, -⟩ := h
  have := sf_lay_sum h6
  omega
theorem sf_MI_st {LP c : List Nat} {oc en : Nat} {fs la : Option Nat} {g : Nat → Int32} {st ln : Nat → Nat} {bf af : Nat → Option Nat} (h : sf_MI LP c oc en fs la g st ln bf af) {a : Nat} (ha : a ∈ c) : a ∈ LP ∧ st a + sf_P (ln a) ≤ en ∧ st a + ln a ≤ 400000 ∧ ln a ≤ 16384 ∧ sf_P (ln a) ≤ oc := by
  obtain ⟨-, h2, -, -, -, h6, h7, h8, h9, -⟩ := h
  have q := (sf_lay_in h6 ha).2
  have qP := sf_P_ge (ln a)
  refine ⟨h2 a ha, q, by omega, h9 a ha, ?_⟩
  obtain ⟨l, r, rfl⟩ := List.append_of_mem ha
  rw [h8, sf_sum_app]
  simp only [sf_sum]
  omega
theorem sf_head_app {c : List Nat} {a : Nat} : (c ++ [a]).head? = sf_pk c.getLast? (some a) c.head? := by
  cases c with
  | nil => rfl
  | cons x t =>
    cases h : (x :: t).getLast? with
    | none => simp at h
    | some z => rfl
theorem sf_nd_app {c : List Nat} {a : Nat} (h : c.Nodup) (ha : a ∉ c) : (c ++ [a]).Nodup := by
  rw [List.nodup_append]
  exact ⟨h, by simp, fun x hx y hy => by
    rw [List.mem_singleton] at hy
    subst hy
    exact fun q => ha (q ▸ hx)⟩
/-- a new row at the end -/
theorem sf_MI_app {LP c : List Nat} {oc en b n a : Nat} {fs la : Option Nat} {g g2 : Nat → Int32} {st st1 ln : Nat → Nat} {bf af : Nat → Option Nat} (h : sf_MI LP c oc en fs la g st ln bf af) (ha : a ∉ c) (haL : a ∈ LP) (hn : n ≤ 16384) (hl : sf_lay st1 ln 0 c b) (hb : b + sf_P n ≤ 400000) (hF : sb_Fit g2) :
    sf_MI LP (c ++ [a]) (oc + sf_P n) (b + sf_P n) (sf_pk la (some a) fs) (some a) g2 (va_up st1 a b) (va_up ln a n) (va_up bf a la) (sf_apA af la a) := by
  obtain ⟨h1, h2, h3, h4, h5, h6, h7, h8, h9, h10⟩ := h
  have hne : ∀ x, x ∈ c → x ≠ a := fun x hx q => ha (q ▸ hx)
  refine ⟨sf_nd_app h1 ha, ?_, ?_, ?_, ?_, ?_, hb, ?_, ?_, hF⟩
  · intro x hx
    rcases List.mem_append.mp hx with hx | hx
    · exact h2 x hx
    · rw [List.mem_singleton.mp hx]; exact haL
  · rw [sf_head_app, h3, h4]
  · rw [sf_last_cons]; rfl
  · rw [h4]; exact sf_lnk_app h5 ha h1
  · refine sf_lay_app.mpr ⟨b, sf_lay_congr hl (fun x hx => ⟨va_up_ne _ _ (hne x hx), by rw [va_up_ne _ _ (hne x hx)]; exact Nat.le_refl _⟩), ?_⟩
    show b ≤ va_up st1 a b a ∧ va_up st1 a b a + sf_P (va_up ln a n a) ≤ b + sf_P n
    rw [va_up_self, va_up_self]
    exact ⟨Nat.le_refl _, Nat.le_refl _⟩
  · rw [sf_sum_app, sf_sum_congr (ln' := va_up ln a n) (ln := ln) (fun x hx => by rw [va_up_ne _ _ (hne x hx)]), ← h8]
    show _ = oc + (sf_P (va_up ln a n a) + 0)
    rw [va_up_self]
    rfl
  · intro x hx
    rcases List.mem_append.mp hx with hx | hx
    · rw [va_up_ne _ _ (hne x hx)]; exact h9 x hx
    · rw [List.mem_singleton.mp hx, va_up_self]; exact hn
/-- a row is taken out -/
theorem sf_MI_un {LP l r : List Nat} {oc en a : Nat} {fs la : Option Nat} {g : Nat → Int32} {st ln : Nat → Nat} {bf af : Nat → Option Nat} (h : sf_MI LP (l ++ a :: r) oc en fs la g st ln bf af) :
    bf a = l.getLast? ∧ af a = r.head? ∧ sf_MI LP (l ++ r) (oc - sf_P (ln a)) en (sf_pk (bf a) (af a) fs) (sf_pk (af a) (bf a) la) g st ln (sf_unA bf (af a) (bf a)) (sf_unA af (bf a) (af a)) := by
  obtain ⟨h1, h2, h3, h4, h5, h6, h7, h8, h9, h10⟩ := h
  obtain ⟨hb, ha⟩ := h5 l a r rfl
  obtain ⟨n1, n2, n3, n4⟩ := sf_nd_mid h1
  refine ⟨hb, ha, n3, ?_, ?_, ?_, ?_, sf_lay_un h6, h7, ?_, ?_, h10⟩
  · intro x hx
    rcases List.mem_append.mp hx with hx | hx
    · exact h2 x (List.mem_append_left _ hx)
    · exact h2 x (List.mem_append_right _ (List.mem_cons_of_mem _ hx))
  · rw [hb, ha, h3]
    cases l with
    | nil => rfl
    | cons x t =>
      cases hz : (x :: t).getLast? with
      | none => simp at hz
      | some z => rfl
  · rw [hb, ha, h4]
    cases r with
    | nil => rw [List.append_nil]; rfl
    | cons x t =>
      show (l ++ a :: x :: t).getLast? = (l ++ x :: t).getLast?
      rw [sf_last_cons, sf_last_cons]
      simp
  · rw [hb, ha]; exact sf_lnk_un h5 h1
  · rw [h8, sf_sum_app, sf_sum_app]
    simp only [sf_sum]
    omega
  · intro x hx
    rcases List.mem_append.mp hx with hx | hx
    · exact h9 x (List.mem_append_left _ hx)
    · exact h9 x (List.mem_append_right _ (List.mem_cons_of_mem _ hx))
/-- a row keeps its start and gets another length within its places -/
theorem sf_MI_len {LP c : List Nat} {oc en a n : Nat} {fs la : Option Nat} {g g2 : Nat → Int32} {st ln : Nat → Nat} {bf af : Nat → Option Nat} (h : sf_MI LP c oc en fs la g st ln bf af) (ha : a ∈ c) (hn : sf_P n ≤ sf_P (ln a)) (hn2 : n ≤ 16384) (hF : sb_Fit g2) :
    sf_MI LP c (oc + sf_P n - sf_P (ln a)) en fs la g2 st (va_up ln a n) bf af := by
  obtain ⟨h1, h2, h3, h4, h5, h6, h7, h8, h9, h10⟩ := h
  have hup : ∀ x, x ∈ c → sf_P (va_up ln a n x) ≤ sf_P (ln x) := by
    intro x hx
    by_cases q : x = a
    · rw [q, va_up_self]; exact hn
    · rw [va_up_ne _ _ q]; exact Nat.le_refl _
  refine ⟨h1, h2, h3, h4, h5, sf_lay_congr h6 (fun x hx => ⟨rfl, hup x hx⟩), h7, ?_, ?_, hF⟩
  · obtain ⟨l, r, rfl⟩ := List.append_of_mem ha
    obtain ⟨n1, n2, n3, n4⟩ := sf_nd_mid h1
    rw [h8, sf_sum_app, sf_sum_app]
    simp only [sf_sum]
    rw [va_up_self, sf_sum_congr (c := l) (ln' := va_up ln a n) (ln := ln) (fun x hx => by rw [va_up_ne _ _ (show x ≠ a from fun q => n1 (q ▸ hx))]), sf_sum_congr (c := r) (ln' := va_up ln a n) (ln := ln) (fun x hx => by rw [va_up_ne _ _ (show x ≠ a from fun q => n2 (q ▸ hx))])]
    omega
  · intro x hx
    by_cases q : x = a
    · rw [q, va_up_self]; exact hn2
    · rw [va_up_ne _ _ q]; exact h9 x hx
end
section
/-! the world of a ByteShelf: the shelf, its memory, the bytes, the table, the rows -/
abbrev sf_row (nm tk st ln : Nat → Nat) (bf af : Nat → Option Nat) : Nat → va_E := fun a => .inr (1, [.int (nI (nm a)), .int (nI (tk a)), .int (nI (st a)), .int (nI (ln a)), va_rf (bf a), va_rf (af a)])
abbrev sf_w (h0 hm hb ht : Nat) (cB cT : ClassId) (LP : List Nat) (gb : Option Nat) (md ct : Nat) (tb : Nat → Option Nat) (nm tk : Nat → Nat) (oc en : Nat) (fs la : Option Nat) (g : Nat → Int32) (st ln : Nat → Nat) (bf af : Nat → Option Nat) : va_W :=
  [(h0, .inr (2, [.ref hm, .ref ht, va_rf gb, .int (nI md), .int (nI ct)])), (hm, .inr (0, [.ref hb, .int (nI oc), .int (nI en), va_rf fs, va_rf la])), (hb, .inl (cB, 400000, .inl g)), (ht, .inl (cT, 20000, .inr (.inr (.inr (.inr tb)))))] ++ va_pl LP (sf_row nm tk st ln bf af)
theorem sf_rw_tk {nm tk st ln : Nat → Nat} {bf af : Nat → Option Nat} {a : Nat} (b : Nat) : va_up (sf_row nm tk st ln bf af) a (.inr (1, [.int (nI (nm a)), .int (nI b), .int (nI (st a)), .int (nI (ln a)), va_rf (bf a), va_rf (af a)])) = sf_row nm (va_up tk a b) st ln bf af := by
  funext x
  by_cases h : x = a <;> simp [va_up, sf_row, h]
theorem sf_rw_st {nm tk st ln : Nat → Nat} {bf af : Nat → Option Nat} {a : Nat} (b : Nat) : va_up (sf_row nm tk st ln bf af) a (.inr (1, [.int (nI (nm a)), .int (nI (tk a)), .int (nI b), .int (nI (ln a)), va_rf (bf a), va_rf (af a)])) = sf_row nm tk (va_up st a b) ln bf af := by
  funext x
  by_cases h : x = a <;> simp [va_up, sf_row, h]
theorem sf_rw_ln {nm tk st ln : Nat → Nat} {bf af : Nat → Option Nat} {a : Nat} (b : Nat) : va_up (sf_row nm tk st ln bf af) a (.inr (1, [.int (nI (nm a)), .int (nI (tk a)), .int (nI (st a)), .int (nI b), va_rf (bf a), va_rf (af a)])) = sf_row nm tk st (va_up ln a b) bf af := by
  funext x
  by_cases h : x = a <;> simp [va_up, sf_row, h]
theorem sf_rw_bf {nm tk st ln : Nat → Nat} {bf af : Nat → Option Nat} {a : Nat} (b : Option Nat) : va_up (sf_row nm tk st ln bf af) a (.inr (1, [.int (nI (nm a)), .int (nI (tk a)), .int (nI (st a)), .int (nI (ln a)), va_rf b, va_rf (af a)])) = sf_row nm tk st ln (va_up bf a b) af := by
  funext x
  by_cases h : x = a <;> simp [va_up, sf_row, h]
theorem sf_rw_af {nm tk st ln : Nat → Nat} {bf af : Nat → Option Nat} {a : Nat} (b : Option Nat) : va_up (sf_row nm tk st ln bf af) a (.inr (1, [.int (nI (nm a)), .int (nI (tk a)), .int (nI (st a)), .int (nI (ln a)), va_rf (bf a), va_rf b])) = sf_row nm tk st ln bf (va_up af a b) := by
  funext x
  by_cases h : x = a <;> simp [va_up, sf_row, h]
/-- a method without a world -/
def sf_PreT (av : List Value) : Array Value → State → Prop := va_Pc av (fun _ => True)
theorem sf_blindT {av : List Value} : FrameBlind (sf_PreT av) := fun _ _ _ _ q => ⟨q.1, trivial⟩
theorem sf_preT {av : List Value} {s : State} {H : Heap} : ∀ U : State, U.heap = H → s.WarmedH U.vm → sf_PreT av av.toArray U := fun _ _ _ => ⟨rfl, trivial⟩
section SFI
variable {p : Program} {l : Launch} {e : Env} {R : Room} {s : State} {m : MethodId} {args : Array Value} {below : List Frame} {meth : Method} {c : Code} {H : Heap} {locs : List Loc} {cells slots : Nat} {Q : State → Prop}
variable {cc : ByteArray} {pc : Nat} {ls : Array Slot} {rest : List Value}
theorem sf_if_eq (hexec : p.tables.exec = Jvm.exec) (hb : c.code = cc) {x : Nat} (hx : x < 2 ^ 31) {off : Int} {tgt : Nat} (hdg : decode cc pc = .ok (.ifCond .eq off, 3)) (ht : (pc : Int) + off = (tgt : Int)) (kt : x = 0 → W p l e R s m args below meth c H locs cells slots Q (F0 m tgt ls rest)) (kf : x ≠ 0 → W p l e R s m args below meth c H locs cells slots Q (F0 m (pc + 3) ls rest)) : W p l e R s m args below meth c H locs cells slots Q (F0 m pc ls (.int (nI x) :: rest)) :=
  lv_if_eq hexec hb hdg ht (fun h => kt ((nI_eq hx (by decide)).mp h)) (fun h => kf fun q => h (by rw [q]; rfl))
theorem sf_if_ne (hexec : p.tables.exec = Jvm.exec) (hb : c.code = cc) {x : Nat} (hx : x < 2 ^ 31) {off : Int} {tgt : Nat} (hdg : decode cc pc = .ok (.ifCond .ne off, 3)) (ht : (pc : Int) + off = (tgt : Int)) (kt : x ≠ 0 → W p l e R s m args below meth c H locs cells slots Q (F0 m tgt ls rest)) (kf : x = 0 → W p l e R s m args below meth c H locs cells slots Q (F0 m (pc + 3) ls rest)) : W p l e R s m args below meth c H locs cells slots Q (F0 m pc ls (.int (nI x) :: rest)) :=
  lv_if_ne hexec hb hdg ht (fun h => kt fun q => h (by rw [q]; rfl)) (fun h => kf ((nI_eq hx (by decide)).mp h))
theorem sf_if_le (hexec : p.tables.exec = Jvm.exec) (hb : c.code = cc) {x : Nat} (hx : x < 2 ^ 31) {off : Int} {tgt : Nat} (hdg : decode cc pc = .ok (.ifCond .le off, 3)) (ht : (pc : Int) + off = (tgt : Int)) (kt : x = 0 → W p l e R s m args below meth c H locs cells slots Q (F0 m tgt ls rest)) (kf : 0 < x → W p l e R s m args below meth c H locs cells slots Q (F0 m (pc + 3) ls rest)) : W p l e R s m args below meth c H locs cells slots Q (F0 m pc ls (.int (nI x) :: rest)) :=
  lv_if_le hexec hb hdg ht (fun h => kt (Nat.le_zero.mp ((nI_leI hx (by decide)).mp h))) (fun h => kf (Nat.pos_of_ne_zero fun q => h (by rw [q]; exact nI_le (Nat.le_refl 0) (by decide))))
end SFI
/-- what a method of no world-change answers -/
theorem sf_noloc {free : Addr → Prop} : ∀ q ∈ ([] : List Loc), free q.base := fun q h => by cases h
end
section
/-! a loop; a void call that changes nothing; arraycopy within one array -/
def sf_Sv : Array Value → State → Outcome → State → Prop := fun _ st o t => o = .returned none ∧ t.heap = st.heap
section SFL
variable {p : Program} {l : Launch} {e : Env} {R : Room} {s : State} {m : MethodId} {args : Array Value} {below : List Frame} {meth : Method} {c : Code} {H : Heap} {locs : List Loc} {cells slots : Nat} {Q : State → Prop}
variable {cc : ByteArray} {pc : Nat} {ls : Array Slot} {rest st0 : List Value} {av : Array Value} {D : va_G} {cl : List vw_C} {A : Nat → Prop} {a : Nat} {tys : List (ClassId × FieldType)} {ws : va_W} {H0 : Heap}
theorem sf_loop {σ : Type} (μ : σ → Nat) (I : σ → Heap → List Loc → Array Slot → Prop)
    (step : ∀ (u : σ) (H : Heap) (locs : List Loc) (ls : Array Slot), I u H locs ls → (∀ (u' : σ) (H' : Heap) (locs' : List Loc) (ls' : Array Slot), μ u' < μ u → I u' H' locs' ls' → W p l e R s m args below meth c H' locs' cells slots Q (F0 m pc ls' [])) → W p l e R s m args below meth c H locs cells slots Q (F0 m pc ls []))
    (u : σ) (H : Heap) (locs : List Loc) (ls : Array Slot) (h : I u H locs ls) : W p l e R s m args below meth c H locs cells slots Q (F0 m pc ls []) := by
  have key : ∀ (n : Nat) (u : σ) (H : Heap) (locs : List Loc) (ls : Array Slot), μ u < n → I u H locs ls → W p l e R s m args below meth c H locs cells slots Q (F0 m pc ls []) := by
    intro n
    induction n with
    | zero => intro u H locs ls h; exact absurd h (Nat.not_lt_zero _)
    | succ n ih =>
      intro u H locs ls hn h
      exact step u H locs ls h (fun u' H' locs' ls' hlt h' => ih u' H' locs' ls' (Nat.lt_of_lt_of_le hlt (Nat.le_of_lt_succ hn)) h')
  exact key (μ u + 1) u H locs ls (Nat.lt_succ_self _) h
theorem sf_csv (hr : CallRun p l e R s m args below meth c H locs cells slots 0 0 (F0 m pc ls st0) rest (sf_Sv av) (fun _ => False))
    (kk : W p l e R s m args below meth c H locs cells slots Q (F0 m (pc + 3) ls rest)) : W p l e R s m args below meth c H locs cells slots Q (F0 m pc ls st0) := by
  intro T hT X
  obtain ⟨v, st₀, t, T', L, h0, X', hL, e1, ⟨hv, hh⟩, st⟩ := hr T hT X
  cases hv
  obtain ⟨t2, a1, b1⟩ := kk T' (by rw [e1, hh, h0]) (Stand.forget X' (fun q h => (hL q h).elim))
  exact ⟨t2, st t2 a1, b1⟩
theorem sf_if_ge (hexec : p.tables.exec = Jvm.exec) (hb : c.code = cc) {x : Nat} (hx : x < 2 ^ 31) {off : Int} {tgt : Nat} (hdg : decode cc pc = .ok (.ifCond .ge off, 3)) (ht : (pc : Int) + off = (tgt : Int)) (kt : W p l e R s m args below meth c H locs cells slots Q (F0 m tgt ls rest)) : W p l e R s m args below meth c H locs cells slots Q (F0 m pc ls (.int (nI x) :: rest)) :=
  lv_if_ge hexec hb hdg ht (fun _ => kt) (fun h => absurd (nI_pos' hx) h)
theorem sf_if_lt (hexec : p.tables.exec = Jvm.exec) (hb : c.code = cc) {x : Nat} (hx : x < 2 ^ 31) {off : Int} {tgt : Nat} (hdg : decode cc pc = .ok (.ifCond .lt off, 3)) (ht : (pc : Int) + off = (tgt : Int)) (kf : W p l e R s m args below meth c H locs cells slots Q (F0 m (pc + 3) ls rest)) : W p l e R s m args below meth c H locs cells slots Q (F0 m pc ls (.int (nI x) :: rest)) :=
  lv_if_lt hexec hb hdg ht (fun h => absurd h (nI_pos hx)) (fun _ => kf)
theorem sf_copy (hexec : p.tables.exec = Jvm.exec) (hb : c.code = cc) (hml : c.maxLocals = ls.size) {own : String} {index : Nat} (hown : s.vm.findClass own = some m.cls) {Ts : List Cond} (hts : ∀ w ∈ Ts, w.before args s = true) (hT : sf_Has Ts) (hl : Cond.methodLink own index arraycopyName ∈ lw_tbl)
    (hK : va_K D cl tys s) (hP : va_P D cl ws H) (hD : va_D A ws) (hS : va_S A H0 H locs) (q0 t0 : Nat) {c0 : ClassId} {n0 : Nat} {f : Nat → Int32} (ha : ws[q0]? = some (a, .inl (c0, n0, .inl f))) (ht : tys[t0]? = some (c0, .byte)) (hn0 : n0 < 2 ^ 31) {sp dp n : Nat} (h4 : sp + n ≤ n0) (h5 : dp + n ≤ n0) (hfit : sb_Fit f)
    (hframes : 1 ≤ R.frames) (hlocals : (rest.map fun v => v.category).sum + (nativeFrameWords "java/lang/System" "arraycopy" 5 + 11) ≤ R.locals) (hdg : decode cc pc = .ok (.invokestatic index, 3))
    (kk : ∀ (H1 : Heap) (locs1 : List Loc), va_P D cl (ws.set q0 (a, .inl (c0, n0, .inl (va_cpy f f sp dp n)))) H1 → va_D A (ws.set q0 (a, .inl (c0, n0, .inl (va_cpy f f sp dp n)))) → va_S A H0 H1 locs1 → W p l e R s m args below meth c H1 locs1 cells slots Q (F0 m (pc + 3) ls rest)) : W p l e R s m args below meth c H locs cells slots Q (F0 m pc ls (.int (nI n) :: .int (nI dp) :: .ref a :: .int (nI sp) :: .ref a :: rest)) := by
  have ok : ∀ {w : Cond}, w ∈ lw_tbl → goodWord w = true → w.before args s = true := fun h hg => hts _ (hT _ h hg)
  have e1 : (nI sp).toNatClampNeg = sp := nI_clamp (by omega)
  have e2 : (nI dp).toNatClampNeg = dp := nI_clamp (by omega)
  have e3 : (nI n).toNatClampNeg = n := nI_clamp (by omega)
  refine va_copyi hexec hb hml hown (ok hl rfl) (ok nm_arraycopy rfl) (ok sm_arraycopy rfl) (ok in_J10 rfl) hK hP hD hS q0 q0 t0 t0 (ty := .byte) ha ha ht ht rfl (nI_pos (by omega)) (nI_pos (by omega)) (nI_pos (by omega)) (by rw [e1, e3]; exact h4) (by rw [e2, e3]; exact h5) (fun i _ => hfit _) hframes hlocals hdg (fun H1 locs1 k1 k2 k3 => ?_)
  rw [e1, e2, e3] at k1 k2
  exact kk H1 locs1 k1 k2 k3
end SFL
end
section
/-! what the memory's methods say at their ends (pure) -/
theorem sf_MI_la {LP c : List Nat} {oc en : Nat} {fs la : Option Nat} {g : Nat → Int32} {st ln : Nat → Nat} {bf af : Nat → Option Nat} (h : sf_MI LP c oc en fs la g st ln bf af) : ∀ z, la = some z → z ∈ LP := fun z hz => h.2.1 z (sf_last_mem (by rw [← h.2.2.2.1]; exact hz))
theorem sf_MI_nb {LP l r : List Nat} {oc en a : Nat} {fs la : Option Nat} {g : Nat → Int32} {st ln : Nat → Nat} {bf af : Nat → Option Nat} (h : sf_MI LP (l ++ a :: r) oc en fs la g st ln bf af) : (∀ z, bf a = some z → z ∈ LP) ∧ ∀ z, af a = some z → z ∈ LP := by
  obtain ⟨h1, h2, h3, h4, h5, -⟩ := h
  obtain ⟨hb, ha⟩ := h5 l a r rfl
  refine ⟨fun z hz => h2 z (List.mem_append_left _ (sf_last_mem (by rw [← hb]; exact hz))), fun z hz => h2 z (List.mem_append_right _ (List.mem_cons_of_mem _ (sf_head_mem (by rw [← ha]; exact hz))))⟩
theorem sf_fit_if {f f2 : Nat → Int32} {lo hi : Nat} (h : ∀ j, f2 j = if lo ≤ j ∧ j < hi then nI 0 else f j) (hf : sb_Fit f) : sb_Fit f2 := by
  intro j
  rw [h j]
  split
  · decide
  · exact hf j
theorem sf_lay_post {LP cs : List Nat} {oc en b n a : Nat} {fs la : Option Nat} {g g1 g2 : Nat → Int32} {st st1 ln : Nat → Nat} {bf af : Nat → Option Nat} (hM : sf_MI LP cs oc en fs la g st ln bf af) (hac : a ∉ cs) (ha : a ∈ LP) (hn : n ≤ 16384) (p2 : b + sf_P n ≤ 400000) (p3 : sf_lay st1 ln 0 cs b) (p4 : ∀ x, x ∈ cs → ∀ i, i < ln x → g1 (st1 x + i) = g (st x + i)) (p5 : sb_Fit g1) (h : ∀ j, g2 j = if b ≤ j ∧ j < b + n then nI 0 else g1 j) :
    sf_MI LP (cs ++ [a]) (oc + sf_P n) (b + sf_P n) (sf_pk la (some a) fs) (some a) g2 (va_up st1 a b) (va_up ln a n) (va_up bf a la) (sf_apA af la a) ∧ (∀ x, x ∈ cs → ∀ i, i < ln x → g2 (va_up st1 a b x + i) = g (st x + i)) ∧ ∀ i, i < n → g2 (va_up st1 a b a + i) = 0 := by
  refine ⟨sf_MI_app hM hac ha hn p3 p2 (sf_fit_if h p5), ?_, ?_⟩
  · intro x hx i hi
    have hne : x ≠ a := fun q => hac (q ▸ hx)
    have q1 := (sf_lay_in p3 hx).2
    have q2 := sf_P_ge (ln x)
    rw [va_up_ne _ _ hne, h, if_neg (by omega)]
    exact p4 x hx i hi
  · intro i hi
    rw [va_up_self, h, if_pos (by omega)]
    rfl
theorem sf_occ {x y z : Nat} (h : z ≤ x + y) : nI x + (nI y - nI z) = nI (x + y - z) := by
  rw [Int32.sub_eq_add_neg, ← Int32.add_assoc, ← Int32.sub_eq_add_neg, nI_add, pk_sub h]
/-- behind setLength: the row a has n bytes -/
def sf_SL (LP cs : List Nat) (a n oc : Nat) (g : Nat → Int32) (st ln : Nat → Nat) (af : Nat → Option Nat) (u : List Nat × sf_M) : Prop :=
  ∃ (cs' : List Nat) (oc' en' : Nat) (fs' la' : Option Nat) (g' : Nat → Int32) (st' : Nat → Nat) (bf' af' : Nat → Option Nat), u = (cs', oc', en', fs', la', g', st', va_up ln a n, bf', af') ∧ oc' = oc + sf_P n - sf_P (ln a) ∧ (∀ x, x ∈ cs' ↔ x ∈ cs) ∧ cs'.length = cs.length ∧ sf_MI LP cs' oc' en' fs' la' g' st' (va_up ln a n) bf' af' ∧ (∀ x, x ∈ cs → x ≠ a → ∀ i, i < ln x → g' (st' x + i) = g (st x + i)) ∧ (∀ i, i < n → g' (st' a + i) = if i < ln a then g (st a + i) else 0) ∧ ∀ x, x ∉ cs → af' x = af x
theorem sf_SL_stay {LP cs : List Nat} {oc en a n : Nat} {fs la : Option Nat} {g g2 : Nat → Int32} {st ln : Nat → Nat} {bf af : Nat → Option Nat} (hM : sf_MI LP cs oc en fs la g st ln bf af) (ha : a ∈ cs) (hP : sf_P n ≤ sf_P (ln a)) (hn : n ≤ 16384) (h : ∀ j, g2 j = if st a + ln a ≤ j ∧ j < st a + n then nI 0 else g j) :
    sf_SL LP cs a n oc g st ln af (cs, oc + sf_P n - sf_P (ln a), en, fs, la, g2, st, va_up ln a n, bf, af) := by
  have q3 := sf_P_ge n
  refine ⟨cs, _, en, fs, la, g2, st, bf, af, rfl, rfl, fun _ => Iff.rfl, rfl, sf_MI_len hM ha hP hn (sf_fit_if h hM.2.2.2.2.2.2.2.2.2), ?_, ?_, fun _ _ => rfl⟩
  · intro x hx hne i hi
    have q1 := sf_lay_two hM.2.2.2.2.2.1 hx ha hne
    have q2 := sf_P_ge (ln x)
    rw [h, if_neg (by omega)]
  · intro i hi
    rw [h]
    by_cases q : i < ln a
    · rw [if_neg (by omega), if_pos q]
    · rw [if_pos (by omega), if_neg q]
      rfl
theorem sf_SL_move {LP l r : List Nat} {oc en a n b : Nat} {fs la : Option Nat} {g g1 g2 : Nat → Int32} {st st1 ln : Nat → Nat} {bf af : Nat → Option Nat} (hM : sf_MI LP (l ++ a :: r) oc en fs la g st ln bf af) (hn : n ≤ 16384) (hb : b + sf_P n ≤ 400000) (hPn : sf_P (ln a) < sf_P n) (hsa : st1 a = b) (hl : sf_lay st1 ln 0 (l ++ r) b) (hc : ∀ x, x ∈ l ++ a :: r → ∀ i, i < ln x → g1 (st1 x + i) = g (st x + i)) (hF : sb_Fit g1) (h : ∀ j, g2 j = if b + ln a ≤ j ∧ j < b + n then nI 0 else g1 j) :
    sf_SL LP (l ++ a :: r) a n oc g st ln af (l ++ r ++ [a], oc + sf_P n - sf_P (ln a), b + sf_P n, sf_pk (sf_pk (af a) (bf a) la) (some a) (sf_pk (bf a) (af a) fs), some a, g2, st1, va_up ln a n, va_up (sf_unA bf (af a) (bf a)) a (sf_pk (af a) (bf a) la), sf_apA (sf_unA af (bf a) (af a)) (sf_pk (af a) (bf a) la) a) := by
  have hocP := (sf_MI_st hM (a := a) (by simp)).2.2.2.2
  obtain ⟨n1, n2, n3, n4⟩ := sf_nd_mid hM.1
  obtain ⟨e1, e2, hU⟩ := sf_MI_un hM
  have hac : a ∉ l ++ r := fun q => (List.mem_append.mp q).elim n1 n2
  have hA := sf_MI_app (g2 := g2) hU hac (hM.2.1 a (by simp)) hn hl hb (sf_fit_if h hF)
  have est : va_up st1 a b = st1 := by
    funext x
    by_cases q : x = a
    · rw [q, va_up_self, hsa]
    · rw [va_up_ne _ _ q]
  rw [est, show oc - sf_P (ln a) + sf_P n = oc + sf_P n - sf_P (ln a) by omega] at hA
  refine ⟨_, _, _, _, _, g2, st1, _, _, rfl, rfl, ?_, ?_, hA, ?_, ?_, ?_⟩
  · intro x
    simp only [List.mem_append, List.mem_cons, List.not_mem_nil, or_false]
    constructor
    · rintro ((q | q) | q)
      · exact Or.inl q
      · exact Or.inr (Or.inr q)
      · exact Or.inr (Or.inl q)
    · rintro (q | q | q)
      · exact Or.inl (Or.inl q)
      · exact Or.inr q
      · exact Or.inl (Or.inr q)
  · simp only [List.length_append, List.length_cons, List.length_nil]
    omega
  · intro x hx hne i hi
    have hx2 : x ∈ l ++ r := by
      rcases List.mem_append.mp hx with q | q
      · exact List.mem_append_left _ q
      · rcases List.mem_cons.mp q with q | q
        · exact absurd q hne
        · exact List.mem_append_right _ q
    have q1 := (sf_lay_in hl hx2).2
    have q2 := sf_P_ge (ln x)
    rw [h, if_neg (by omega)]
    exact hc x hx i hi
  · intro i hi
    rw [hsa, h]
    by_cases q : i < ln a
    · rw [if_neg (by omega), if_pos q, ← hsa]
      exact hc a (by simp) i q
    · rw [if_pos (by omega), if_neg q]
      rfl
  · intro x hx
    have hxa : x ≠ a := fun q => hx (by rw [q]; simp)
    have hxl : ∀ z, sf_pk (af a) (bf a) la = some z → x ≠ z := by
      intro z hz q
      have hq : z ∈ l ++ r := by
        have e4 := hU.2.2.2.1
        rw [e4] at hz
        exact sf_last_mem hz
      apply hx
      rw [q]
      rcases List.mem_append.mp hq with q | q
      · exact List.mem_append_left _ q
      · exact List.mem_append_right _ (List.mem_cons_of_mem _ q)
    have hxb : bf a ≠ some x := by
      intro q
      rw [e1] at q
      exact hx (List.mem_append_left _ (sf_last_mem q))
    have e5 : sf_unA af (bf a) (af a) x = af x := sf_unA_ne hxb
    cases hz : sf_pk (af a) (bf a) la with
    | none => show va_up _ a none x = _; rw [va_up_ne _ _ hxa]; exact e5
    | some z => show va_up (va_up _ a none) z (some a) x = _; rw [va_up_ne _ _ (hxl z hz), va_up_ne _ _ hxa]; exact e5
end
section
/-! leaves of the shelf: static methods, reads -/
set_option maxHeartbeats 4000000 in
set_option maxRecDepth 100000 in
/-- placesFor(n): the places of n bytes -/
theorem c_placesFor (l : Launch) (n : Nat) (hn : n ≤ 16384) : Met l yX2_placesFor wsX2_placesFor ({ frames := 0, cells := 0, slots := 0, locals := 0 } : Room) (sf_PreT [.int (nI n)]) (vp_Si (fun r => r = nI (sf_P n))) 0 0 (fun _ => False) := by
  refine Met.ofW (cc := cX2_placesFor) (maxL := 1) (ret := (some .int)) (by decide) rfl ?_
  intro p e s m args below meth c s₁ B hml hv
  obtain ⟨rfl, -⟩ := hv
  have hx := B.exec
  have hb := B.bytes
  have hr := B.returns
  have hts := atoms_spec (ws := wsX2_placesFor) B.pre
  have hown : s.vm.findClass RX2 = some m.cls := findClass_of_methodNamed B.named
  have hlocks := B.notSynchronized
  have hl := lv_entry ([.int (nI n)]) (n := 1) (Nat.le_of_ble_eq_true rfl)
  rw [lg_entry_eq]
  generalize (lg_sl ([.int (nI n)]) ++ List.replicate (1 - (lg_sl ([.int (nI n)])).length) Slot.unset).toArray = ls at hl ⊢
  have hl : lv_has ls 1 [(0, .int (nI n))] := hl
  refine lv_iload_n hx hb dX2_placesFor_0 rfl (lv_at hl 0 rfl) ?_
  refine lv_bipush (v := nI 8) hx hb dX2_placesFor_1 (by decide) ?_
  refine sf_iadd hx hb dX2_placesFor_3 ?_
  refine lv_iconst (v := nI 1) hx hb dX2_placesFor_4 (by decide) ?_
  refine sf_isub hx hb (by omega) dX2_placesFor_5 ?_
  refine lv_bipush (v := nI 8) hx hb dX2_placesFor_6 (by decide) ?_
  refine sf_idiv hx hb (by omega) (by omega) (by omega) dX2_placesFor_8 ?_
  refine lv_bipush (v := nI 8) hx hb dX2_placesFor_9 (by decide) ?_
  refine sf_imul hx hb dX2_placesFor_11 ?_
  exact W.iret (v := nI ((n + 8 - 1) / 8 * 8)) hx hb hr (fun t ht hW => ⟨_, rfl, rfl, ht⟩) sf_noloc dX2_placesFor_12
set_option maxHeartbeats 4000000 in
set_option maxRecDepth 100000 in
/-- isLength(n) -/
theorem c_isLength (l : Launch) (n : Int32) : Met l yX2_isLength wsX2_isLength ({ frames := 0, cells := 0, slots := 0, locals := 0 } : Room) (sf_PreT [.int n]) (vp_Si (fun r => (r = nI 1 ∧ ∃ k : Nat, k ≤ 16384 ∧ n = nI k) ∨ (r = nI 0 ∧ ∀ k : Nat, k ≤ 16384 → n ≠ nI k))) 0 0 (fun _ => False) := by
  refine Met.ofW (cc := cX2_isLength) (maxL := 1) (ret := (some .boolean)) (by decide) rfl ?_
  intro p e s m args below meth c s₁ B hml hv
  obtain ⟨rfl, -⟩ := hv
  have hx := B.exec
  have hb := B.bytes
  have hr := B.returns
  have hts := atoms_spec (ws := wsX2_isLength) B.pre
  have hown : s.vm.findClass RX2 = some m.cls := findClass_of_methodNamed B.named
  have hlocks := B.notSynchronized
  have hl := lv_entry ([.int n]) (n := 1) (Nat.le_of_ble_eq_true rfl)
  rw [lg_entry_eq]
  generalize (lg_sl ([.int n]) ++ List.replicate (1 - (lg_sl ([.int n])).length) Slot.unset).toArray = ls at hl ⊢
  have hl : lv_has ls 1 [(0, .int n)] := hl
  refine lv_iload_n hx hb dX2_isLength_0 rfl (lv_at hl 0 rfl) ?_
  refine lv_if_lt (tgt := 15) hx hb dX2_isLength_1 (by decide) (fun c_1 => ?_) (fun c_1 => ?_)
  · have hno : ∀ k : Nat, k ≤ 16384 → n ≠ nI k := fun k hk q => nI_pos (n := k) (by omega) (by rw [← q]; exact c_1)
    refine lv_iconst (v := nI 0) hx hb dX2_isLength_15 (by decide) ?_
    exact W.zret (v := nI 0) hx hb hr (by decide) (fun t ht hW => ⟨_, rfl, Or.inr ⟨rfl, hno⟩, ht⟩) sf_noloc dX2_isLength_16
  · refine lv_iload_n hx hb dX2_isLength_4 rfl (lv_at hl 0 rfl) ?_
    refine lv_sipush (v := nI 16384) hx hb dX2_isLength_5 (by decide) ?_
    refine lv_icmp_gt (tgt := 15) hx hb dX2_isLength_8 (by decide) (fun c_8 => ?_) (fun c_8 => ?_)
    · have hno : ∀ k : Nat, k ≤ 16384 → n ≠ nI k := fun k hk q => Nat.not_lt.mpr hk ((nI_ltI (by decide) (by omega)).mp (by rw [← q]; exact c_8))
      refine lv_iconst (v := nI 0) hx hb dX2_isLength_15 (by decide) ?_
      exact W.zret (v := nI 0) hx hb hr (by decide) (fun t ht hW => ⟨_, rfl, Or.inr ⟨rfl, hno⟩, ht⟩) sf_noloc dX2_isLength_16
    · refine lv_iconst (v := nI 1) hx hb dX2_isLength_11 (by decide) ?_
      refine lv_goto (tgt := 16) hx hb dX2_isLength_12 (by decide) ?_
      exact W.zret (v := nI 1) hx hb hr (by decide) (fun t ht hW => ⟨_, rfl, Or.inl ⟨rfl, (nI_of2 (M := nI 16384) (n := 16384) (by decide) c_1 (Int32.not_lt.mp c_8))⟩, ht⟩) sf_noloc dX2_isLength_16
set_option maxHeartbeats 4000000 in
set_option maxRecDepth 100000 in
/-- order(x, y) -/
theorem c_order (l : Launch) (x y : Nat) (hx0 : x < 2 ^ 31) (hy0 : y < 2 ^ 31) : Met l yX2_order wsX2_order ({ frames := 0, cells := 0, slots := 0, locals := 0 } : Room) (sf_PreT [.int (nI x), .int (nI y)]) (vp_Si (fun r => r = if x = y then 0 else if x < y then -1 else 1)) 0 0 (fun _ => False) := by
  refine Met.ofW (cc := cX2_order) (maxL := 2) (ret := (some .int)) (by decide) rfl ?_
  intro p e s m args below meth c s₁ B hml hv
  obtain ⟨rfl, -⟩ := hv
  have hx := B.exec
  have hb := B.bytes
  have hr := B.returns
  have hts := atoms_spec (ws := wsX2_order) B.pre
  have hown : s.vm.findClass RX2 = some m.cls := findClass_of_methodNamed B.named
  have hlocks := B.notSynchronized
  have hl := lv_entry ([.int (nI x), .int (nI y)]) (n := 2) (Nat.le_of_ble_eq_true rfl)
  rw [lg_entry_eq]
  generalize (lg_sl ([.int (nI x), .int (nI y)]) ++ List.replicate (2 - (lg_sl ([.int (nI x), .int (nI y)])).length) Slot.unset).toArray = ls at hl ⊢
  have hl : lv_has ls 2 [(0, .int (nI x)), (1, .int (nI y))] := hl
  refine lv_iload_n hx hb dX2_order_0 rfl (lv_at hl 0 rfl) ?_
  refine lv_iload_n hx hb dX2_order_1 rfl (lv_at hl 1 rfl) ?_
  refine sf_icmp_ne (tgt := 7) hx hb (by assumption) (by assumption) dX2_order_2 (by decide) (fun c_2 => ?_) (fun c_2 => ?_)
  · refine lv_iload_n hx hb dX2_order_7 rfl (lv_at hl 0 rfl) ?_
    refine lv_iload_n hx hb dX2_order_8 rfl (lv_at hl 1 rfl) ?_
    refine sf_icmp_ge (tgt := 16) hx hb (by assumption) (by assumption) dX2_order_9 (by decide) (fun c_9 => ?_) (fun c_9 => ?_)
    · refine lv_iconst (v := nI 1) hx hb dX2_order_16 (by decide) ?_
      exact W.iret (v := nI 1) hx hb hr (fun t ht hW => ⟨_, rfl, by rw [if_neg c_2, if_neg (Nat.not_lt.mpr c_9)]; rfl, ht⟩) sf_noloc dX2_order_17
    · refine lv_iconst (v := -1) hx hb dX2_order_12 (by decide) ?_
      refine lv_goto (tgt := 17) hx hb dX2_order_13 (by decide) ?_
      exact W.iret (v := -1) hx hb hr (fun t ht hW => ⟨_, rfl, by rw [if_neg c_2, if_pos c_9], ht⟩) sf_noloc dX2_order_17
  · refine lv_iconst (v := nI 0) hx hb dX2_order_5 (by decide) ?_
    exact W.iret (v := nI 0) hx hb hr (fun t ht hW => ⟨_, rfl, by rw [if_pos c_2]; rfl, ht⟩) sf_noloc dX2_order_6
set_option maxHeartbeats 4000000 in
set_option maxRecDepth 100000 in
/-- hasByte -/
theorem c_hasByte (l : Launch) (dC : Nat → ClassId) (dI : Nat → Nat → Nat) (a0 a1 a2 a3 : Nat) (cB cT : ClassId) (LP : List Nat) (gb : Option Nat) (md ct : Nat) (tb : Nat → Option Nat) (nm tk : Nat → Nat) (oc en : Nat) (fs la : Option Nat) (g : Nat → Int32) (st ln : Nat → Nat) (bf af : Nat → Option Nat) (sz : Nat) (a : Nat) (ha : a ∈ LP) (hln : ln a ≤ 16384) (i : Int32) : Met l yX2_hasByte wsX2_hasByte ({ frames := 0, cells := 0, slots := 0, locals := 0 } : Room) (sf_Pre (dC, dI) vwCl [(cB, .byte), (cT, .object "ByteShelf$Row")] [.ref a, .int i] (sf_w a0 a1 a2 a3 cB cT LP gb md ct tb nm tk oc en fs la g st ln bf af) sz) (vp_Si (fun r => (r = nI 1 ∧ ∃ k : Nat, k < ln a ∧ i = nI k) ∨ (r = nI 0 ∧ ∀ k : Nat, k < ln a → i ≠ nI k))) 0 0 (fun _ => False) := by
  refine Met.ofW (cc := cX2_hasByte) (maxL := 2) (ret := (some .boolean)) (by decide) rfl ?_
  intro p e s m args below meth c s₁ B hml hv
  obtain ⟨rfl, hsz, hP, hK, hD0, hN⟩ := hv
  have hx := B.exec
  have hb := B.bytes
  have hr := B.returns
  have hts := atoms_spec (ws := wsX2_hasByte) B.pre
  have hown : s.vm.findClass RX2 = some m.cls := findClass_of_methodNamed B.named
  have hlocks := B.notSynchronized
  subst hsz
  have hD := hD0.self (sz := s.heap.size)
  generalize hAe : va_A (sf_w a0 a1 a2 a3 cB cT LP gb md ct tb nm tk oc en fs la g st ln bf af) s.heap.size = A at hD ⊢
  have hA : ∀ q : Nat, s.heap.size ≤ q → A q := fun q h => by rw [← hAe]; exact Or.inr h
  have hS : va_S A s.heap s.heap [] := va_S.rf
  have hl := lv_entry ([.ref a, .int i]) (n := 2) (Nat.le_of_ble_eq_true rfl)
  rw [lg_entry_eq]
  generalize (lg_sl ([.ref a, .int i]) ++ List.replicate (2 - (lg_sl ([.ref a, .int i])).length) Slot.unset).toArray = ls at hl ⊢
  have hl : lv_has ls 2 [(0, .ref a), (1, .int i)] := hl
  refine lv_iload_n hx hb dX2_hasByte_0 rfl (lv_at hl 1 rfl) ?_
  refine lv_if_lt (tgt := 16) hx hb dX2_hasByte_1 (by decide) (fun c_1 => ?_) (fun c_1 => ?_)
  · have hno : ∀ k : Nat, k < ln a → i ≠ nI k := fun k hk q => nI_pos (n := k) (by omega) (by rw [← q]; exact c_1)
    refine lv_iconst (v := nI 0) hx hb dX2_hasByte_16 (by decide) ?_
    exact W.zret (v := nI 0) hx hb hr (by decide) (fun t ht hW => ⟨_, rfl, Or.inr ⟨rfl, hno⟩, ht⟩) sf_noloc dX2_hasByte_17
  · refine lv_iload_n hx hb dX2_hasByte_4 rfl (lv_at hl 1 rfl) ?_
    refine lv_aload_n hx hb dX2_hasByte_5 rfl (lv_at hl 0 rfl) ?_
    refine sf_rget (D := (dC, dI)) (ci := 1) (v := .int (nI (ln a))) (C := RX1) (T := TX1) (N := 6) hx hb hts sf_inX1 hown hK hP ha rfl rfl 3 (by decide) (hts _ (sf_mem fl_X2_88 rfl)) (fun _ h9 => h9) rfl dX2_hasByte_6 ?_
    refine lv_icmp_ge (tgt := 16) hx hb dX2_hasByte_9 (by decide) (fun c_9 => ?_) (fun c_9 => ?_)
    · have hno : ∀ k : Nat, k < ln a → i ≠ nI k := fun k hk q => Nat.not_le.mpr hk ((nI_leI (by omega) (by omega)).mp (by rw [← q]; exact c_9))
      refine lv_iconst (v := nI 0) hx hb dX2_hasByte_16 (by decide) ?_
      exact W.zret (v := nI 0) hx hb hr (by decide) (fun t ht hW => ⟨_, rfl, Or.inr ⟨rfl, hno⟩, ht⟩) sf_noloc dX2_hasByte_17
    · obtain ⟨k, hk0, rfl⟩ := nI_of c_1
      have hk : k < ln a := Nat.not_le.mp fun q => c_9 (nI_le q (by omega))
      refine lv_iconst (v := nI 1) hx hb dX2_hasByte_12 (by decide) ?_
      refine lv_goto (tgt := 17) hx hb dX2_hasByte_13 (by decide) ?_
      exact W.zret (v := nI 1) hx hb hr (by decide) (fun t ht hW => ⟨_, rfl, Or.inl ⟨rfl, k, hk, rfl⟩, ht⟩) sf_noloc dX2_hasByte_17
theorem sf_hb {k j n : Nat} (hk : k < 2 ^ 31) (hj : j < 2 ^ 31) (hn : n ≤ 16384) (h : ¬ nI n - nI j < nI k) : k + j ≤ n := by
  rw [Int32.lt_iff_toInt_lt] at h
  have e : (nI n - nI j).toInt = (n : Int) - j := by
    rw [Int32.toInt_sub, nI_toInt (by omega), nI_toInt hj]
    exact Int.bmod_eq_of_le (by omega) (by omega)
  rw [e, nI_toInt hk] at h
  omega
set_option maxHeartbeats 4000000 in
set_option maxRecDepth 100000 in
/-- hasBytes -/
theorem c_hasBytes (l : Launch) (dC : Nat → ClassId) (dI : Nat → Nat → Nat) (a0 a1 a2 a3 : Nat) (cB cT : ClassId) (LP : List Nat) (gb : Option Nat) (md ct : Nat) (tb : Nat → Option Nat) (nm tk : Nat → Nat) (oc en : Nat) (fs la : Option Nat) (g : Nat → Int32) (st ln : Nat → Nat) (bf af : Nat → Option Nat) (sz : Nat) (a : Nat) (ha : a ∈ LP) (hln : ln a ≤ 16384) (i n : Int32) : Met l yX2_hasBytes wsX2_hasBytes ({ frames := 0, cells := 0, slots := 0, locals := 0 } : Room) (sf_Pre (dC, dI) vwCl [(cB, .byte), (cT, .object "ByteShelf$Row")] [.ref a, .int i, .int n] (sf_w a0 a1 a2 a3 cB cT LP gb md ct tb nm tk oc en fs la g st ln bf af) sz) (vp_Si (fun r => (r = nI 1 ∧ ∃ k j : Nat, k + j ≤ ln a ∧ i = nI k ∧ n = nI j) ∨ (r = nI 0 ∧ ∀ k j : Nat, k + j ≤ ln a → i = nI k → n ≠ nI j))) 0 0 (fun _ => False) := by
  refine Met.ofW (cc := cX2_hasBytes) (maxL := 3) (ret := (some .boolean)) (by decide) rfl ?_
  intro p e s m args below meth c s₁ B hml hv
  obtain ⟨rfl, hsz, hP, hK, hD0, hN⟩ := hv
  have hx := B.exec
  have hb := B.bytes
  have hr := B.returns
  have hts := atoms_spec (ws := wsX2_hasBytes) B.pre
  have hown : s.vm.findClass RX2 = some m.cls := findClass_of_methodNamed B.named
  have hlocks := B.notSynchronized
  subst hsz
  have hD := hD0.self (sz := s.heap.size)
  generalize hAe : va_A (sf_w a0 a1 a2 a3 cB cT LP gb md ct tb nm tk oc en fs la g st ln bf af) s.heap.size = A at hD ⊢
  have hA : ∀ q : Nat, s.heap.size ≤ q → A q := fun q h => by rw [← hAe]; exact Or.inr h
  have hS : va_S A s.heap s.heap [] := va_S.rf
  have hl := lv_entry ([.ref a, .int i, .int n]) (n := 3) (Nat.le_of_ble_eq_true rfl)
  rw [lg_entry_eq]
  generalize (lg_sl ([.ref a, .int i, .int n]) ++ List.replicate (3 - (lg_sl ([.ref a, .int i, .int n])).length) Slot.unset).toArray = ls at hl ⊢
  have hl : lv_has ls 3 [(0, .ref a), (1, .int i), (2, .int n)] := hl
  refine lv_iload_n hx hb dX2_hasBytes_0 rfl (lv_at hl 1 rfl) ?_
  refine lv_if_lt (tgt := 22) hx hb dX2_hasBytes_1 (by decide) (fun c_1 => ?_) (fun c_1 => ?_)
  · have hno : ∀ k j : Nat, k + j ≤ ln a → i = nI k → n ≠ nI j := fun k j hk q q2 => nI_pos (n := k) (by omega) (by rw [← q]; exact c_1)
    refine lv_iconst (v := nI 0) hx hb dX2_hasBytes_22 (by decide) ?_
    exact W.zret (v := nI 0) hx hb hr (by decide) (fun t ht hW => ⟨_, rfl, Or.inr ⟨rfl, hno⟩, ht⟩) sf_noloc dX2_hasBytes_23
  · refine lv_iload_n hx hb dX2_hasBytes_4 rfl (lv_at hl 2 rfl) ?_
    refine lv_if_lt (tgt := 22) hx hb dX2_hasBytes_5 (by decide) (fun c_5 => ?_) (fun c_5 => ?_)
    · have hno : ∀ k j : Nat, k + j ≤ ln a → i = nI k → n ≠ nI j := fun k j hk q q2 => nI_pos (n := j) (by omega) (by rw [← q2]; exact c_5)
      refine lv_iconst (v := nI 0) hx hb dX2_hasBytes_22 (by decide) ?_
      exact W.zret (v := nI 0) hx hb hr (by decide) (fun t ht hW => ⟨_, rfl, Or.inr ⟨rfl, hno⟩, ht⟩) sf_noloc dX2_hasBytes_23
    · refine lv_iload_n hx hb dX2_hasBytes_8 rfl (lv_at hl 1 rfl) ?_
      refine lv_aload_n hx hb dX2_hasBytes_9 rfl (lv_at hl 0 rfl) ?_
      refine sf_rget (D := (dC, dI)) (ci := 1) (v := .int (nI (ln a))) (C := RX1) (T := TX1) (N := 6) hx hb hts sf_inX1 hown hK hP ha rfl rfl 3 (by decide) (hts _ (sf_mem fl_X2_88 rfl)) (fun _ h9 => h9) rfl dX2_hasBytes_10 ?_
      refine lv_iload_n hx hb dX2_hasBytes_13 rfl (lv_at hl 2 rfl) ?_
      refine lv_isub hx hb dX2_hasBytes_14 ?_
      refine lv_icmp_gt (tgt := 22) hx hb dX2_hasBytes_15 (by decide) (fun c_15 => ?_) (fun c_15 => ?_)
      · have hno : ∀ k j : Nat, k + j ≤ ln a → i = nI k → n ≠ nI j := fun k j hk q q2 => by
          rw [q, q2, pk_sub (by omega)] at c_15
          exact Nat.not_lt.mpr (by omega) ((nI_ltI (by omega) (by omega)).mp c_15)
        refine lv_iconst (v := nI 0) hx hb dX2_hasBytes_22 (by decide) ?_
        exact W.zret (v := nI 0) hx hb hr (by decide) (fun t ht hW => ⟨_, rfl, Or.inr ⟨rfl, hno⟩, ht⟩) sf_noloc dX2_hasBytes_23
      · obtain ⟨k, hk0, rfl⟩ := nI_of c_1
        obtain ⟨j, hj0, rfl⟩ := nI_of c_5
        have hk : k + j ≤ ln a := sf_hb hk0 hj0 hln c_15
        refine lv_iconst (v := nI 1) hx hb dX2_hasBytes_18 (by decide) ?_
        refine lv_goto (tgt := 23) hx hb dX2_hasBytes_19 (by decide) ?_
        exact W.zret (v := nI 1) hx hb hr (by decide) (fun t ht hW => ⟨_, rfl, Or.inl ⟨rfl, k, j, hk, rfl, rfl⟩, ht⟩) sf_noloc dX2_hasBytes_23
set_option maxHeartbeats 4000000 in
set_option maxRecDepth 100000 in
/-- find(row): the row of that number, if it is taken -/
theorem c_find (l : Launch) (dC : Nat → ClassId) (dI : Nat → Nat → Nat) (a0 a1 a2 a3 : Nat) (cB cT : ClassId) (LP : List Nat) (gb : Option Nat) (md ct : Nat) (tb : Nat → Option Nat) (nm tk : Nat → Nat) (oc en : Nat) (fs la : Option Nat) (g : Nat → Int32) (st ln : Nat → Nat) (bf af : Nat → Option Nat) (sz : Nat) (row : Int32) (hmd : md ≤ 20000) (htb : ∀ k, k < md → ∃ a, a ∈ LP ∧ tb k = some a) (htk : ∀ a, a ∈ LP → tk a ≤ 1) : Met l yX2_find wsX2_find ({ frames := 0, cells := 0, slots := 0, locals := 0 } : Room) (sf_Pre (dC, dI) vwCl [(cB, .byte), (cT, .object "ByteShelf$Row")] [.ref a0, .int row] (sf_w a0 a1 a2 a3 cB cT LP gb md ct tb nm tk oc en fs la g st ln bf af) sz) (va_Sq (fun r => (∃ k a : Nat, k < md ∧ row = nI k ∧ tb k = some a ∧ a ∈ LP ∧ tk a = 1 ∧ r = some a) ∨ (r = none ∧ ∀ k a : Nat, k < md → row = nI k → tb k = some a → tk a = 0))) 0 0 (fun _ => False) := by
  refine Met.ofW (cc := cX2_find) (maxL := 3) (ret := (some (.object "ByteShelf$Row"))) (by decide) rfl ?_
  intro p e s m args below meth c s₁ B hml hv
  obtain ⟨rfl, hsz, hP, hK, hD0, hN⟩ := hv
  have hx := B.exec
  have hb := B.bytes
  have hr := B.returns
  have hts := atoms_spec (ws := wsX2_find) B.pre
  have hown : s.vm.findClass RX2 = some m.cls := findClass_of_methodNamed B.named
  have hlocks := B.notSynchronized
  subst hsz
  have hD := hD0.self (sz := s.heap.size)
  generalize hAe : va_A (sf_w a0 a1 a2 a3 cB cT LP gb md ct tb nm tk oc en fs la g st ln bf af) s.heap.size = A at hD ⊢
  have hA : ∀ q : Nat, s.heap.size ≤ q → A q := fun q h => by rw [← hAe]; exact Or.inr h
  have hS : va_S A s.heap s.heap [] := va_S.rf
  have hl := lv_entry ([.ref a0, .int row]) (n := 3) (Nat.le_of_ble_eq_true rfl)
  rw [lg_entry_eq]
  generalize (lg_sl ([.ref a0, .int row]) ++ List.replicate (3 - (lg_sl ([.ref a0, .int row])).length) Slot.unset).toArray = ls at hl ⊢
  have hl : lv_has ls 3 [(0, .ref a0), (1, .int row)] := hl
  refine lv_iload_n hx hb dX2_find_0 rfl (lv_at hl 1 rfl) ?_
  refine lv_if_lt (tgt := 12) hx hb dX2_find_1 (by decide) (fun c_1 => ?_) (fun c_1 => ?_)
  · have hno : ∀ k a : Nat, k < md → row = nI k → tb k = some a → tk a = 0 := fun k a hk q _ => absurd (by rw [q] at c_1; exact c_1) (nI_pos (n := k) (by omega))
    refine lv_null hx hb dX2_find_12 ?_
    exact W.aret (v := va_rf none) hx hb hr (Or.inl ⟨_, rfl⟩) (va_rf_or _) (fun t ht hW => ⟨_, rfl, Or.inr ⟨rfl, hno⟩, ht⟩) sf_noloc dX2_find_13
  · obtain ⟨k, hk0, rfl⟩ := nI_of c_1
    refine lv_iload_n hx hb dX2_find_4 rfl (lv_at hl 1 rfl) ?_
    refine lv_aload_n hx hb dX2_find_5 rfl (lv_at hl 0 rfl) ?_
    refine va_get (D := (dC, dI)) (ci := 2) (v := .int (nI md)) (C := RX2) (T := TX2) (N := 5) hx hb hts sf_inX2 hown hK hP 0 rfl rfl 3 (by decide) (hts _ (sf_mem fl_X2_26 rfl)) (fun _ h9 => h9) rfl dX2_find_6 ?_
    refine sf_icmp_lt (tgt := 14) hx hb (by omega) (by omega) dX2_find_9 (by decide) (fun c_9 => ?_) (fun c_9 => ?_)
    · obtain ⟨a, ha, hta⟩ := htb k c_9
      have htka := htk a ha
      refine lv_aload_n hx hb dX2_find_14 rfl (lv_at hl 0 rfl) ?_
      refine va_get (D := (dC, dI)) (ci := 2) (v := .ref a3) (C := RX2) (T := TX2) (N := 5) hx hb hts sf_inX2 hown hK hP 0 rfl rfl 1 (by decide) (hts _ (sf_mem fl_X2_18 rfl)) (fun _ h9 => h9) rfl dX2_find_15 ?_
      refine lv_iload_n hx hb dX2_find_18 rfl (lv_at hl 1 rfl) ?_
      refine sf_aald hx hb hK hP 3 1 rfl rfl (by omega) (by decide) dX2_find_19 ?_
      rw [hta]
      refine lv_astore_n (lv' := [(2, .ref a), (0, .ref a0), (1, .int (nI k))]) hx hb dX2_find_20 rfl hl (by decide) rfl (fun ls hl => ?_)
      refine lv_aload_n hx hb dX2_find_21 rfl (lv_at hl 0 rfl) ?_
      refine lv_ifnull hx hb dX2_find_22 ?_
      refine lv_aload_n hx hb dX2_find_25 rfl (lv_at hl 0 rfl) ?_
      refine sf_rget (D := (dC, dI)) (ci := 1) (v := .int (nI (tk a))) (C := RX1) (T := TX1) (N := 6) hx hb hts sf_inX1 hown hK hP ha rfl rfl 1 (by decide) (hts _ (sf_mem fl_X2_52 rfl)) (fun _ h9 => h9) rfl dX2_find_26 ?_
      refine sf_if_eq (tgt := 36) hx hb (by omega) dX2_find_29 (by decide) (fun c_29 => ?_) (fun c_29 => ?_)
      · have hno : ∀ k2 a2 : Nat, k2 < md → nI k = nI k2 → tb k2 = some a2 → tk a2 = 0 := fun k2 a2 hk q q2 => by
          have e := (nI_eq hk0 (by omega)).mp q
          subst e
          rw [hta] at q2
          cases q2
          exact c_29
        refine lv_null hx hb dX2_find_36 ?_
        exact W.aret (v := va_rf none) hx hb hr (Or.inl ⟨_, rfl⟩) (va_rf_or _) (fun t ht hW => ⟨_, rfl, Or.inr ⟨rfl, hno⟩, ht⟩) sf_noloc dX2_find_37
      · refine lv_aload_n hx hb dX2_find_32 rfl (lv_at hl 0 rfl) ?_
        refine lv_goto (tgt := 37) hx hb dX2_find_33 (by decide) ?_
        exact W.aret (v := va_rf (some a)) hx hb hr (Or.inl ⟨_, rfl⟩) (va_rf_or _) (fun t ht hW => ⟨_, rfl, Or.inl ⟨k, a, c_9, rfl, hta, ha, by omega, rfl⟩, ht⟩) sf_noloc dX2_find_37
    · have hno : ∀ k2 a : Nat, k2 < md → nI k = nI k2 → tb k2 = some a → tk a = 0 := fun k2 a hk q _ => by
        have := (nI_eq hk0 (by omega)).mp q
        omega
      refine lv_null hx hb dX2_find_12 ?_
      exact W.aret (v := va_rf none) hx hb hr (Or.inl ⟨_, rfl⟩) (va_rf_or _) (fun t ht hW => ⟨_, rfl, Or.inr ⟨rfl, hno⟩, ht⟩) sf_noloc dX2_find_13
set_option maxHeartbeats 4000000 in
set_option maxRecDepth 100000 in
/-- hasRoomFor(w) -/
theorem c_hasRoomFor (l : Launch) (dC : Nat → ClassId) (dI : Nat → Nat → Nat) (a0 a1 a2 a3 : Nat) (cB cT : ClassId) (LP : List Nat) (gb : Option Nat) (md ct : Nat) (tb : Nat → Option Nat) (nm tk : Nat → Nat) (oc en : Nat) (fs la : Option Nat) (g : Nat → Int32) (st ln : Nat → Nat) (bf af : Nat → Option Nat) (sz : Nat) (w : Nat) (hoc : oc ≤ 400000) (hw : w ≤ 400000) : Met l yX0_hasRoomFor wsX0_hasRoomFor ({ frames := 0, cells := 0, slots := 0, locals := 0 } : Room) (sf_Pre (dC, dI) vwCl [(cB, .byte), (cT, .object "ByteShelf$Row")] [.ref a1, .int (nI w)] (sf_w a0 a1 a2 a3 cB cT LP gb md ct tb nm tk oc en fs la g st ln bf af) sz) (vp_Si (fun r => (r = nI 1 ∧ oc + w ≤ 400000) ∨ (r = nI 0 ∧ 400000 < oc + w))) 0 0 (fun _ => False) := by
  refine Met.ofW (cc := cX0_hasRoomFor) (maxL := 2) (ret := (some .boolean)) (by decide) rfl ?_
  intro p e s m args below meth c s₁ B hml hv
  obtain ⟨rfl, hsz, hP, hK, hD0, hN⟩ := hv
  have hx := B.exec
  have hb := B.bytes
  have hr := B.returns
  have hts := atoms_spec (ws := wsX0_hasRoomFor) B.pre
  have hown : s.vm.findClass RX0 = some m.cls := findClass_of_methodNamed B.named
  have hlocks := B.notSynchronized
  subst hsz
  have hD := hD0.self (sz := s.heap.size)
  generalize hAe : va_A (sf_w a0 a1 a2 a3 cB cT LP gb md ct tb nm tk oc en fs la g st ln bf af) s.heap.size = A at hD ⊢
  have hA : ∀ q : Nat, s.heap.size ≤ q → A q := fun q h => by rw [← hAe]; exact Or.inr h
  have hS : va_S A s.heap s.heap [] := va_S.rf
  have hl := lv_entry ([.ref a1, .int (nI w)]) (n := 2) (Nat.le_of_ble_eq_true rfl)
  rw [lg_entry_eq]
  generalize (lg_sl ([.ref a1, .int (nI w)]) ++ List.replicate (2 - (lg_sl ([.ref a1, .int (nI w)])).length) Slot.unset).toArray = ls at hl ⊢
  have hl : lv_has ls 2 [(0, .ref a1), (1, .int (nI w))] := hl
  refine lv_iload_n hx hb dX0_hasRoomFor_0 rfl (lv_at hl 1 rfl) ?_
  refine lv_ldc (v := nI 400000) hx hb hown (hts _ (sf_mem cn_X0_9 rfl)) dX0_hasRoomFor_1 ?_
  refine lv_aload_n hx hb dX0_hasRoomFor_3 rfl (lv_at hl 0 rfl) ?_
  refine va_get (D := (dC, dI)) (ci := 0) (v := .int (nI oc)) (C := RX0) (T := TX0) (N := 5) hx hb hts sf_inX0 hown hK hP 1 rfl rfl 1 (by decide) (hts _ (sf_mem fl_X0_16 rfl)) (fun _ h9 => h9) rfl dX0_hasRoomFor_4 ?_
  refine sf_isub hx hb (by omega) dX0_hasRoomFor_7 ?_
  refine sf_icmp_gt (tgt := 15) hx hb (by omega) (by omega) dX0_hasRoomFor_8 (by decide) (fun c_8 => ?_) (fun c_8 => ?_)
  · refine lv_iconst (v := nI 0) hx hb dX0_hasRoomFor_15 (by decide) ?_
    exact W.zret (v := nI 0) hx hb hr (by decide) (fun t ht hW => ⟨_, rfl, Or.inr ⟨rfl, by omega⟩, ht⟩) sf_noloc dX0_hasRoomFor_16
  · refine lv_iconst (v := nI 1) hx hb dX0_hasRoomFor_11 (by decide) ?_
    refine lv_goto (tgt := 16) hx hb dX0_hasRoomFor_12 (by decide) ?_
    exact W.zret (v := nI 1) hx hb hr (by decide) (fun t ht hW => ⟨_, rfl, Or.inl ⟨rfl, by omega⟩, ht⟩) sf_noloc dX0_hasRoomFor_16
end
section
/-! the memory's links; Arrays.fill -/
set_option maxHeartbeats 4000000 in
set_option maxRecDepth 100000 in
/-- append(row): to the end of the chain -/
theorem c_append (l : Launch) (dC : Nat → ClassId) (dI : Nat → Nat → Nat) (a0 a1 a2 a3 : Nat) (cB cT : ClassId) (LP : List Nat) (gb : Option Nat) (md ct : Nat) (tb : Nat → Option Nat) (nm tk : Nat → Nat) (oc en : Nat) (fs la : Option Nat) (g : Nat → Int32) (st ln : Nat → Nat) (bf af : Nat → Option Nat) (sz : Nat) (a : Nat) (ha : a ∈ LP) (hla : ∀ z, la = some z → z ∈ LP) : Met l yX0_append wsX0_append ({ frames := 0, cells := 0, slots := 0, locals := 0 } : Room) (sf_Pre (dC, dI) vwCl [(cB, .byte), (cT, .object "ByteShelf$Row")] [.ref a1, .ref a] (sf_w a0 a1 a2 a3 cB cT LP gb md ct tb nm tk oc en fs la g st ln bf af) sz) (va_Qv (fun _ => True) (sf_E (dC, dI) vwCl (va_A (sf_w a0 a1 a2 a3 cB cT LP gb md ct tb nm tk oc en fs la g st ln bf af) sz) (fun (u : Unit) => sf_w a0 a1 a2 a3 cB cT LP gb md ct tb nm tk oc en (sf_pk la (some a) fs) (some a) g st ln (va_up bf a la) (sf_apA af la a))) (va_A (sf_w a0 a1 a2 a3 cB cT LP gb md ct tb nm tk oc en fs la g st ln bf af) sz)) 0 0 (va_A (sf_w a0 a1 a2 a3 cB cT LP gb md ct tb nm tk oc en fs la g st ln bf af) sz) := by
  refine Met.ofW (cc := cX0_append) (maxL := 2) (ret := none) (by decide) rfl ?_
  intro p e s m args below meth c s₁ B hml hv
  obtain ⟨rfl, hsz, hP, hK, hD0, hN⟩ := hv
  have hx := B.exec
  have hb := B.bytes
  have hr := B.returns
  have hts := atoms_spec (ws := wsX0_append) B.pre
  have hown : s.vm.findClass RX0 = some m.cls := findClass_of_methodNamed B.named
  have hlocks := B.notSynchronized
  subst hsz
  have hD := hD0.self (sz := s.heap.size)
  generalize hAe : va_A (sf_w a0 a1 a2 a3 cB cT LP gb md ct tb nm tk oc en fs la g st ln bf af) s.heap.size = A at hD ⊢
  have hA : ∀ q : Nat, s.heap.size ≤ q → A q := fun q h => by rw [← hAe]; exact Or.inr h
  have hS : va_S A s.heap s.heap [] := va_S.rf
  have hl := lv_entry ([.ref a1, .ref a]) (n := 2) (Nat.le_of_ble_eq_true rfl)
  rw [lg_entry_eq]
  generalize (lg_sl ([.ref a1, .ref a]) ++ List.replicate (2 - (lg_sl ([.ref a1, .ref a])).length) Slot.unset).toArray = ls at hl ⊢
  have hl : lv_has ls 2 [(0, .ref a1), (1, .ref a)] := hl
  refine lv_aload_n hx hb dX0_append_0 rfl (lv_at hl 1 rfl) ?_
  refine lv_aload_n hx hb dX0_append_1 rfl (lv_at hl 0 rfl) ?_
  refine va_get (D := (dC, dI)) (ci := 0) (v := va_rf la) (C := RX0) (T := TX0) (N := 5) hx hb hts sf_inX0 hown hK hP 1 rfl rfl 4 (by decide) (hts _ (sf_mem fl_X0_27 rfl)) (fun _ h9 => h9) rfl dX0_append_2 ?_
  refine sf_rput (D := (dC, dI)) (ci := 1) (v := va_rf la) (ty := .object "ByteShelf$Row") (C := RX1) (T := TX1) (N := 6) hx hb hts sf_inX1 tyX1 tyX1_ok nmX1 hown hK hP hD hS ha rfl rfl 4 (by decide) (hts _ (sf_mem fl_X0_78 rfl)) (fun _ h9 => h9) rfl (by decide +kernel) (sf_nq _) (sf_fq _) (Nat.le_of_ble_eq_true rfl) (sf_rw_bf la) dX0_append_5 (fun H locs hP hD hS => ?_)
  have hP : va_P (dC, dI) vwCl (sf_w a0 a1 a2 a3 cB cT LP gb md ct tb nm tk oc en fs la g st ln (va_up bf a la) af) H := hP
  have hD : va_D A (sf_w a0 a1 a2 a3 cB cT LP gb md ct tb nm tk oc en fs la g st ln (va_up bf a la) af) := hD
  refine lv_aload_n hx hb dX0_append_8 rfl (lv_at hl 1 rfl) ?_
  refine lv_null hx hb dX0_append_9 ?_
  refine sf_rput (D := (dC, dI)) (ci := 1) (v := .null) (ty := .object "ByteShelf$Row") (C := RX1) (T := TX1) (N := 6) hx hb hts sf_inX1 tyX1 tyX1_ok nmX1 hown hK hP hD hS ha rfl rfl 5 (by decide) (hts _ (sf_mem fl_X0_75 rfl)) (fun _ h9 => h9) rfl (by decide +kernel) rfl rfl (Nat.le_of_ble_eq_true rfl) (sf_rw_af none) dX0_append_10 (fun H locs hP hD hS => ?_)
  have hP : va_P (dC, dI) vwCl (sf_w a0 a1 a2 a3 cB cT LP gb md ct tb nm tk oc en fs la g st ln (va_up bf a la) (va_up af a none)) H := hP
  have hD : va_D A (sf_w a0 a1 a2 a3 cB cT LP gb md ct tb nm tk oc en fs la g st ln (va_up bf a la) (va_up af a none)) := hD
  refine lv_aload_n hx hb dX0_append_13 rfl (lv_at hl 0 rfl) ?_
  refine va_get (D := (dC, dI)) (ci := 0) (v := va_rf la) (C := RX0) (T := TX0) (N := 5) hx hb hts sf_inX0 hown hK hP 1 rfl rfl 4 (by decide) (hts _ (sf_mem fl_X0_27 rfl)) (fun _ h9 => h9) rfl dX0_append_14 ?_
  refine sf_ifnonnull (tgt := 28) hx hb dX0_append_17 (by decide) (fun z_17 e_17 => ?_) (fun e_17 => ?_)
  · subst e_17
    have hl : lv_has ls 2 [(0, .ref a1), (1, .ref a)] := hl
    refine lv_aload_n hx hb dX0_append_28 rfl (lv_at hl 0 rfl) ?_
    refine va_get (D := (dC, dI)) (ci := 0) (v := .ref z_17) (C := RX0) (T := TX0) (N := 5) hx hb hts sf_inX0 hown hK hP 1 rfl rfl 4 (by decide) (hts _ (sf_mem fl_X0_27 rfl)) (fun _ h9 => h9) rfl dX0_append_29 ?_
    refine lv_aload_n hx hb dX0_append_32 rfl (lv_at hl 1 rfl) ?_
    refine sf_rput (D := (dC, dI)) (ci := 1) (v := .ref a) (ty := .object "ByteShelf$Row") (C := RX1) (T := TX1) (N := 6) hx hb hts sf_inX1 tyX1 tyX1_ok nmX1 hown hK hP hD hS (hla _ rfl) rfl rfl 5 (by decide) (hts _ (sf_mem fl_X0_75 rfl)) (fun _ h9 => h9) rfl (by decide +kernel) rfl rfl (Nat.le_of_ble_eq_true rfl) (sf_rw_af (some a)) dX0_append_33 (fun H locs hP hD hS => ?_)
    have hP : va_P (dC, dI) vwCl (sf_w a0 a1 a2 a3 cB cT LP gb md ct tb nm tk oc en fs (some z_17) g st ln (va_up bf a (some z_17)) (va_up (va_up af a none) z_17 (some a))) H := hP
    have hD : va_D A (sf_w a0 a1 a2 a3 cB cT LP gb md ct tb nm tk oc en fs (some z_17) g st ln (va_up bf a (some z_17)) (va_up (va_up af a none) z_17 (some a))) := hD
    refine lv_aload_n hx hb dX0_append_36 rfl (lv_at hl 0 rfl) ?_
    refine lv_aload_n hx hb dX0_append_37 rfl (lv_at hl 1 rfl) ?_
    refine va_put (D := (dC, dI)) (ci := 0) (v := .ref a) (ty := .object "ByteShelf$Row") (C := RX0) (T := TX0) (N := 5) hx hb hts sf_inX0 tyX0 tyX0_ok nmX0 hown hK hP hD hS 1 rfl rfl 4 (by decide) (hts _ (sf_mem fl_X0_27 rfl)) (fun _ h9 => h9) rfl (by decide +kernel) rfl rfl (Nat.le_of_ble_eq_true rfl) dX0_append_38 (fun H locs hP hD hS => ?_)
    have hP : va_P (dC, dI) vwCl (sf_w a0 a1 a2 a3 cB cT LP gb md ct tb nm tk oc en fs (some a) g st ln (va_up bf a (some z_17)) (va_up (va_up af a none) z_17 (some a))) H := hP
    have hD : va_D A (sf_w a0 a1 a2 a3 cB cT LP gb md ct tb nm tk oc en fs (some a) g st ln (va_up bf a (some z_17)) (va_up (va_up af a none) z_17 (some a))) := hD
    exact W.vret hx hb hr (fun t ht hW => ⟨⟨(), rfl, trivial, by rw [ht]; exact hP, hD⟩, hS.F ht⟩) hS.2.2 dX0_append_41
  · subst e_17
    have hl : lv_has ls 2 [(0, .ref a1), (1, .ref a)] := hl
    refine lv_aload_n hx hb dX0_append_20 rfl (lv_at hl 0 rfl) ?_
    refine lv_aload_n hx hb dX0_append_21 rfl (lv_at hl 1 rfl) ?_
    refine va_put (D := (dC, dI)) (ci := 0) (v := .ref a) (ty := .object "ByteShelf$Row") (C := RX0) (T := TX0) (N := 5) hx hb hts sf_inX0 tyX0 tyX0_ok nmX0 hown hK hP hD hS 1 rfl rfl 3 (by decide) (hts _ (sf_mem fl_X0_23 rfl)) (fun _ h9 => h9) rfl (by decide +kernel) rfl rfl (Nat.le_of_ble_eq_true rfl) dX0_append_22 (fun H locs hP hD hS => ?_)
    have hP : va_P (dC, dI) vwCl (sf_w a0 a1 a2 a3 cB cT LP gb md ct tb nm tk oc en (some a) none g st ln (va_up bf a none) (va_up af a none)) H := hP
    have hD : va_D A (sf_w a0 a1 a2 a3 cB cT LP gb md ct tb nm tk oc en (some a) none g st ln (va_up bf a none) (va_up af a none)) := hD
    refine lv_goto (tgt := 36) hx hb dX0_append_25 (by decide) ?_
    refine lv_aload_n hx hb dX0_append_36 rfl (lv_at hl 0 rfl) ?_
    refine lv_aload_n hx hb dX0_append_37 rfl (lv_at hl 1 rfl) ?_
    refine va_put (D := (dC, dI)) (ci := 0) (v := .ref a) (ty := .object "ByteShelf$Row") (C := RX0) (T := TX0) (N := 5) hx hb hts sf_inX0 tyX0 tyX0_ok nmX0 hown hK hP hD hS 1 rfl rfl 4 (by decide) (hts _ (sf_mem fl_X0_27 rfl)) (fun _ h9 => h9) rfl (by decide +kernel) rfl rfl (Nat.le_of_ble_eq_true rfl) dX0_append_38 (fun H locs hP hD hS => ?_)
    have hP : va_P (dC, dI) vwCl (sf_w a0 a1 a2 a3 cB cT LP gb md ct tb nm tk oc en (some a) (some a) g st ln (va_up bf a none) (va_up af a none)) H := hP
    have hD : va_D A (sf_w a0 a1 a2 a3 cB cT LP gb md ct tb nm tk oc en (some a) (some a) g st ln (va_up bf a none) (va_up af a none)) := hD
    exact W.vret hx hb hr (fun t ht hW => ⟨⟨(), rfl, trivial, by rw [ht]; exact hP, hD⟩, hS.F ht⟩) hS.2.2 dX0_append_41
set_option maxHeartbeats 4000000 in
set_option maxRecDepth 100000 in
/-- unlink(row): out of the chain -/
theorem c_unlink (l : Launch) (dC : Nat → ClassId) (dI : Nat → Nat → Nat) (a0 a1 a2 a3 : Nat) (cB cT : ClassId) (LP : List Nat) (gb : Option Nat) (md ct : Nat) (tb : Nat → Option Nat) (nm tk : Nat → Nat) (oc en : Nat) (fs la : Option Nat) (g : Nat → Int32) (st ln : Nat → Nat) (bf af : Nat → Option Nat) (sz : Nat) (a : Nat) (ha : a ∈ LP) (rb rn : Option Nat) (hrb : bf a = rb) (hrn : af a = rn) (hb1 : ∀ z, rb = some z → z ∈ LP) (hn1 : ∀ z, rn = some z → z ∈ LP) : Met l yX0_unlink wsX0_unlink ({ frames := 0, cells := 0, slots := 0, locals := 0 } : Room) (sf_Pre (dC, dI) vwCl [(cB, .byte), (cT, .object "ByteShelf$Row")] [.ref a1, .ref a] (sf_w a0 a1 a2 a3 cB cT LP gb md ct tb nm tk oc en fs la g st ln bf af) sz) (va_Qv (fun _ => True) (sf_E (dC, dI) vwCl (va_A (sf_w a0 a1 a2 a3 cB cT LP gb md ct tb nm tk oc en fs la g st ln bf af) sz) (fun (u : Unit) => sf_w a0 a1 a2 a3 cB cT LP gb md ct tb nm tk oc en (sf_pk rb rn fs) (sf_pk rn rb la) g st ln (sf_unA bf rn rb) (sf_unA af rb rn))) (va_A (sf_w a0 a1 a2 a3 cB cT LP gb md ct tb nm tk oc en fs la g st ln bf af) sz)) 0 0 (va_A (sf_w a0 a1 a2 a3 cB cT LP gb md ct tb nm tk oc en fs la g st ln bf af) sz) := by
  refine Met.ofW (cc := cX0_unlink) (maxL := 4) (ret := none) (by decide) rfl ?_
  intro p e s m args below meth c s₁ B hml hv
  obtain ⟨rfl, hsz, hP, hK, hD0, hN⟩ := hv
  have hx := B.exec
  have hb := B.bytes
  have hr := B.returns
  have hts := atoms_spec (ws := wsX0_unlink) B.pre
  have hown : s.vm.findClass RX0 = some m.cls := findClass_of_methodNamed B.named
  have hlocks := B.notSynchronized
  subst hsz
  have hD := hD0.self (sz := s.heap.size)
  generalize hAe : va_A (sf_w a0 a1 a2 a3 cB cT LP gb md ct tb nm tk oc en fs la g st ln bf af) s.heap.size = A at hD ⊢
  have hA : ∀ q : Nat, s.heap.size ≤ q → A q := fun q h => by rw [← hAe]; exact Or.inr h
  have hS : va_S A s.heap s.heap [] := va_S.rf
  have hl := lv_entry ([.ref a1, .ref a]) (n := 4) (Nat.le_of_ble_eq_true rfl)
  rw [lg_entry_eq]
  generalize (lg_sl ([.ref a1, .ref a]) ++ List.replicate (4 - (lg_sl ([.ref a1, .ref a])).length) Slot.unset).toArray = ls at hl ⊢
  have hl : lv_has ls 4 [(0, .ref a1), (1, .ref a)] := hl
  refine lv_aload_n hx hb dX0_unlink_0 rfl (lv_at hl 1 rfl) ?_
  refine sf_rget (D := (dC, dI)) (ci := 1) (v := va_rf rb) (C := RX1) (T := TX1) (N := 6) hx hb hts sf_inX1 hown hK hP ha rfl rfl 4 (by decide) (hts _ (sf_mem fl_X0_78 rfl)) (fun _ h9 => h9) (congrArg (fun z => some (va_rf z)) hrb) dX0_unlink_1 ?_
  refine sf_astore_n (lv' := [(2, va_rf rb), (0, .ref a1), (1, .ref a)]) hx hb dX0_unlink_4 rfl hl (by decide) rfl (fun ls hl => ?_)
  refine lv_aload_n hx hb dX0_unlink_5 rfl (lv_at hl 2 rfl) ?_
  refine sf_rget (D := (dC, dI)) (ci := 1) (v := va_rf rn) (C := RX1) (T := TX1) (N := 6) hx hb hts sf_inX1 hown hK hP ha rfl rfl 5 (by decide) (hts _ (sf_mem fl_X0_75 rfl)) (fun _ h9 => h9) (congrArg (fun z => some (va_rf z)) hrn) dX0_unlink_6 ?_
  refine sf_astore_n (lv' := [(3, va_rf rn), (2, va_rf rb), (0, .ref a1), (1, .ref a)]) hx hb dX0_unlink_9 rfl hl (by decide) (by cases rb <;> rfl) (fun ls hl => ?_)
  refine sf_aload_n hx hb dX0_unlink_10 rfl (lv_at hl 1 rfl) ?_
  refine sf_ifnonnull (tgt := 22) hx hb dX0_unlink_11 (by decide) (fun z_11 e_11 => ?_) (fun e_11 => ?_)
  · subst e_11
    have hl : lv_has ls 4 [(3, va_rf rn), (2, .ref z_11), (0, .ref a1), (1, .ref a)] := hl
    refine lv_aload_n hx hb dX0_unlink_22 rfl (lv_at hl 1 rfl) ?_
    refine sf_aload_n hx hb dX0_unlink_23 rfl (lv_at hl 0 rfl) ?_
    refine sf_rput (D := (dC, dI)) (ci := 1) (v := va_rf rn) (ty := .object "ByteShelf$Row") (C := RX1) (T := TX1) (N := 6) hx hb hts sf_inX1 tyX1 tyX1_ok nmX1 hown hK hP hD hS (hb1 _ rfl) rfl rfl 5 (by decide) (hts _ (sf_mem fl_X0_75 rfl)) (fun _ h9 => h9) rfl (by decide +kernel) (sf_nq _) (sf_fq _) (Nat.le_of_ble_eq_true rfl) (sf_rw_af rn) dX0_unlink_24 (fun H locs hP hD hS => ?_)
    have hP : va_P (dC, dI) vwCl (sf_w a0 a1 a2 a3 cB cT LP gb md ct tb nm tk oc en fs la g st ln bf (va_up af z_11 rn)) H := hP
    have hD : va_D A (sf_w a0 a1 a2 a3 cB cT LP gb md ct tb nm tk oc en fs la g st ln bf (va_up af z_11 rn)) := hD
    refine sf_aload_n hx hb dX0_unlink_27 rfl (lv_at hl 0 rfl) ?_
    refine sf_ifnonnull (tgt := 39) hx hb dX0_unlink_28 (by decide) (fun z_28 e_28 => ?_) (fun e_28 => ?_)
    · subst e_28
      have hl : lv_has ls 4 [(3, .ref z_28), (2, .ref z_11), (0, .ref a1), (1, .ref a)] := hl
      refine lv_aload_n hx hb dX0_unlink_39 rfl (lv_at hl 0 rfl) ?_
      refine lv_aload_n hx hb dX0_unlink_40 rfl (lv_at hl 1 rfl) ?_
      refine sf_rput (D := (dC, dI)) (ci := 1) (v := .ref z_11) (ty := .object "ByteShelf$Row") (C := RX1) (T := TX1) (N := 6) hx hb hts sf_inX1 tyX1 tyX1_ok nmX1 hown hK hP hD hS (hn1 _ rfl) rfl rfl 4 (by decide) (hts _ (sf_mem fl_X0_78 rfl)) (fun _ h9 => h9) rfl (by decide +kernel) rfl rfl (Nat.le_of_ble_eq_true rfl) (sf_rw_bf (some z_11)) dX0_unlink_41 (fun H locs hP hD hS => ?_)
      have hP : va_P (dC, dI) vwCl (sf_w a0 a1 a2 a3 cB cT LP gb md ct tb nm tk oc en fs la g st ln (va_up bf z_28 (some z_11)) (va_up af z_11 (some z_28))) H := hP
      have hD : va_D A (sf_w a0 a1 a2 a3 cB cT LP gb md ct tb nm tk oc en fs la g st ln (va_up bf z_28 (some z_11)) (va_up af z_11 (some z_28))) := hD
      exact W.vret hx hb hr (fun t ht hW => ⟨⟨(), rfl, trivial, by rw [ht]; exact hP, hD⟩, hS.F ht⟩) hS.2.2 dX0_unlink_44
    · subst e_28
      have hl : lv_has ls 4 [(3, .null), (2, .ref z_11), (0, .ref a1), (1, .ref a)] := hl
      refine lv_aload_n hx hb dX0_unlink_31 rfl (lv_at hl 2 rfl) ?_
      refine lv_aload_n hx hb dX0_unlink_32 rfl (lv_at hl 1 rfl) ?_
      refine va_put (D := (dC, dI)) (ci := 0) (v := .ref z_11) (ty := .object "ByteShelf$Row") (C := RX0) (T := TX0) (N := 5) hx hb hts sf_inX0 tyX0 tyX0_ok nmX0 hown hK hP hD hS 1 rfl rfl 4 (by decide) (hts _ (sf_mem fl_X0_27 rfl)) (fun _ h9 => h9) rfl (by decide +kernel) rfl rfl (Nat.le_of_ble_eq_true rfl) dX0_unlink_33 (fun H locs hP hD hS => ?_)
      have hP : va_P (dC, dI) vwCl (sf_w a0 a1 a2 a3 cB cT LP gb md ct tb nm tk oc en fs (some z_11) g st ln bf (va_up af z_11 none)) H := hP
      have hD : va_D A (sf_w a0 a1 a2 a3 cB cT LP gb md ct tb nm tk oc en fs (some z_11) g st ln bf (va_up af z_11 none)) := hD
      refine lv_goto (tgt := 44) hx hb dX0_unlink_36 (by decide) ?_
      exact W.vret hx hb hr (fun t ht hW => ⟨⟨(), rfl, trivial, by rw [ht]; exact hP, hD⟩, hS.F ht⟩) hS.2.2 dX0_unlink_44
  · subst e_11
    have hl : lv_has ls 4 [(3, va_rf rn), (2, .null), (0, .ref a1), (1, .ref a)] := hl
    refine lv_aload_n hx hb dX0_unlink_14 rfl (lv_at hl 2 rfl) ?_
    refine sf_aload_n hx hb dX0_unlink_15 rfl (lv_at hl 0 rfl) ?_
    refine va_put (D := (dC, dI)) (ci := 0) (v := va_rf rn) (ty := .object "ByteShelf$Row") (C := RX0) (T := TX0) (N := 5) hx hb hts sf_inX0 tyX0 tyX0_ok nmX0 hown hK hP hD hS 1 rfl rfl 3 (by decide) (hts _ (sf_mem fl_X0_23 rfl)) (fun _ h9 => h9) rfl (by decide +kernel) (sf_nq _) (sf_fq _) (Nat.le_of_ble_eq_true rfl) dX0_unlink_16 (fun H locs hP hD hS => ?_)
    have hP : va_P (dC, dI) vwCl (sf_w a0 a1 a2 a3 cB cT LP gb md ct tb nm tk oc en rn la g st ln bf af) H := hP
    have hD : va_D A (sf_w a0 a1 a2 a3 cB cT LP gb md ct tb nm tk oc en rn la g st ln bf af) := hD
    refine lv_goto (tgt := 27) hx hb dX0_unlink_19 (by decide) ?_
    refine sf_aload_n hx hb dX0_unlink_27 rfl (lv_at hl 0 rfl) ?_
    refine sf_ifnonnull (tgt := 39) hx hb dX0_unlink_28 (by decide) (fun z_28 e_28 => ?_) (fun e_28 => ?_)
    · subst e_28
      have hl : lv_has ls 4 [(3, .ref z_28), (2, .null), (0, .ref a1), (1, .ref a)] := hl
      refine lv_aload_n hx hb dX0_unlink_39 rfl (lv_at hl 0 rfl) ?_
      refine lv_aload_nN hx hb dX0_unlink_40 rfl (lv_at hl 1 rfl) ?_
      refine sf_rput (D := (dC, dI)) (ci := 1) (v := .null) (ty := .object "ByteShelf$Row") (C := RX1) (T := TX1) (N := 6) hx hb hts sf_inX1 tyX1 tyX1_ok nmX1 hown hK hP hD hS (hn1 _ rfl) rfl rfl 4 (by decide) (hts _ (sf_mem fl_X0_78 rfl)) (fun _ h9 => h9) rfl (by decide +kernel) rfl rfl (Nat.le_of_ble_eq_true rfl) (sf_rw_bf none) dX0_unlink_41 (fun H locs hP hD hS => ?_)
      have hP : va_P (dC, dI) vwCl (sf_w a0 a1 a2 a3 cB cT LP gb md ct tb nm tk oc en (some z_28) la g st ln (va_up bf z_28 none) af) H := hP
      have hD : va_D A (sf_w a0 a1 a2 a3 cB cT LP gb md ct tb nm tk oc en (some z_28) la g st ln (va_up bf z_28 none) af) := hD
      exact W.vret hx hb hr (fun t ht hW => ⟨⟨(), rfl, trivial, by rw [ht]; exact hP, hD⟩, hS.F ht⟩) hS.2.2 dX0_unlink_44
    · subst e_28
      have hl : lv_has ls 4 [(3, .null), (2, .null), (0, .ref a1), (1, .ref a)] := hl
      refine lv_aload_n hx hb dX0_unlink_31 rfl (lv_at hl 2 rfl) ?_
      refine lv_aload_nN hx hb dX0_unlink_32 rfl (lv_at hl 1 rfl) ?_
      refine va_put (D := (dC, dI)) (ci := 0) (v := .null) (ty := .object "ByteShelf$Row") (C := RX0) (T := TX0) (N := 5) hx hb hts sf_inX0 tyX0 tyX0_ok nmX0 hown hK hP hD hS 1 rfl rfl 4 (by decide) (hts _ (sf_mem fl_X0_27 rfl)) (fun _ h9 => h9) rfl (by decide +kernel) rfl rfl (Nat.le_of_ble_eq_true rfl) dX0_unlink_33 (fun H locs hP hD hS => ?_)
      have hP : va_P (dC, dI) vwCl (sf_w a0 a1 a2 a3 cB cT LP gb md ct tb nm tk oc en none none g st ln bf af) H := hP
      have hD : va_D A (sf_w a0 a1 a2 a3 cB cT LP gb md ct tb nm tk oc en none none g st ln bf af) := hD
      refine lv_goto (tgt := 44) hx hb dX0_unlink_36 (by decide) ?_
      exact W.vret hx hb hr (fun t ht hW => ⟨⟨(), rfl, trivial, by rw [ht]; exact hP, hD⟩, hS.F ht⟩) hS.2.2 dX0_unlink_44
set_option maxHeartbeats 4000000 in
set_option maxRecDepth 100000 in
theorem c_rangeCheck (l : Launch) (n lo hi : Nat) (h1 : lo ≤ hi) (h2 : hi ≤ n) (h3 : n < 2 ^ 31) : Met l yJ7_rangeCheck_23922 wsJ7_rangeCheck_23922 ({ frames := 0, cells := 0, slots := 0, locals := 0 } : Room) (sf_PreT [.int (nI n), .int (nI lo), .int (nI hi)]) sf_Sv 0 0 (fun _ => False) := by
  refine Met.ofW (cc := cJ7_rangeCheck_23922) (maxL := 3) (ret := none) (by decide) rfl ?_
  intro p e s m args below meth c s₁ B hml hv
  obtain ⟨rfl, -⟩ := hv
  have hx := B.exec
  have hb := B.bytes
  have hr := B.returns
  have hts := atoms_spec (ws := wsJ7_rangeCheck_23922) B.pre
  have hown : s.vm.findClass RJ7 = some m.cls := findClass_of_methodNamed B.named
  have hlocks := B.notSynchronized
  have hl := lv_entry ([.int (nI n), .int (nI lo), .int (nI hi)]) (n := 3) (Nat.le_of_ble_eq_true rfl)
  rw [lg_entry_eq]
  generalize (lg_sl ([.int (nI n), .int (nI lo), .int (nI hi)]) ++ List.replicate (3 - (lg_sl ([.int (nI n), .int (nI lo), .int (nI hi)])).length) Slot.unset).toArray = ls at hl ⊢
  have hl : lv_has ls 3 [(0, .int (nI n)), (1, .int (nI lo)), (2, .int (nI hi))] := hl
  refine lv_iload_n hx hb dJ7_rangeCheck_23922_0 rfl (lv_at hl 1 rfl) ?_
  refine lv_iload_n hx hb dJ7_rangeCheck_23922_1 rfl (lv_at hl 2 rfl) ?_
  refine sf_icmp_le (tgt := 46) hx hb (by omega) (by omega) dJ7_rangeCheck_23922_2 (by decide) (fun c_2 => ?_) (fun c_2 => ?_)
  · refine lv_iload_n hx hb dJ7_rangeCheck_23922_46 rfl (lv_at hl 1 rfl) ?_
    refine sf_if_ge (tgt := 59) hx hb (by omega) dJ7_rangeCheck_23922_47 (by decide) ?_
    refine lv_iload_n hx hb dJ7_rangeCheck_23922_59 rfl (lv_at hl 2 rfl) ?_
    refine lv_iload_n hx hb dJ7_rangeCheck_23922_60 rfl (lv_at hl 0 rfl) ?_
    refine sf_icmp_le (tgt := 73) hx hb (by omega) (by omega) dJ7_rangeCheck_23922_61 (by decide) (fun c_61 => ?_) (fun c_61 => ?_)
    · exact W.vret hx hb hr (fun t ht hW => ⟨rfl, ht⟩) sf_noloc dJ7_rangeCheck_23922_73
    · exact absurd c_61 (by omega)
  · exact absurd c_2 (by omega)
theorem sf_set_same {ws : va_W} {q0 : Nat} {x : Nat × va_E} (h : ws[q0]? = some x) : ws.set q0 x = ws := by
  apply List.ext_getElem?
  intro j
  by_cases hj : q0 = j
  · subst hj
    rw [List.getElem?_set_self (List.getElem?_eq_some_iff.mp h).1, h]
  · rw [List.getElem?_set_ne hj]
theorem sf_fill_step {f f2 : Nat → Int32} {lo i : Nat} (h : ∀ j, f2 j = if lo ≤ j ∧ j < i then nI 0 else f j) (hi : lo ≤ i) : ∀ j, upd f2 i (nI 0) j = if lo ≤ j ∧ j < i + 1 then nI 0 else f j := by
  intro j
  by_cases e : j = i
  · subst e
    rw [pk_us, if_pos (by omega)]
  · rw [pk_un e, h j]
    by_cases q : lo ≤ j ∧ j < i
    · rw [if_pos q, if_pos (by omega)]
    · rw [if_neg q, if_neg (by omega)]
set_option maxHeartbeats 4000000 in
set_option maxRecDepth 100000 in
/-- Arrays.fill(a, lo, hi, 0) in any world -/
theorem c_fill0 (l : Launch) (dC : Nat → ClassId) (dI : Nat → Nat → Nat) (tys : List (ClassId × FieldType)) (ws : va_W) (sz a : Nat) (cA : ClassId) (n : Nat) (f : Nat → Int32) (q0 t0 lo hi : Nat) (ha : ws[q0]? = some (a, .inl (cA, n, .inl f))) (ht : tys[t0]? = some (cA, .byte)) (h1 : lo ≤ hi) (h2 : hi ≤ n) (h3 : n < 2 ^ 31) : Met l yJ7_fill_eb02e wsJ7_fill_eb02e ({ frames := 1, cells := 0, slots := 0, locals := 30 } : Room) (sf_Pre (dC, dI) vwCl tys [.ref a, .int (nI lo), .int (nI hi), .int (nI 0)] ws sz) (va_Qv (fun f2 : Nat → Int32 => ∀ j, f2 j = if lo ≤ j ∧ j < hi then nI 0 else f j) (sf_E (dC, dI) vwCl (va_A ws sz) (fun f2 => ws.set q0 (a, .inl (cA, n, .inl f2)))) (va_A ws sz)) 0 0 (va_A ws sz) := by
  refine Met.ofW (cc := cJ7_fill_eb02e) (maxL := 5) (ret := none) (by decide) rfl ?_
  intro p e s m args below meth c s₁ B hml hv
  obtain ⟨rfl, hsz, hP, hK, hD0, hN⟩ := hv
  have hx := B.exec
  have hb := B.bytes
  have hr := B.returns
  have hts := atoms_spec (ws := wsJ7_fill_eb02e) B.pre
  have hown : s.vm.findClass RJ7 = some m.cls := findClass_of_methodNamed B.named
  have hlocks := B.notSynchronized
  subst hsz
  have hD := hD0.self (sz := s.heap.size)
  generalize hAe : va_A (ws) s.heap.size = A at hD ⊢
  have hA : ∀ q : Nat, s.heap.size ≤ q → A q := fun q h => by rw [← hAe]; exact Or.inr h
  have hS : va_S A s.heap s.heap [] := va_S.rf
  have hl := lv_entry ([.ref a, .int (nI lo), .int (nI hi), .int (nI 0)]) (n := 5) (Nat.le_of_ble_eq_true rfl)
  rw [lg_entry_eq]
  generalize (lg_sl ([.ref a, .int (nI lo), .int (nI hi), .int (nI 0)]) ++ List.replicate (5 - (lg_sl ([.ref a, .int (nI lo), .int (nI hi), .int (nI 0)])).length) Slot.unset).toArray = ls at hl ⊢
  have hl : lv_has ls 5 [(0, .ref a), (1, .int (nI lo)), (2, .int (nI hi)), (3, .int (nI 0))] := hl
  refine lv_aload_n hx hb dJ7_fill_eb02e_0 rfl (lv_at hl 0 rfl) ?_
  refine va_alen hx hb hK hP q0 t0 ha ht rfl dJ7_fill_eb02e_1 ?_
  refine lv_iload_n hx hb dJ7_fill_eb02e_2 rfl (lv_at hl 1 rfl) ?_
  refine lv_iload_n hx hb dJ7_fill_eb02e_3 rfl (lv_at hl 2 rfl) ?_
  refine sf_csv (va_Run.run (sf_runS (As := [.int (nI n), .int (nI lo), .int (nI hi)]) (rest := []) ⟨hx, hb, hml, hown, hts⟩ sf_has (c_rangeCheck l n lo hi h1 h2 h3) k_J7_13 ⟨sf_blindT, sf_preT⟩ rfl hl.1 (Nat.le_of_ble_eq_true rfl) ⟨(Nat.le_of_ble_eq_true rfl), (Nat.le_of_ble_eq_true rfl)⟩ ⟨rfl, rfl⟩ ⟨Nat.zero_le _, Nat.zero_le _⟩ dJ7_fill_eb02e_4)) ?_
  refine lv_iload_n hx hb dJ7_fill_eb02e_7 rfl (lv_at hl 1 rfl) ?_
  refine lv_istore (lv' := [(4, .int (nI lo)), (0, .ref a), (1, .int (nI lo)), (2, .int (nI hi)), (3, .int (nI 0))]) hx hb dJ7_fill_eb02e_8 hl (by decide) rfl (fun ls hl => ?_)
  have hset : ws.set q0 (a, .inl (cA, n, .inl f)) = ws := sf_set_same ha
  have hlen : q0 < ws.length := (List.getElem?_eq_some_iff.mp ha).1
  refine sf_loop (σ := Nat × (Nat → Int32)) (fun u => hi - u.1) (fun u H locs ls => lo ≤ u.1 ∧ u.1 ≤ hi ∧ (∀ j, u.2 j = if lo ≤ j ∧ j < u.1 then nI 0 else f j) ∧ va_P (dC, dI) vwCl (ws.set q0 (a, .inl (cA, n, .inl u.2))) H ∧ va_D A (ws.set q0 (a, .inl (cA, n, .inl u.2))) ∧ va_S A s.heap H locs ∧ lv_has ls 5 [(0, .ref a), (1, .int (nI lo)), (2, .int (nI hi)), (3, .int (nI 0)), (4, .int (nI u.1))]) ?_ (lo, f) _ _ _ ?_
  · intro u H locs ls hI ih
    obtain ⟨i, f2⟩ := u
    obtain ⟨k1, k2, k3, hP, hD, hS, hl⟩ := hI
    dsimp only at k1 k2 k3 hP hD hl ih
    have ha2 : (ws.set q0 (a, .inl (cA, n, .inl f2)))[q0]? = some (a, .inl (cA, n, .inl f2)) := List.getElem?_set_self hlen
    refine lv_iload hx hb dJ7_fill_eb02e_10 (lv_at hl 4 rfl) ?_
    refine lv_iload_n hx hb dJ7_fill_eb02e_12 rfl (lv_at hl 2 rfl) ?_
    refine sf_icmp_ge (tgt := 27) hx hb (by omega) (by omega) dJ7_fill_eb02e_13 (by decide) (fun c_13 => ?_) (fun c_13 => ?_)
    · exact W.vret hx hb hr (fun t ht hW => ⟨⟨f2, rfl, fun j => by rw [k3 j, show i = hi by omega], by rw [ht]; exact hP, hD⟩, hS.F ht⟩) hS.2.2 dJ7_fill_eb02e_27
    · refine lv_aload_n hx hb dJ7_fill_eb02e_16 rfl (lv_at hl 0 rfl) ?_
      refine lv_iload hx hb dJ7_fill_eb02e_17 (lv_at hl 4 rfl) ?_
      refine lv_iload_n hx hb dJ7_fill_eb02e_19 rfl (lv_at hl 3 rfl) ?_
      refine sf_bast hx hb hK hP hD hS q0 t0 ha2 ht (by decide) (by omega) h3 dJ7_fill_eb02e_20 (fun H locs hP hD hS => ?_)
      rw [List.set_set] at hP hD
      refine lv_iinc (v := nI (i + 1)) (lv' := [(4, .int (nI (i + 1))), (0, .ref a), (1, .int (nI lo)), (2, .int (nI hi)), (3, .int (nI 0))]) hx hb dJ7_fill_eb02e_21 hl (k := 4) rfl (nI_1 i) (by decide) rfl (fun ls hl => ?_)
      refine lv_goto (tgt := 10) hx hb dJ7_fill_eb02e_24 (by decide) ?_
      exact ih (i + 1, upd f2 i (nI 0)) _ _ _ (by dsimp only; omega) ⟨by dsimp only; omega, by dsimp only; omega, sf_fill_step k3 k1, hP, hD, hS, lv_sub hl [1, 2, 3, 4, 0] rfl⟩
  · exact ⟨Nat.le_refl _, h1, fun j => by rw [if_neg (by omega)], by rw [hset]; exact hP, by rw [hset]; exact hD, hS, lv_sub hl [1, 2, 3, 4, 0] rfl⟩
end
section
/-! the memory: pushTogether, cut, lay, lift, move, setLength -/
theorem sf_pl_g {to n : Nat} {g2 : Nat → Int32} {s2 : Nat} (e : s2 = to) : ∀ j, g2 j = if to ≤ j ∧ j < to + n then g2 (s2 + (j - to)) else g2 j := by
  intro j
  split
  · exact congrArg g2 (by omega)
  · rfl
theorem sf_pl_s {to z : Nat} {st2 : Nat → Nat} (e : st2 z = to) : ∀ b, st2 b = if b = z then to else st2 b := by
  intro b
  by_cases q : b = z
  · rw [if_pos q, q]; exact e
  · rw [if_neg q]
set_option maxHeartbeats 4000000 in
set_option maxRecDepth 100000 in
/-- pushTogether(): the rows lie one behind the other from 0 on, their bytes as they were -/
theorem c_pushTogether (l : Launch) (dC : Nat → ClassId) (dI : Nat → Nat → Nat) (a0 a1 a2 a3 : Nat) (cB cT : ClassId) (LP : List Nat) (gb : Option Nat) (md ct : Nat) (tb : Nat → Option Nat) (nm tk : Nat → Nat) (oc en : Nat) (fs la : Option Nat) (g : Nat → Int32) (st ln : Nat → Nat) (bf af : Nat → Option Nat) (sz : Nat) (cs : List Nat) (hM : sf_MI LP cs oc en fs la g st ln bf af) : Met l yX0_pushTogether wsX0_pushTogether ({ frames := 1, cells := 0, slots := 0, locals := 30 } : Room) (sf_Pre (dC, dI) vwCl [(cB, .byte), (cT, .object "ByteShelf$Row")] [.ref a1] (sf_w a0 a1 a2 a3 cB cT LP gb md ct tb nm tk oc en fs la g st ln bf af) sz) (va_Qv (fun u : (Nat → Int32) × (Nat → Nat) => sf_lay u.2 ln 0 cs oc ∧ (∀ x, x ∈ cs → ∀ i, i < ln x → u.1 (u.2 x + i) = g (st x + i)) ∧ sb_Fit u.1) (sf_E (dC, dI) vwCl (va_A (sf_w a0 a1 a2 a3 cB cT LP gb md ct tb nm tk oc en fs la g st ln bf af) sz) (fun (u : (Nat → Int32) × (Nat → Nat)) => sf_w a0 a1 a2 a3 cB cT LP gb md ct tb nm tk oc oc fs la u.1 u.2 ln bf af)) (va_A (sf_w a0 a1 a2 a3 cB cT LP gb md ct tb nm tk oc en fs la g st ln bf af) sz)) 0 0 (va_A (sf_w a0 a1 a2 a3 cB cT LP gb md ct tb nm tk oc en fs la g st ln bf af) sz) := by
  refine Met.ofW (cc := cX0_pushTogether) (maxL := 3) (ret := none) (by decide) rfl ?_
  intro p e s m args below meth c s₁ B hml hv
  obtain ⟨rfl, hsz, hP, hK, hD0, hN⟩ := hv
  have hx := B.exec
  have hb := B.bytes
  have hr := B.returns
  have hts := atoms_spec (ws := wsX0_pushTogether) B.pre
  have hown : s.vm.findClass RX0 = some m.cls := findClass_of_methodNamed B.named
  have hlocks := B.notSynchronized
  subst hsz
  have hD := hD0.self (sz := s.heap.size)
  generalize hAe : va_A (sf_w a0 a1 a2 a3 cB cT LP gb md ct tb nm tk oc en fs la g st ln bf af) s.heap.size = A at hD ⊢
  have hA : ∀ q : Nat, s.heap.size ≤ q → A q := fun q h => by rw [← hAe]; exact Or.inr h
  have hS : va_S A s.heap s.heap [] := va_S.rf
  have hl := lv_entry ([.ref a1]) (n := 3) (Nat.le_of_ble_eq_true rfl)
  rw [lg_entry_eq]
  generalize (lg_sl ([.ref a1]) ++ List.replicate (3 - (lg_sl ([.ref a1])).length) Slot.unset).toArray = ls at hl ⊢
  have hl : lv_has ls 3 [(0, .ref a1)] := hl
  obtain ⟨h1, h2, h3, h4, h5, h6, h7, h8, h9, h10⟩ := hM
  refine lv_iconst (v := nI 0) hx hb dX0_pushTogether_0 (by decide) ?_
  refine lv_istore_n (lv' := [(1, .int (nI 0)), (0, .ref a1)]) hx hb dX0_pushTogether_1 rfl hl (by decide) rfl (fun ls hl => ?_)
  refine lv_aload_n hx hb dX0_pushTogether_2 rfl (lv_at hl 1 rfl) ?_
  refine va_get (D := (dC, dI)) (ci := 0) (v := va_rf fs) (C := RX0) (T := TX0) (N := 5) hx hb hts sf_inX0 hown hK hP 1 rfl rfl 3 (by decide) (hts _ (sf_mem fl_X0_23 rfl)) (fun _ h9 => h9) rfl dX0_pushTogether_3 ?_
  refine sf_astore_n (lv' := [(2, va_rf fs), (1, .int (nI 0)), (0, .ref a1)]) hx hb dX0_pushTogether_6 rfl hl (by decide) rfl (fun ls hl => ?_)
  refine sf_loop (σ := List Nat × List Nat × Nat × (Nat → Int32) × (Nat → Nat)) (fun u => u.2.1.length) (fun u H locs ls => cs = u.1 ++ u.2.1 ∧ sf_PL ln g st en u.1 u.2.1 u.2.2.1 u.2.2.2.1 u.2.2.2.2 ∧ sb_Fit u.2.2.2.1 ∧ va_P (dC, dI) vwCl (sf_w a0 a1 a2 a3 cB cT LP gb md ct tb nm tk oc en fs la u.2.2.2.1 u.2.2.2.2 ln bf af) H ∧ va_D A (sf_w a0 a1 a2 a3 cB cT LP gb md ct tb nm tk oc en fs la u.2.2.2.1 u.2.2.2.2 ln bf af) ∧ va_S A s.heap H locs ∧ lv_has ls 3 [(0, .ref a1), (1, .int (nI u.2.2.1)), (2, va_rf u.2.1.head?)]) ?_ ([], cs, 0, g, st) _ _ _ ?_
  · intro u H locs ls hI ih
    obtain ⟨l1, r1, to, g2, st2⟩ := u
    obtain ⟨k1, k2, k3, hP, hD, hS, hl⟩ := hI
    dsimp only at k1 k2 k3 hP hD hl ih
    rcases r1 with _ | ⟨z, t1⟩
    · have hl : lv_has ls 3 [(0, .ref a1), (1, .int (nI to)), (2, .null)] := hl
      have hto : to = oc := by rw [k2.1, h8, k1, List.append_nil]
      refine lv_aload_nN hx hb dX0_pushTogether_7 rfl (lv_at hl 2 rfl) ?_
      refine lv_ifnullN (tgt := 62) hx hb dX0_pushTogether_8 (by decide) ?_
      refine lv_aload_n hx hb dX0_pushTogether_62 rfl (lv_at hl 0 rfl) ?_
      refine lv_iload_n hx hb dX0_pushTogether_63 rfl (lv_at hl 1 rfl) ?_
      refine va_put (D := (dC, dI)) (ci := 0) (v := .int (nI to)) (ty := .int) (C := RX0) (T := TX0) (N := 5) hx hb hts sf_inX0 tyX0 tyX0_ok nmX0 hown hK hP hD hS 1 rfl rfl 2 (by decide) (hts _ (sf_mem fl_X0_20 rfl)) (fun _ h9 => h9) rfl (by decide +kernel) rfl rfl (Nat.le_of_ble_eq_true rfl) dX0_pushTogether_64 (fun H locs hP hD hS => ?_)
      have hP : va_P (dC, dI) vwCl (sf_w a0 a1 a2 a3 cB cT LP gb md ct tb nm tk oc to fs la g2 st2 ln bf af) H := hP
      have hD : va_D A (sf_w a0 a1 a2 a3 cB cT LP gb md ct tb nm tk oc to fs la g2 st2 ln bf af) := hD
      rw [hto] at hP hD
      exact W.vret hx hb hr (fun t ht hW => ⟨⟨(g2, st2), rfl, ⟨by rw [k1, List.append_nil, ← hto]; exact k2.2.1, fun x hx => k2.2.2.2.1 x (by rw [← k1]; exact hx), k3⟩, by rw [ht]; exact hP, hD⟩, hS.F ht⟩) hS.2.2 dX0_pushTogether_67
    · have hl : lv_has ls 3 [(0, .ref a1), (1, .int (nI to)), (2, .ref z)] := hl
      have hz : z ∈ cs := by rw [k1]; simp
      have hzL := h2 z hz
      have q1 : to ≤ st2 z := k2.2.2.1.1
      have q2 := sf_lay_le k2.2.2.1.2
      have q3 := h9 z hz
      have q4 := sf_P_ge (ln z)
      have haf : af z = t1.head? := (h5 l1 z t1 k1).2
      refine lv_aload_n hx hb dX0_pushTogether_7 rfl (lv_at hl 2 rfl) ?_
      refine lv_ifnull hx hb dX0_pushTogether_8 ?_
      refine lv_aload_n hx hb dX0_pushTogether_11 rfl (lv_at hl 2 rfl) ?_
      refine sf_rget (D := (dC, dI)) (ci := 1) (v := .int (nI (st2 z))) (C := RX1) (T := TX1) (N := 6) hx hb hts sf_inX1 hown hK hP hzL rfl rfl 2 (by decide) (hts _ (sf_mem fl_X0_37 rfl)) (fun _ h9 => h9) rfl dX0_pushTogether_12 ?_
      refine lv_iload_n hx hb dX0_pushTogether_15 rfl (lv_at hl 1 rfl) ?_
      refine sf_icmp_eq (tgt := 44) hx hb (by omega) (by omega) dX0_pushTogether_16 (by decide) (fun c_16 => ?_) (fun c_16 => ?_)
      · refine lv_iload_n hx hb dX0_pushTogether_44 rfl (lv_at hl 1 rfl) ?_
        refine lv_aload_n hx hb dX0_pushTogether_45 rfl (lv_at hl 2 rfl) ?_
        refine sf_rget (D := (dC, dI)) (ci := 1) (v := .int (nI (ln z))) (C := RX1) (T := TX1) (N := 6) hx hb hts sf_inX1 hown hK hP hzL rfl rfl 3 (by decide) (hts _ (sf_mem fl_X0_42 rfl)) (fun _ h9 => h9) rfl dX0_pushTogether_46 ?_
        refine vp_callSi (va_Run.run (sf_runP (As := [.int (nI (ln z))]) (rest := [.int (nI to)]) ⟨hx, hb, hml, hown, hts⟩ sf_has (c_placesFor l (ln z) (by omega)) hN co_X2_placesFor sm_X2_placesFor in_X2 k_X0_30 ⟨sf_blindT, sf_preT⟩ rfl hl.1 (Nat.le_of_ble_eq_true rfl) ⟨(Nat.le_of_ble_eq_true rfl), (Nat.le_of_ble_eq_true rfl)⟩ ⟨rfl, rfl⟩ ⟨Nat.zero_le _, Nat.zero_le _⟩ dX0_pushTogether_49)) (fun r_49 h_49 => ?_)
        subst h_49
        refine sf_iadd hx hb dX0_pushTogether_52 ?_
        refine lv_istore_n (lv' := [(1, .int (nI (to + (sf_P (ln z))))), (0, .ref a1), (2, .ref z)]) hx hb dX0_pushTogether_53 rfl hl (by decide) rfl (fun ls hl => ?_)
        refine lv_aload_n hx hb dX0_pushTogether_54 rfl (lv_at hl 2 rfl) ?_
        refine sf_rget (D := (dC, dI)) (ci := 1) (v := va_rf t1.head?) (C := RX1) (T := TX1) (N := 6) hx hb hts sf_inX1 hown hK hP hzL rfl rfl 5 (by decide) (hts _ (sf_mem fl_X0_75 rfl)) (fun _ h9 => h9) (congrArg (fun z => some (va_rf z)) haf) dX0_pushTogether_55 ?_
        refine sf_astore_n (lv' := [(2, va_rf t1.head?), (1, .int (nI (to + (sf_P (ln z))))), (0, .ref a1)]) hx hb dX0_pushTogether_58 rfl hl (by decide) rfl (fun ls hl => ?_)
        refine lv_goto (tgt := 7) hx hb dX0_pushTogether_59 (by decide) ?_
        exact ih (l1 ++ [z], t1, to + sf_P (ln z), g2, st2) _ _ _ (by simp) ⟨by rw [k1]; simp, sf_PL_step k2 (by rw [← k1]; exact h1) (sf_pl_g c_16) (sf_pl_s c_16), k3, hP, hD, hS, lv_sub hl [2, 1, 0] rfl⟩
      · refine lv_aload_n hx hb dX0_pushTogether_19 rfl (lv_at hl 0 rfl) ?_
        refine va_get (D := (dC, dI)) (ci := 0) (v := .ref a2) (C := RX0) (T := TX0) (N := 5) hx hb hts sf_inX0 hown hK hP 1 rfl rfl 0 (by decide) (hts _ (sf_mem fl_X0_10 rfl)) (fun _ h9 => h9) rfl dX0_pushTogether_20 ?_
        refine lv_aload_n hx hb dX0_pushTogether_23 rfl (lv_at hl 2 rfl) ?_
        refine sf_rget (D := (dC, dI)) (ci := 1) (v := .int (nI (st2 z))) (C := RX1) (T := TX1) (N := 6) hx hb hts sf_inX1 hown hK hP hzL rfl rfl 2 (by decide) (hts _ (sf_mem fl_X0_37 rfl)) (fun _ h9 => h9) rfl dX0_pushTogether_24 ?_
        refine lv_aload_n hx hb dX0_pushTogether_27 rfl (lv_at hl 0 rfl) ?_
        refine va_get (D := (dC, dI)) (ci := 0) (v := .ref a2) (C := RX0) (T := TX0) (N := 5) hx hb hts sf_inX0 hown hK hP 1 rfl rfl 0 (by decide) (hts _ (sf_mem fl_X0_10 rfl)) (fun _ h9 => h9) rfl dX0_pushTogether_28 ?_
        refine lv_iload_n hx hb dX0_pushTogether_31 rfl (lv_at hl 1 rfl) ?_
        refine lv_aload_n hx hb dX0_pushTogether_32 rfl (lv_at hl 2 rfl) ?_
        refine sf_rget (D := (dC, dI)) (ci := 1) (v := .int (nI (ln z))) (C := RX1) (T := TX1) (N := 6) hx hb hts sf_inX1 hown hK hP hzL rfl rfl 3 (by decide) (hts _ (sf_mem fl_X0_42 rfl)) (fun _ h9 => h9) rfl dX0_pushTogether_33 ?_
        refine sf_copy hx hb (hml.trans hl.1.symm) hown hts sf_has ml_X0_66 hK hP hD hS 2 0 rfl rfl (by decide) (by omega) (by omega) k3 (Nat.le_of_ble_eq_true rfl) (Nat.le_of_ble_eq_true rfl) dX0_pushTogether_36 (fun H locs hP hD hS => ?_)
        have hP : va_P (dC, dI) vwCl (sf_w a0 a1 a2 a3 cB cT LP gb md ct tb nm tk oc en fs la (va_cpy g2 g2 (st2 z) to (ln z)) st2 ln bf af) H := hP
        have hD : va_D A (sf_w a0 a1 a2 a3 cB cT LP gb md ct tb nm tk oc en fs la (va_cpy g2 g2 (st2 z) to (ln z)) st2 ln bf af) := hD
        refine lv_aload_n hx hb dX0_pushTogether_39 rfl (lv_at hl 2 rfl) ?_
        refine lv_iload_n hx hb dX0_pushTogether_40 rfl (lv_at hl 1 rfl) ?_
        refine sf_rput (D := (dC, dI)) (ci := 1) (v := .int (nI to)) (ty := .int) (C := RX1) (T := TX1) (N := 6) hx hb hts sf_inX1 tyX1 tyX1_ok nmX1 hown hK hP hD hS hzL rfl rfl 2 (by decide) (hts _ (sf_mem fl_X0_37 rfl)) (fun _ h9 => h9) rfl (by decide +kernel) rfl rfl (Nat.le_of_ble_eq_true rfl) (sf_rw_st to) dX0_pushTogether_41 (fun H locs hP hD hS => ?_)
        have hP : va_P (dC, dI) vwCl (sf_w a0 a1 a2 a3 cB cT LP gb md ct tb nm tk oc en fs la (va_cpy g2 g2 (st2 z) to (ln z)) (va_up st2 z to) ln bf af) H := hP
        have hD : va_D A (sf_w a0 a1 a2 a3 cB cT LP gb md ct tb nm tk oc en fs la (va_cpy g2 g2 (st2 z) to (ln z)) (va_up st2 z to) ln bf af) := hD
        refine lv_iload_n hx hb dX0_pushTogether_44 rfl (lv_at hl 1 rfl) ?_
        refine lv_aload_n hx hb dX0_pushTogether_45 rfl (lv_at hl 2 rfl) ?_
        refine sf_rget (D := (dC, dI)) (ci := 1) (v := .int (nI (ln z))) (C := RX1) (T := TX1) (N := 6) hx hb hts sf_inX1 hown hK hP hzL rfl rfl 3 (by decide) (hts _ (sf_mem fl_X0_42 rfl)) (fun _ h9 => h9) rfl dX0_pushTogether_46 ?_
        refine vp_callSi (va_Run.run (sf_runP (As := [.int (nI (ln z))]) (rest := [.int (nI to)]) ⟨hx, hb, hml, hown, hts⟩ sf_has (c_placesFor l (ln z) (by omega)) hN co_X2_placesFor sm_X2_placesFor in_X2 k_X0_30 ⟨sf_blindT, sf_preT⟩ rfl hl.1 (Nat.le_of_ble_eq_true rfl) ⟨(Nat.le_of_ble_eq_true rfl), (Nat.le_of_ble_eq_true rfl)⟩ ⟨rfl, rfl⟩ ⟨Nat.zero_le _, Nat.zero_le _⟩ dX0_pushTogether_49)) (fun r_49 h_49 => ?_)
        subst h_49
        refine sf_iadd hx hb dX0_pushTogether_52 ?_
        refine lv_istore_n (lv' := [(1, .int (nI (to + (sf_P (ln z))))), (0, .ref a1), (2, .ref z)]) hx hb dX0_pushTogether_53 rfl hl (by decide) rfl (fun ls hl => ?_)
        refine lv_aload_n hx hb dX0_pushTogether_54 rfl (lv_at hl 2 rfl) ?_
        refine sf_rget (D := (dC, dI)) (ci := 1) (v := va_rf t1.head?) (C := RX1) (T := TX1) (N := 6) hx hb hts sf_inX1 hown hK hP hzL rfl rfl 5 (by decide) (hts _ (sf_mem fl_X0_75 rfl)) (fun _ h9 => h9) (congrArg (fun z => some (va_rf z)) haf) dX0_pushTogether_55 ?_
        refine sf_astore_n (lv' := [(2, va_rf t1.head?), (1, .int (nI (to + (sf_P (ln z))))), (0, .ref a1)]) hx hb dX0_pushTogether_58 rfl hl (by decide) rfl (fun ls hl => ?_)
        refine lv_goto (tgt := 7) hx hb dX0_pushTogether_59 (by decide) ?_
        exact ih (l1 ++ [z], t1, to + sf_P (ln z), (va_cpy g2 g2 (st2 z) to (ln z)), (va_up st2 z to)) _ _ _ (by simp) ⟨by rw [k1]; simp, sf_PL_step k2 (by rw [← k1]; exact h1) (fun j => rfl) (fun b => rfl), (sb_fitC k3 k3), hP, hD, hS, lv_sub hl [2, 1, 0] rfl⟩
  · refine ⟨rfl, sf_PL_0 h6, h10, hP, hD, hS, ?_⟩
    have := lv_sub (l' := [(0, .ref a1), (1, .int (nI 0)), (2, va_rf fs)]) hl [2, 1, 0] rfl
    rw [h3] at this
    exact this
set_option maxHeartbeats 4000000 in
set_option maxRecDepth 100000 in
/-- cut(w): w places from the end -/
theorem c_cut (l : Launch) (dC : Nat → ClassId) (dI : Nat → Nat → Nat) (a0 a1 a2 a3 : Nat) (cB cT : ClassId) (LP : List Nat) (gb : Option Nat) (md ct : Nat) (tb : Nat → Option Nat) (nm tk : Nat → Nat) (oc en : Nat) (fs la : Option Nat) (g : Nat → Int32) (st ln : Nat → Nat) (bf af : Nat → Option Nat) (sz : Nat) (cs : List Nat) (hM : sf_MI LP cs oc en fs la g st ln bf af) (w : Nat) (hw : oc + w ≤ 400000) : Met l yX0_cut wsX0_cut ({ frames := 2, cells := 0, slots := 0, locals := 60 } : Room) (sf_Pre (dC, dI) vwCl [(cB, .byte), (cT, .object "ByteShelf$Row")] [.ref a1, .int (nI w)] (sf_w a0 a1 a2 a3 cB cT LP gb md ct tb nm tk oc en fs la g st ln bf af) sz) (va_Qi (fun (r : Int32) (u : Nat × (Nat → Int32) × (Nat → Nat)) => r = nI u.1 ∧ u.1 + w ≤ 400000 ∧ sf_lay u.2.2 ln 0 cs u.1 ∧ (∀ x, x ∈ cs → ∀ i, i < ln x → u.2.1 (u.2.2 x + i) = g (st x + i)) ∧ sb_Fit u.2.1) (sf_E (dC, dI) vwCl (va_A (sf_w a0 a1 a2 a3 cB cT LP gb md ct tb nm tk oc en fs la g st ln bf af) sz) (fun (u : Nat × (Nat → Int32) × (Nat → Nat)) => sf_w a0 a1 a2 a3 cB cT LP gb md ct tb nm tk oc (u.1 + w) fs la u.2.1 u.2.2 ln bf af)) (va_A (sf_w a0 a1 a2 a3 cB cT LP gb md ct tb nm tk oc en fs la g st ln bf af) sz)) 0 0 (va_A (sf_w a0 a1 a2 a3 cB cT LP gb md ct tb nm tk oc en fs la g st ln bf af) sz) := by
  refine Met.ofW (cc := cX0_cut) (maxL := 3) (ret := (some .int)) (by decide) rfl ?_
  intro p e s m args below meth c s₁ B hml hv
  obtain ⟨rfl, hsz, hP, hK, hD0, hN⟩ := hv
  have hx := B.exec
  have hb := B.bytes
  have hr := B.returns
  have hts := atoms_spec (ws := wsX0_cut) B.pre
  have hown : s.vm.findClass RX0 = some m.cls := findClass_of_methodNamed B.named
  have hlocks := B.notSynchronized
  subst hsz
  have hD := hD0.self (sz := s.heap.size)
  generalize hAe : va_A (sf_w a0 a1 a2 a3 cB cT LP gb md ct tb nm tk oc en fs la g st ln bf af) s.heap.size = A at hD ⊢
  have hA : ∀ q : Nat, s.heap.size ≤ q → A q := fun q h => by rw [← hAe]; exact Or.inr h
  have hS : va_S A s.heap s.heap [] := va_S.rf
  have hl := lv_entry ([.ref a1, .int (nI w)]) (n := 3) (Nat.le_of_ble_eq_true rfl)
  rw [lg_entry_eq]
  generalize (lg_sl ([.ref a1, .int (nI w)]) ++ List.replicate (3 - (lg_sl ([.ref a1, .int (nI w)])).length) Slot.unset).toArray = ls at hl ⊢
  have hl : lv_has ls 3 [(0, .ref a1), (1, .int (nI w))] := hl
  obtain ⟨hoc1, hen⟩ := sf_MI_oc hM
  refine lv_iload_n hx hb dX0_cut_0 rfl (lv_at hl 1 rfl) ?_
  refine lv_ldc (v := nI 400000) hx hb hown (hts _ (sf_mem cn_X0_9 rfl)) dX0_cut_1 ?_
  refine lv_aload_n hx hb dX0_cut_3 rfl (lv_at hl 0 rfl) ?_
  refine va_get (D := (dC, dI)) (ci := 0) (v := .int (nI en)) (C := RX0) (T := TX0) (N := 5) hx hb hts sf_inX0 hown hK hP 1 rfl rfl 2 (by decide) (hts _ (sf_mem fl_X0_20 rfl)) (fun _ h9 => h9) rfl dX0_cut_4 ?_
  refine sf_isub hx hb (by omega) dX0_cut_7 ?_
  refine sf_icmp_le (tgt := 15) hx hb (by omega) (by omega) dX0_cut_8 (by decide) (fun c_8 => ?_) (fun c_8 => ?_)
  · refine lv_aload_n hx hb dX0_cut_15 rfl (lv_at hl 0 rfl) ?_
    refine va_get (D := (dC, dI)) (ci := 0) (v := .int (nI en)) (C := RX0) (T := TX0) (N := 5) hx hb hts sf_inX0 hown hK hP 1 rfl rfl 2 (by decide) (hts _ (sf_mem fl_X0_20 rfl)) (fun _ h9 => h9) rfl dX0_cut_16 ?_
    refine lv_istore_n (lv' := [(2, .int (nI en)), (0, .ref a1), (1, .int (nI w))]) hx hb dX0_cut_19 rfl hl (by decide) rfl (fun ls hl => ?_)
    refine lv_aload_n hx hb dX0_cut_20 rfl (lv_at hl 1 rfl) ?_
    refine lv_dup hx hb dX0_cut_21 rfl ?_
    refine va_get (D := (dC, dI)) (ci := 0) (v := .int (nI en)) (C := RX0) (T := TX0) (N := 5) hx hb hts sf_inX0 hown hK hP 1 rfl rfl 2 (by decide) (hts _ (sf_mem fl_X0_20 rfl)) (fun _ h9 => h9) rfl dX0_cut_22 ?_
    refine lv_iload_n hx hb dX0_cut_25 rfl (lv_at hl 2 rfl) ?_
    refine sf_iadd hx hb dX0_cut_26 ?_
    refine va_put (D := (dC, dI)) (ci := 0) (v := .int (nI (en + w))) (ty := .int) (C := RX0) (T := TX0) (N := 5) hx hb hts sf_inX0 tyX0 tyX0_ok nmX0 hown hK hP hD hS 1 rfl rfl 2 (by decide) (hts _ (sf_mem fl_X0_20 rfl)) (fun _ h9 => h9) rfl (by decide +kernel) rfl rfl (Nat.le_of_ble_eq_true rfl) dX0_cut_27 (fun H locs hP hD hS => ?_)
    have hP : va_P (dC, dI) vwCl (sf_w a0 a1 a2 a3 cB cT LP gb md ct tb nm tk oc (en + w) fs la g st ln bf af) H := hP
    have hD : va_D A (sf_w a0 a1 a2 a3 cB cT LP gb md ct tb nm tk oc (en + w) fs la g st ln bf af) := hD
    refine lv_iload_n hx hb dX0_cut_30 rfl (lv_at hl 0 rfl) ?_
    exact W.iret (v := nI en) hx hb hr (fun t ht hW => ⟨⟨_, (en, g, st), rfl, ⟨rfl, by dsimp only; omega, hM.2.2.2.2.2.1, fun _ _ _ _ => rfl, hM.2.2.2.2.2.2.2.2.2⟩, by rw [ht]; exact hP, hD⟩, hS.F ht⟩) hS.2.2 dX0_cut_31
  · refine lv_aload_n hx hb dX0_cut_11 rfl (lv_at hl 0 rfl) ?_
    refine sf_cv (sf_runV (b := a1) (As := []) (rest := []) ⟨hx, hb, hml, hown, hts⟩ sf_has (c_pushTogether l dC dI a0 a1 a2 a3 cB cT LP gb md ct tb nm tk oc en fs la g st ln bf af _ cs hM) k_X0_72 ⟨sf_blind, va_recv hK hP (ci := 0) (q0 := 1) rfl rfl, sf_preU hP hK hD hN⟩ rfl hl.1 (Nat.le_of_ble_eq_true rfl) ⟨(Nat.le_of_ble_eq_true rfl), (Nat.le_of_ble_eq_true rfl)⟩ ⟨rfl, rfl⟩ ⟨Nat.zero_le _, Nat.zero_le _⟩ dX0_cut_12) hD hS hA (fun u_12 H locs h_12 hP hD hS => ?_)
    obtain ⟨g1, st1⟩ := u_12
    obtain ⟨p1, p2, p3⟩ := h_12
    dsimp only at p1 p2 p3
    have hP : va_P (dC, dI) vwCl (sf_w a0 a1 a2 a3 cB cT LP gb md ct tb nm tk oc oc fs la g1 st1 ln bf af) H := hP
    have hD : va_D A (sf_w a0 a1 a2 a3 cB cT LP gb md ct tb nm tk oc oc fs la g1 st1 ln bf af) := hD
    refine lv_aload_n hx hb dX0_cut_15 rfl (lv_at hl 0 rfl) ?_
    refine va_get (D := (dC, dI)) (ci := 0) (v := .int (nI oc)) (C := RX0) (T := TX0) (N := 5) hx hb hts sf_inX0 hown hK hP 1 rfl rfl 2 (by decide) (hts _ (sf_mem fl_X0_20 rfl)) (fun _ h9 => h9) rfl dX0_cut_16 ?_
    refine lv_istore_n (lv' := [(2, .int (nI oc)), (0, .ref a1), (1, .int (nI w))]) hx hb dX0_cut_19 rfl hl (by decide) rfl (fun ls hl => ?_)
    refine lv_aload_n hx hb dX0_cut_20 rfl (lv_at hl 1 rfl) ?_
    refine lv_dup hx hb dX0_cut_21 rfl ?_
    refine va_get (D := (dC, dI)) (ci := 0) (v := .int (nI oc)) (C := RX0) (T := TX0) (N := 5) hx hb hts sf_inX0 hown hK hP 1 rfl rfl 2 (by decide) (hts _ (sf_mem fl_X0_20 rfl)) (fun _ h9 => h9) rfl dX0_cut_22 ?_
    refine lv_iload_n hx hb dX0_cut_25 rfl (lv_at hl 2 rfl) ?_
    refine sf_iadd hx hb dX0_cut_26 ?_
    refine va_put (D := (dC, dI)) (ci := 0) (v := .int (nI (oc + w))) (ty := .int) (C := RX0) (T := TX0) (N := 5) hx hb hts sf_inX0 tyX0 tyX0_ok nmX0 hown hK hP hD hS 1 rfl rfl 2 (by decide) (hts _ (sf_mem fl_X0_20 rfl)) (fun _ h9 => h9) rfl (by decide +kernel) rfl rfl (Nat.le_of_ble_eq_true rfl) dX0_cut_27 (fun H locs hP hD hS => ?_)
    have hP : va_P (dC, dI) vwCl (sf_w a0 a1 a2 a3 cB cT LP gb md ct tb nm tk oc (oc + w) fs la g1 st1 ln bf af) H := hP
    have hD : va_D A (sf_w a0 a1 a2 a3 cB cT LP gb md ct tb nm tk oc (oc + w) fs la g1 st1 ln bf af) := hD
    refine lv_iload_n hx hb dX0_cut_30 rfl (lv_at hl 0 rfl) ?_
    exact W.iret (v := nI oc) hx hb hr (fun t ht hW => ⟨⟨_, (oc, g1, st1), rfl, ⟨rfl, by dsimp only; omega, p1, p2, p3⟩, by rw [ht]; exact hP, hD⟩, hS.F ht⟩) hS.2.2 dX0_cut_31
set_option maxHeartbeats 4000000 in
set_option maxRecDepth 100000 in
/-- lay(row, n): n bytes 0 at the end -/
theorem c_lay (l : Launch) (dC : Nat → ClassId) (dI : Nat → Nat → Nat) (a0 a1 a2 a3 : Nat) (cB cT : ClassId) (LP : List Nat) (gb : Option Nat) (md ct : Nat) (tb : Nat → Option Nat) (nm tk : Nat → Nat) (oc en : Nat) (fs la : Option Nat) (g : Nat → Int32) (st ln : Nat → Nat) (bf af : Nat → Option Nat) (sz : Nat) (cs : List Nat) (hM : sf_MI LP cs oc en fs la g st ln bf af) (a : Nat) (ha : a ∈ LP) (hac : a ∉ cs) (n : Nat) (hn : n ≤ 16384) (hw : oc + sf_P n ≤ 400000) : Met l yX0_lay wsX0_lay ({ frames := 3, cells := 0, slots := 0, locals := 90 } : Room) (sf_Pre (dC, dI) vwCl [(cB, .byte), (cT, .object "ByteShelf$Row")] [.ref a1, .ref a, .int (nI n)] (sf_w a0 a1 a2 a3 cB cT LP gb md ct tb nm tk oc en fs la g st ln bf af) sz) (va_Qv (fun (u : Nat × (Nat → Int32) × (Nat → Nat)) => sf_MI LP (cs ++ [a]) (oc + sf_P n) u.1 (sf_pk la (some a) fs) (some a) u.2.1 u.2.2 (va_up ln a n) (va_up bf a la) (sf_apA af la a) ∧ (∀ x, x ∈ cs → ∀ i, i < ln x → u.2.1 (u.2.2 x + i) = g (st x + i)) ∧ ∀ i, i < n → u.2.1 (u.2.2 a + i) = 0) (sf_E (dC, dI) vwCl (va_A (sf_w a0 a1 a2 a3 cB cT LP gb md ct tb nm tk oc en fs la g st ln bf af) sz) (fun (u : Nat × (Nat → Int32) × (Nat → Nat)) => sf_w a0 a1 a2 a3 cB cT LP gb md ct tb nm tk (oc + sf_P n) u.1 (sf_pk la (some a) fs) (some a) u.2.1 u.2.2 (va_up ln a n) (va_up bf a la) (sf_apA af la a))) (va_A (sf_w a0 a1 a2 a3 cB cT LP gb md ct tb nm tk oc en fs la g st ln bf af) sz)) 0 0 (va_A (sf_w a0 a1 a2 a3 cB cT LP gb md ct tb nm tk oc en fs la g st ln bf af) sz) := by
  refine Met.ofW (cc := cX0_lay) (maxL := 4) (ret := none) (by decide) rfl ?_
  intro p e s m args below meth c s₁ B hml hv
  obtain ⟨rfl, hsz, hP, hK, hD0, hN⟩ := hv
  have hx := B.exec
  have hb := B.bytes
  have hr := B.returns
  have hts := atoms_spec (ws := wsX0_lay) B.pre
  have hown : s.vm.findClass RX0 = some m.cls := findClass_of_methodNamed B.named
  have hlocks := B.notSynchronized
  subst hsz
  have hD := hD0.self (sz := s.heap.size)
  generalize hAe : va_A (sf_w a0 a1 a2 a3 cB cT LP gb md ct tb nm tk oc en fs la g st ln bf af) s.heap.size = A at hD ⊢
  have hA : ∀ q : Nat, s.heap.size ≤ q → A q := fun q h => by rw [← hAe]; exact Or.inr h
  have hS : va_S A s.heap s.heap [] := va_S.rf
  have hl := lv_entry ([.ref a1, .ref a, .int (nI n)]) (n := 4) (Nat.le_of_ble_eq_true rfl)
  rw [lg_entry_eq]
  generalize (lg_sl ([.ref a1, .ref a, .int (nI n)]) ++ List.replicate (4 - (lg_sl ([.ref a1, .ref a, .int (nI n)])).length) Slot.unset).toArray = ls at hl ⊢
  have hl : lv_has ls 4 [(0, .ref a1), (1, .ref a), (2, .int (nI n))] := hl
  have hPn2 := sf_P_ge n
  refine lv_iload_n hx hb dX0_lay_0 rfl (lv_at hl 2 rfl) ?_
  refine vp_callSi (va_Run.run (sf_runP (As := [.int (nI n)]) (rest := []) ⟨hx, hb, hml, hown, hts⟩ sf_has (c_placesFor l n (by omega)) hN co_X2_placesFor sm_X2_placesFor in_X2 k_X0_30 ⟨sf_blindT, sf_preT⟩ rfl hl.1 (Nat.le_of_ble_eq_true rfl) ⟨(Nat.le_of_ble_eq_true rfl), (Nat.le_of_ble_eq_true rfl)⟩ ⟨rfl, rfl⟩ ⟨Nat.zero_le _, Nat.zero_le _⟩ dX0_lay_1)) (fun r_1 h_1 => ?_)
  subst h_1
  refine lv_istore_n (lv' := [(3, .int (nI (sf_P n))), (0, .ref a1), (1, .ref a), (2, .int (nI n))]) hx hb dX0_lay_4 rfl hl (by decide) rfl (fun ls hl => ?_)
  refine lv_aload_n hx hb dX0_lay_5 rfl (lv_at hl 2 rfl) ?_
  refine lv_aload_n hx hb dX0_lay_6 rfl (lv_at hl 1 rfl) ?_
  refine lv_iload_n hx hb dX0_lay_7 rfl (lv_at hl 0 rfl) ?_
  refine sf_ci (sf_runV (b := a1) (As := [.int (nI (sf_P n))]) (rest := [.ref a]) ⟨hx, hb, hml, hown, hts⟩ sf_has (c_cut l dC dI a0 a1 a2 a3 cB cT LP gb md ct tb nm tk oc en fs la g st ln bf af _ cs hM (sf_P n) hw) k_X0_34 ⟨sf_blind, va_recv hK hP (ci := 0) (q0 := 1) rfl rfl, sf_preU hP hK hD hN⟩ rfl hl.1 (Nat.le_of_ble_eq_true rfl) ⟨(Nat.le_of_ble_eq_true rfl), (Nat.le_of_ble_eq_true rfl)⟩ ⟨rfl, rfl⟩ ⟨Nat.zero_le _, Nat.zero_le _⟩ dX0_lay_8) hD hS hA (fun r_8 u_8 H locs h_8 hP hD hS => ?_)
  obtain ⟨b, g1, st1⟩ := u_8
  obtain ⟨e_8, p2, p3, p4, p5⟩ := h_8
  dsimp only at e_8 p2 p3 p4 p5
  subst e_8
  have hP : va_P (dC, dI) vwCl (sf_w a0 a1 a2 a3 cB cT LP gb md ct tb nm tk oc (b + (sf_P n)) fs la g1 st1 ln bf af) H := hP
  have hD : va_D A (sf_w a0 a1 a2 a3 cB cT LP gb md ct tb nm tk oc (b + (sf_P n)) fs la g1 st1 ln bf af) := hD
  refine sf_rput (D := (dC, dI)) (ci := 1) (v := .int (nI b)) (ty := .int) (C := RX1) (T := TX1) (N := 6) hx hb hts sf_inX1 tyX1 tyX1_ok nmX1 hown hK hP hD hS ha rfl rfl 2 (by decide) (hts _ (sf_mem fl_X0_37 rfl)) (fun _ h9 => h9) rfl (by decide +kernel) rfl rfl (Nat.le_of_ble_eq_true rfl) (sf_rw_st b) dX0_lay_11 (fun H locs hP hD hS => ?_)
  have hP : va_P (dC, dI) vwCl (sf_w a0 a1 a2 a3 cB cT LP gb md ct tb nm tk oc (b + (sf_P n)) fs la g1 (va_up st1 a b) ln bf af) H := hP
  have hD : va_D A (sf_w a0 a1 a2 a3 cB cT LP gb md ct tb nm tk oc (b + (sf_P n)) fs la g1 (va_up st1 a b) ln bf af) := hD
  refine lv_aload_n hx hb dX0_lay_14 rfl (lv_at hl 2 rfl) ?_
  refine lv_iload_n hx hb dX0_lay_15 rfl (lv_at hl 3 rfl) ?_
  refine sf_rput (D := (dC, dI)) (ci := 1) (v := .int (nI n)) (ty := .int) (C := RX1) (T := TX1) (N := 6) hx hb hts sf_inX1 tyX1 tyX1_ok nmX1 hown hK hP hD hS ha rfl rfl 3 (by decide) (hts _ (sf_mem fl_X0_42 rfl)) (fun _ h9 => h9) rfl (by decide +kernel) rfl rfl (Nat.le_of_ble_eq_true rfl) (sf_rw_ln n) dX0_lay_16 (fun H locs hP hD hS => ?_)
  have hP : va_P (dC, dI) vwCl (sf_w a0 a1 a2 a3 cB cT LP gb md ct tb nm tk oc (b + (sf_P n)) fs la g1 (va_up st1 a b) (va_up ln a n) bf af) H := hP
  have hD : va_D A (sf_w a0 a1 a2 a3 cB cT LP gb md ct tb nm tk oc (b + (sf_P n)) fs la g1 (va_up st1 a b) (va_up ln a n) bf af) := hD
  refine lv_aload_n hx hb dX0_lay_19 rfl (lv_at hl 1 rfl) ?_
  refine lv_dup hx hb dX0_lay_20 rfl ?_
  refine va_get (D := (dC, dI)) (ci := 0) (v := .int (nI oc)) (C := RX0) (T := TX0) (N := 5) hx hb hts sf_inX0 hown hK hP 1 rfl rfl 1 (by decide) (hts _ (sf_mem fl_X0_16 rfl)) (fun _ h9 => h9) rfl dX0_lay_21 ?_
  refine lv_iload_n hx hb dX0_lay_24 rfl (lv_at hl 0 rfl) ?_
  refine sf_iadd hx hb dX0_lay_25 ?_
  refine va_put (D := (dC, dI)) (ci := 0) (v := .int (nI (oc + (sf_P n)))) (ty := .int) (C := RX0) (T := TX0) (N := 5) hx hb hts sf_inX0 tyX0 tyX0_ok nmX0 hown hK hP hD hS 1 rfl rfl 1 (by decide) (hts _ (sf_mem fl_X0_16 rfl)) (fun _ h9 => h9) rfl (by decide +kernel) rfl rfl (Nat.le_of_ble_eq_true rfl) dX0_lay_26 (fun H locs hP hD hS => ?_)
  have hP : va_P (dC, dI) vwCl (sf_w a0 a1 a2 a3 cB cT LP gb md ct tb nm tk (oc + (sf_P n)) (b + (sf_P n)) fs la g1 (va_up st1 a b) (va_up ln a n) bf af) H := hP
  have hD : va_D A (sf_w a0 a1 a2 a3 cB cT LP gb md ct tb nm tk (oc + (sf_P n)) (b + (sf_P n)) fs la g1 (va_up st1 a b) (va_up ln a n) bf af) := hD
  refine lv_aload_n hx hb dX0_lay_29 rfl (lv_at hl 1 rfl) ?_
  refine va_get (D := (dC, dI)) (ci := 0) (v := .ref a2) (C := RX0) (T := TX0) (N := 5) hx hb hts sf_inX0 hown hK hP 1 rfl rfl 0 (by decide) (hts _ (sf_mem fl_X0_10 rfl)) (fun _ h9 => h9) rfl dX0_lay_30 ?_
  refine lv_aload_n hx hb dX0_lay_33 rfl (lv_at hl 2 rfl) ?_
  refine sf_rget (D := (dC, dI)) (ci := 1) (v := .int (nI ((va_up st1 a b) a))) (C := RX1) (T := TX1) (N := 6) hx hb hts sf_inX1 hown hK hP ha rfl rfl 2 (by decide) (hts _ (sf_mem fl_X0_37 rfl)) (fun _ h9 => h9) rfl dX0_lay_34 ?_
  rw [va_up_self]
  refine lv_aload_n hx hb dX0_lay_37 rfl (lv_at hl 2 rfl) ?_
  refine sf_rget (D := (dC, dI)) (ci := 1) (v := .int (nI ((va_up st1 a b) a))) (C := RX1) (T := TX1) (N := 6) hx hb hts sf_inX1 hown hK hP ha rfl rfl 2 (by decide) (hts _ (sf_mem fl_X0_37 rfl)) (fun _ h9 => h9) rfl dX0_lay_38 ?_
  rw [va_up_self]
  refine lv_iload_n hx hb dX0_lay_41 rfl (lv_at hl 3 rfl) ?_
  refine sf_iadd hx hb dX0_lay_42 ?_
  refine lv_iconst (v := nI 0) hx hb dX0_lay_43 (by decide) ?_
  refine sf_cv (sf_runS (As := [.ref a2, .int (nI b), .int (nI (b + n)), .int (nI 0)]) (rest := []) ⟨hx, hb, hml, hown, hts⟩ sf_has (c_fill0 l dC dI [(cB, .byte), (cT, .object "ByteShelf$Row")] (sf_w a0 a1 a2 a3 cB cT LP gb md ct tb nm tk (oc + (sf_P n)) (b + (sf_P n)) fs la g1 (va_up st1 a b) (va_up ln a n) bf af) _ a2 cB 400000 g1 2 0 b (b + n) rfl rfl (by omega) (by omega) (by decide)) k_X0_45 ⟨sf_blind, sf_preU hP hK hD hN⟩ rfl hl.1 (Nat.le_of_ble_eq_true rfl) ⟨(Nat.le_of_ble_eq_true rfl), (Nat.le_of_ble_eq_true rfl)⟩ ⟨rfl, rfl⟩ ⟨Nat.zero_le _, Nat.zero_le _⟩ dX0_lay_44) hD hS hA (fun u_44 H locs h_44 hP hD hS => ?_)
  have hP : va_P (dC, dI) vwCl (sf_w a0 a1 a2 a3 cB cT LP gb md ct tb nm tk (oc + (sf_P n)) (b + (sf_P n)) fs la u_44 (va_up st1 a b) (va_up ln a n) bf af) H := hP
  have hD : va_D A (sf_w a0 a1 a2 a3 cB cT LP gb md ct tb nm tk (oc + (sf_P n)) (b + (sf_P n)) fs la u_44 (va_up st1 a b) (va_up ln a n) bf af) := hD
  refine lv_aload_n hx hb dX0_lay_47 rfl (lv_at hl 1 rfl) ?_
  refine lv_aload_n hx hb dX0_lay_48 rfl (lv_at hl 2 rfl) ?_
  refine sf_cv (sf_runV (b := a1) (As := [.ref a]) (rest := []) ⟨hx, hb, hml, hown, hts⟩ sf_has (c_append l dC dI a0 a1 a2 a3 cB cT LP gb md ct tb nm tk (oc + (sf_P n)) (b + (sf_P n)) fs la u_44 (va_up st1 a b) (va_up ln a n) bf af _ a ha (sf_MI_la hM)) k_X0_51 ⟨sf_blind, va_recv hK hP (ci := 0) (q0 := 1) rfl rfl, sf_preU hP hK hD hN⟩ rfl hl.1 (Nat.le_of_ble_eq_true rfl) ⟨(Nat.le_of_ble_eq_true rfl), (Nat.le_of_ble_eq_true rfl)⟩ ⟨rfl, rfl⟩ ⟨Nat.zero_le _, Nat.zero_le _⟩ dX0_lay_49) hD hS hA (fun u_49 H locs h_49 hP hD hS => ?_)
  have hP : va_P (dC, dI) vwCl (sf_w a0 a1 a2 a3 cB cT LP gb md ct tb nm tk (oc + (sf_P n)) (b + (sf_P n)) (sf_pk la (some a) fs) (some a) u_44 (va_up st1 a b) (va_up ln a n) (va_up bf a la) (sf_apA af la a)) H := hP
  have hD : va_D A (sf_w a0 a1 a2 a3 cB cT LP gb md ct tb nm tk (oc + (sf_P n)) (b + (sf_P n)) (sf_pk la (some a) fs) (some a) u_44 (va_up st1 a b) (va_up ln a n) (va_up bf a la) (sf_apA af la a)) := hD
  exact W.vret hx hb hr (fun t ht hW => ⟨⟨(b + sf_P n, u_44, va_up st1 a b), rfl, sf_lay_post hM hac ha hn p2 p3 p4 p5 h_44, by rw [ht]; exact hP, hD⟩, hS.F ht⟩) hS.2.2 dX0_lay_52
set_option maxHeartbeats 4000000 in
set_option maxRecDepth 100000 in
/-- lift(row): out of the chain, its places free -/
theorem c_lift (l : Launch) (dC : Nat → ClassId) (dI : Nat → Nat → Nat) (a0 a1 a2 a3 : Nat) (cB cT : ClassId) (LP : List Nat) (gb : Option Nat) (md ct : Nat) (tb : Nat → Option Nat) (nm tk : Nat → Nat) (oc en : Nat) (fs la : Option Nat) (g : Nat → Int32) (st ln : Nat → Nat) (bf af : Nat → Option Nat) (sz : Nat) (l1 r1 : List Nat) (a : Nat) (hM : sf_MI LP (l1 ++ a :: r1) oc en fs la g st ln bf af) : Met l yX0_lift wsX0_lift ({ frames := 1, cells := 0, slots := 0, locals := 30 } : Room) (sf_Pre (dC, dI) vwCl [(cB, .byte), (cT, .object "ByteShelf$Row")] [.ref a1, .ref a] (sf_w a0 a1 a2 a3 cB cT LP gb md ct tb nm tk oc en fs la g st ln bf af) sz) (va_Qv (fun _ => True) (sf_E (dC, dI) vwCl (va_A (sf_w a0 a1 a2 a3 cB cT LP gb md ct tb nm tk oc en fs la g st ln bf af) sz) (fun (u : Unit) => sf_w a0 a1 a2 a3 cB cT LP gb md ct tb nm tk (oc - sf_P (ln a)) en (sf_pk (bf a) (af a) fs) (sf_pk (af a) (bf a) la) g st ln (sf_unA bf (af a) (bf a)) (sf_unA af (bf a) (af a)))) (va_A (sf_w a0 a1 a2 a3 cB cT LP gb md ct tb nm tk oc en fs la g st ln bf af) sz)) 0 0 (va_A (sf_w a0 a1 a2 a3 cB cT LP gb md ct tb nm tk oc en fs la g st ln bf af) sz) := by
  refine Met.ofW (cc := cX0_lift) (maxL := 2) (ret := none) (by decide) rfl ?_
  intro p e s m args below meth c s₁ B hml hv
  obtain ⟨rfl, hsz, hP, hK, hD0, hN⟩ := hv
  have hx := B.exec
  have hb := B.bytes
  have hr := B.returns
  have hts := atoms_spec (ws := wsX0_lift) B.pre
  have hown : s.vm.findClass RX0 = some m.cls := findClass_of_methodNamed B.named
  have hlocks := B.notSynchronized
  subst hsz
  have hD := hD0.self (sz := s.heap.size)
  generalize hAe : va_A (sf_w a0 a1 a2 a3 cB cT LP gb md ct tb nm tk oc en fs la g st ln bf af) s.heap.size = A at hD ⊢
  have hA : ∀ q : Nat, s.heap.size ≤ q → A q := fun q h => by rw [← hAe]; exact Or.inr h
  have hS : va_S A s.heap s.heap [] := va_S.rf
  have hl := lv_entry ([.ref a1, .ref a]) (n := 2) (Nat.le_of_ble_eq_true rfl)
  rw [lg_entry_eq]
  generalize (lg_sl ([.ref a1, .ref a]) ++ List.replicate (2 - (lg_sl ([.ref a1, .ref a])).length) Slot.unset).toArray = ls at hl ⊢
  have hl : lv_has ls 2 [(0, .ref a1), (1, .ref a)] := hl
  obtain ⟨ha, hs1, hs2, hs3, hs4⟩ := sf_MI_st hM (a := a) (by simp)
  obtain ⟨hoc1, hen⟩ := sf_MI_oc hM
  refine lv_aload_n hx hb dX0_lift_0 rfl (lv_at hl 0 rfl) ?_
  refine lv_aload_n hx hb dX0_lift_1 rfl (lv_at hl 1 rfl) ?_
  refine sf_cv (sf_runV (b := a1) (As := [.ref a]) (rest := []) ⟨hx, hb, hml, hown, hts⟩ sf_has (c_unlink l dC dI a0 a1 a2 a3 cB cT LP gb md ct tb nm tk oc en fs la g st ln bf af _ a ha (bf a) (af a) rfl rfl (sf_MI_nb hM).1 (sf_MI_nb hM).2) k_X0_55 ⟨sf_blind, va_recv hK hP (ci := 0) (q0 := 1) rfl rfl, sf_preU hP hK hD hN⟩ rfl hl.1 (Nat.le_of_ble_eq_true rfl) ⟨(Nat.le_of_ble_eq_true rfl), (Nat.le_of_ble_eq_true rfl)⟩ ⟨rfl, rfl⟩ ⟨Nat.zero_le _, Nat.zero_le _⟩ dX0_lift_2) hD hS hA (fun u_2 H locs h_2 hP hD hS => ?_)
  have hP : va_P (dC, dI) vwCl (sf_w a0 a1 a2 a3 cB cT LP gb md ct tb nm tk oc en (sf_pk (bf a) (af a) fs) (sf_pk (af a) (bf a) la) g st ln (sf_unA bf (af a) (bf a)) (sf_unA af (bf a) (af a))) H := hP
  have hD : va_D A (sf_w a0 a1 a2 a3 cB cT LP gb md ct tb nm tk oc en (sf_pk (bf a) (af a) fs) (sf_pk (af a) (bf a) la) g st ln (sf_unA bf (af a) (bf a)) (sf_unA af (bf a) (af a))) := hD
  refine lv_aload_n hx hb dX0_lift_5 rfl (lv_at hl 0 rfl) ?_
  refine lv_dup hx hb dX0_lift_6 rfl ?_
  refine va_get (D := (dC, dI)) (ci := 0) (v := .int (nI oc)) (C := RX0) (T := TX0) (N := 5) hx hb hts sf_inX0 hown hK hP 1 rfl rfl 1 (by decide) (hts _ (sf_mem fl_X0_16 rfl)) (fun _ h9 => h9) rfl dX0_lift_7 ?_
  refine lv_aload_n hx hb dX0_lift_10 rfl (lv_at hl 1 rfl) ?_
  refine sf_rget (D := (dC, dI)) (ci := 1) (v := .int (nI (ln a))) (C := RX1) (T := TX1) (N := 6) hx hb hts sf_inX1 hown hK hP ha rfl rfl 3 (by decide) (hts _ (sf_mem fl_X0_42 rfl)) (fun _ h9 => h9) rfl dX0_lift_11 ?_
  refine vp_callSi (va_Run.run (sf_runP (As := [.int (nI (ln a))]) (rest := [.int (nI oc), .ref a1]) ⟨hx, hb, hml, hown, hts⟩ sf_has (c_placesFor l (ln a) (by omega)) hN co_X2_placesFor sm_X2_placesFor in_X2 k_X0_30 ⟨sf_blindT, sf_preT⟩ rfl hl.1 (Nat.le_of_ble_eq_true rfl) ⟨(Nat.le_of_ble_eq_true rfl), (Nat.le_of_ble_eq_true rfl)⟩ ⟨rfl, rfl⟩ ⟨Nat.zero_le _, Nat.zero_le _⟩ dX0_lift_14)) (fun r_14 h_14 => ?_)
  subst h_14
  refine sf_isub hx hb (by omega) dX0_lift_17 ?_
  refine va_put (D := (dC, dI)) (ci := 0) (v := .int (nI (oc - (sf_P (ln a))))) (ty := .int) (C := RX0) (T := TX0) (N := 5) hx hb hts sf_inX0 tyX0 tyX0_ok nmX0 hown hK hP hD hS 1 rfl rfl 1 (by decide) (hts _ (sf_mem fl_X0_16 rfl)) (fun _ h9 => h9) rfl (by decide +kernel) rfl rfl (Nat.le_of_ble_eq_true rfl) dX0_lift_18 (fun H locs hP hD hS => ?_)
  have hP : va_P (dC, dI) vwCl (sf_w a0 a1 a2 a3 cB cT LP gb md ct tb nm tk (oc - (sf_P (ln a))) en (sf_pk (bf a) (af a) fs) (sf_pk (af a) (bf a) la) g st ln (sf_unA bf (af a) (bf a)) (sf_unA af (bf a) (af a))) H := hP
  have hD : va_D A (sf_w a0 a1 a2 a3 cB cT LP gb md ct tb nm tk (oc - (sf_P (ln a))) en (sf_pk (bf a) (af a) fs) (sf_pk (af a) (bf a) la) g st ln (sf_unA bf (af a) (bf a)) (sf_unA af (bf a) (af a))) := hD
  exact W.vret hx hb hr (fun t ht hW => ⟨⟨(), rfl, trivial, by rw [ht]; exact hP, hD⟩, hS.F ht⟩) hS.2.2 dX0_lift_21
theorem sf_move_post {LP l1 r1 : List Nat} {oc en b w a : Nat} {fs la : Option Nat} {g g1 : Nat → Int32} {st st1 ln : Nat → Nat} {bf af : Nat → Option Nat} (hM : sf_MI LP (l1 ++ a :: r1) oc en fs la g st ln bf af) (p2 : b + w ≤ 400000) (p3 : sf_lay st1 ln 0 (l1 ++ a :: r1) b) (p4 : ∀ x, x ∈ l1 ++ a :: r1 → ∀ i, i < ln x → g1 (st1 x + i) = g (st x + i)) (p5 : sb_Fit g1) (hlw : ln a ≤ w) :
    b + w ≤ 400000 ∧ va_up st1 a b a = b ∧ sf_lay (va_up st1 a b) ln 0 (l1 ++ r1) b ∧ (∀ x, x ∈ l1 ++ a :: r1 → ∀ i, i < ln x → va_cpy g1 g1 (st1 a) b (ln a) (va_up st1 a b x + i) = g (st x + i)) ∧ sb_Fit (va_cpy g1 g1 (st1 a) b (ln a)) := by
  obtain ⟨n1, n2, n3, n4⟩ := sf_nd_mid hM.1
  refine ⟨p2, va_up_self _ _ _, sf_lay_congr (sf_lay_un p3) (fun x hx => ⟨va_up_ne _ _ (fun q => (List.mem_append.mp hx).elim (fun h => n1 (q ▸ h)) (fun h => n2 (q ▸ h))), Nat.le_refl _⟩), ?_, sb_fitC p5 p5⟩
  intro x hx i hi
  by_cases q : x = a
  · subst q
    rw [va_up_self, pk_cpy_in (by omega) (by omega), Nat.add_sub_cancel_left]
    exact p4 x hx i hi
  · have q1 := (sf_lay_in p3 hx).2
    have q2 := sf_P_ge (ln x)
    rw [va_up_ne _ _ q, pk_cpy_out (by omega)]
    exact p4 x hx i hi
set_option maxHeartbeats 4000000 in
set_option maxRecDepth 100000 in
/-- move(row, w): to new places at the end -/
theorem c_move (l : Launch) (dC : Nat → ClassId) (dI : Nat → Nat → Nat) (a0 a1 a2 a3 : Nat) (cB cT : ClassId) (LP : List Nat) (gb : Option Nat) (md ct : Nat) (tb : Nat → Option Nat) (nm tk : Nat → Nat) (oc en : Nat) (fs la : Option Nat) (g : Nat → Int32) (st ln : Nat → Nat) (bf af : Nat → Option Nat) (sz : Nat) (l1 r1 : List Nat) (a : Nat) (hM : sf_MI LP (l1 ++ a :: r1) oc en fs la g st ln bf af) (w : Nat) (hw : oc + w ≤ 400000) (hlw : ln a ≤ w) : Met l yX0_move wsX0_move ({ frames := 3, cells := 0, slots := 0, locals := 90 } : Room) (sf_Pre (dC, dI) vwCl [(cB, .byte), (cT, .object "ByteShelf$Row")] [.ref a1, .ref a, .int (nI w)] (sf_w a0 a1 a2 a3 cB cT LP gb md ct tb nm tk oc en fs la g st ln bf af) sz) (va_Qv (fun (u : Nat × (Nat → Int32) × (Nat → Nat)) => u.1 + w ≤ 400000 ∧ u.2.2 a = u.1 ∧ sf_lay u.2.2 ln 0 (l1 ++ r1) u.1 ∧ (∀ x, x ∈ l1 ++ a :: r1 → ∀ i, i < ln x → u.2.1 (u.2.2 x + i) = g (st x + i)) ∧ sb_Fit u.2.1) (sf_E (dC, dI) vwCl (va_A (sf_w a0 a1 a2 a3 cB cT LP gb md ct tb nm tk oc en fs la g st ln bf af) sz) (fun (u : Nat × (Nat → Int32) × (Nat → Nat)) => sf_w a0 a1 a2 a3 cB cT LP gb md ct tb nm tk oc (u.1 + w) (sf_pk (sf_pk (af a) (bf a) la) (some a) (sf_pk (bf a) (af a) fs)) (some a) u.2.1 u.2.2 ln (va_up (sf_unA bf (af a) (bf a)) a (sf_pk (af a) (bf a) la)) (sf_apA (sf_unA af (bf a) (af a)) (sf_pk (af a) (bf a) la) a))) (va_A (sf_w a0 a1 a2 a3 cB cT LP gb md ct tb nm tk oc en fs la g st ln bf af) sz)) 0 0 (va_A (sf_w a0 a1 a2 a3 cB cT LP gb md ct tb nm tk oc en fs la g st ln bf af) sz) := by
  refine Met.ofW (cc := cX0_move) (maxL := 4) (ret := none) (by decide) rfl ?_
  intro p e s m args below meth c s₁ B hml hv
  obtain ⟨rfl, hsz, hP, hK, hD0, hN⟩ := hv
  have hx := B.exec
  have hb := B.bytes
  have hr := B.returns
  have hts := atoms_spec (ws := wsX0_move) B.pre
  have hown : s.vm.findClass RX0 = some m.cls := findClass_of_methodNamed B.named
  have hlocks := B.notSynchronized
  subst hsz
  have hD := hD0.self (sz := s.heap.size)
  generalize hAe : va_A (sf_w a0 a1 a2 a3 cB cT LP gb md ct tb nm tk oc en fs la g st ln bf af) s.heap.size = A at hD ⊢
  have hA : ∀ q : Nat, s.heap.size ≤ q → A q := fun q h => by rw [← hAe]; exact Or.inr h
  have hS : va_S A s.heap s.heap [] := va_S.rf
  have hl := lv_entry ([.ref a1, .ref a, .int (nI w)]) (n := 4) (Nat.le_of_ble_eq_true rfl)
  rw [lg_entry_eq]
  generalize (lg_sl ([.ref a1, .ref a, .int (nI w)]) ++ List.replicate (4 - (lg_sl ([.ref a1, .ref a, .int (nI w)])).length) Slot.unset).toArray = ls at hl ⊢
  have hl : lv_has ls 4 [(0, .ref a1), (1, .ref a), (2, .int (nI w))] := hl
  obtain ⟨ha, hs1, hs2, hs3, hs4⟩ := sf_MI_st hM (a := a) (by simp)
  obtain ⟨hoc1, hen⟩ := sf_MI_oc hM
  refine lv_aload_n hx hb dX0_move_0 rfl (lv_at hl 0 rfl) ?_
  refine lv_iload_n hx hb dX0_move_1 rfl (lv_at hl 2 rfl) ?_
  refine sf_ci (sf_runV (b := a1) (As := [.int (nI w)]) (rest := []) ⟨hx, hb, hml, hown, hts⟩ sf_has (c_cut l dC dI a0 a1 a2 a3 cB cT LP gb md ct tb nm tk oc en fs la g st ln bf af _ (l1 ++ a :: r1) hM w hw) k_X0_34 ⟨sf_blind, va_recv hK hP (ci := 0) (q0 := 1) rfl rfl, sf_preU hP hK hD hN⟩ rfl hl.1 (Nat.le_of_ble_eq_true rfl) ⟨(Nat.le_of_ble_eq_true rfl), (Nat.le_of_ble_eq_true rfl)⟩ ⟨rfl, rfl⟩ ⟨Nat.zero_le _, Nat.zero_le _⟩ dX0_move_2) hD hS hA (fun r_2 u_2 H locs h_2 hP hD hS => ?_)
  obtain ⟨b, g1, st1⟩ := u_2
  obtain ⟨e_2, p2, p3, p4, p5⟩ := h_2
  dsimp only at e_2 p2 p3 p4 p5
  subst e_2
  have hP : va_P (dC, dI) vwCl (sf_w a0 a1 a2 a3 cB cT LP gb md ct tb nm tk oc (b + w) fs la g1 st1 ln bf af) H := hP
  have hD : va_D A (sf_w a0 a1 a2 a3 cB cT LP gb md ct tb nm tk oc (b + w) fs la g1 st1 ln bf af) := hD
  have q1 := (sf_lay_in p3 (a := a) (by simp)).2
  have q2 := sf_P_ge (ln a)
  refine lv_istore_n (lv' := [(3, .int (nI b)), (0, .ref a1), (1, .ref a), (2, .int (nI w))]) hx hb dX0_move_5 rfl hl (by decide) rfl (fun ls hl => ?_)
  refine lv_aload_n hx hb dX0_move_6 rfl (lv_at hl 1 rfl) ?_
  refine va_get (D := (dC, dI)) (ci := 0) (v := .ref a2) (C := RX0) (T := TX0) (N := 5) hx hb hts sf_inX0 hown hK hP 1 rfl rfl 0 (by decide) (hts _ (sf_mem fl_X0_10 rfl)) (fun _ h9 => h9) rfl dX0_move_7 ?_
  refine lv_aload_n hx hb dX0_move_10 rfl (lv_at hl 2 rfl) ?_
  refine sf_rget (D := (dC, dI)) (ci := 1) (v := .int (nI (st1 a))) (C := RX1) (T := TX1) (N := 6) hx hb hts sf_inX1 hown hK hP ha rfl rfl 2 (by decide) (hts _ (sf_mem fl_X0_37 rfl)) (fun _ h9 => h9) rfl dX0_move_11 ?_
  refine lv_aload_n hx hb dX0_move_14 rfl (lv_at hl 1 rfl) ?_
  refine va_get (D := (dC, dI)) (ci := 0) (v := .ref a2) (C := RX0) (T := TX0) (N := 5) hx hb hts sf_inX0 hown hK hP 1 rfl rfl 0 (by decide) (hts _ (sf_mem fl_X0_10 rfl)) (fun _ h9 => h9) rfl dX0_move_15 ?_
  refine lv_iload_n hx hb dX0_move_18 rfl (lv_at hl 0 rfl) ?_
  refine lv_aload_n hx hb dX0_move_19 rfl (lv_at hl 2 rfl) ?_
  refine sf_rget (D := (dC, dI)) (ci := 1) (v := .int (nI (ln a))) (C := RX1) (T := TX1) (N := 6) hx hb hts sf_inX1 hown hK hP ha rfl rfl 3 (by decide) (hts _ (sf_mem fl_X0_42 rfl)) (fun _ h9 => h9) rfl dX0_move_20 ?_
  refine sf_copy hx hb (hml.trans hl.1.symm) hown hts sf_has ml_X0_66 hK hP hD hS 2 0 rfl rfl (by decide) (by omega) (by omega) p5 (Nat.le_of_ble_eq_true rfl) (Nat.le_of_ble_eq_true rfl) dX0_move_23 (fun H locs hP hD hS => ?_)
  have hP : va_P (dC, dI) vwCl (sf_w a0 a1 a2 a3 cB cT LP gb md ct tb nm tk oc (b + w) fs la (va_cpy g1 g1 (st1 a) b (ln a)) st1 ln bf af) H := hP
  have hD : va_D A (sf_w a0 a1 a2 a3 cB cT LP gb md ct tb nm tk oc (b + w) fs la (va_cpy g1 g1 (st1 a) b (ln a)) st1 ln bf af) := hD
  refine lv_aload_n hx hb dX0_move_26 rfl (lv_at hl 2 rfl) ?_
  refine lv_iload_n hx hb dX0_move_27 rfl (lv_at hl 0 rfl) ?_
  refine sf_rput (D := (dC, dI)) (ci := 1) (v := .int (nI b)) (ty := .int) (C := RX1) (T := TX1) (N := 6) hx hb hts sf_inX1 tyX1 tyX1_ok nmX1 hown hK hP hD hS ha rfl rfl 2 (by decide) (hts _ (sf_mem fl_X0_37 rfl)) (fun _ h9 => h9) rfl (by decide +kernel) rfl rfl (Nat.le_of_ble_eq_true rfl) (sf_rw_st b) dX0_move_28 (fun H locs hP hD hS => ?_)
  have hP : va_P (dC, dI) vwCl (sf_w a0 a1 a2 a3 cB cT LP gb md ct tb nm tk oc (b + w) fs la (va_cpy g1 g1 (st1 a) b (ln a)) (va_up st1 a b) ln bf af) H := hP
  have hD : va_D A (sf_w a0 a1 a2 a3 cB cT LP gb md ct tb nm tk oc (b + w) fs la (va_cpy g1 g1 (st1 a) b (ln a)) (va_up st1 a b) ln bf af) := hD
  refine lv_aload_n hx hb dX0_move_31 rfl (lv_at hl 1 rfl) ?_
  refine lv_aload_n hx hb dX0_move_32 rfl (lv_at hl 2 rfl) ?_
  refine sf_cv (sf_runV (b := a1) (As := [.ref a]) (rest := []) ⟨hx, hb, hml, hown, hts⟩ sf_has (c_unlink l dC dI a0 a1 a2 a3 cB cT LP gb md ct tb nm tk oc (b + w) fs la (va_cpy g1 g1 (st1 a) b (ln a)) (va_up st1 a b) ln bf af _ a ha (bf a) (af a) rfl rfl (sf_MI_nb hM).1 (sf_MI_nb hM).2) k_X0_55 ⟨sf_blind, va_recv hK hP (ci := 0) (q0 := 1) rfl rfl, sf_preU hP hK hD hN⟩ rfl hl.1 (Nat.le_of_ble_eq_true rfl) ⟨(Nat.le_of_ble_eq_true rfl), (Nat.le_of_ble_eq_true rfl)⟩ ⟨rfl, rfl⟩ ⟨Nat.zero_le _, Nat.zero_le _⟩ dX0_move_33) hD hS hA (fun u_33 H locs h_33 hP hD hS => ?_)
  have hP : va_P (dC, dI) vwCl (sf_w a0 a1 a2 a3 cB cT LP gb md ct tb nm tk oc (b + w) (sf_pk (bf a) (af a) fs) (sf_pk (af a) (bf a) la) (va_cpy g1 g1 (st1 a) b (ln a)) (va_up st1 a b) ln (sf_unA bf (af a) (bf a)) (sf_unA af (bf a) (af a))) H := hP
  have hD : va_D A (sf_w a0 a1 a2 a3 cB cT LP gb md ct tb nm tk oc (b + w) (sf_pk (bf a) (af a) fs) (sf_pk (af a) (bf a) la) (va_cpy g1 g1 (st1 a) b (ln a)) (va_up st1 a b) ln (sf_unA bf (af a) (bf a)) (sf_unA af (bf a) (af a))) := hD
  refine lv_aload_n hx hb dX0_move_36 rfl (lv_at hl 1 rfl) ?_
  refine lv_aload_n hx hb dX0_move_37 rfl (lv_at hl 2 rfl) ?_
  refine sf_cv (sf_runV (b := a1) (As := [.ref a]) (rest := []) ⟨hx, hb, hml, hown, hts⟩ sf_has (c_append l dC dI a0 a1 a2 a3 cB cT LP gb md ct tb nm tk oc (b + w) (sf_pk (bf a) (af a) fs) (sf_pk (af a) (bf a) la) (va_cpy g1 g1 (st1 a) b (ln a)) (va_up st1 a b) ln (sf_unA bf (af a) (bf a)) (sf_unA af (bf a) (af a)) _ a ha (sf_MI_la (sf_MI_un hM).2.2)) k_X0_51 ⟨sf_blind, va_recv hK hP (ci := 0) (q0 := 1) rfl rfl, sf_preU hP hK hD hN⟩ rfl hl.1 (Nat.le_of_ble_eq_true rfl) ⟨(Nat.le_of_ble_eq_true rfl), (Nat.le_of_ble_eq_true rfl)⟩ ⟨rfl, rfl⟩ ⟨Nat.zero_le _, Nat.zero_le _⟩ dX0_move_38) hD hS hA (fun u_38 H locs h_38 hP hD hS => ?_)
  have hP : va_P (dC, dI) vwCl (sf_w a0 a1 a2 a3 cB cT LP gb md ct tb nm tk oc (b + w) (sf_pk (sf_pk (af a) (bf a) la) (some a) (sf_pk (bf a) (af a) fs)) (some a) (va_cpy g1 g1 (st1 a) b (ln a)) (va_up st1 a b) ln (va_up (sf_unA bf (af a) (bf a)) a (sf_pk (af a) (bf a) la)) (sf_apA (sf_unA af (bf a) (af a)) (sf_pk (af a) (bf a) la) a)) H := hP
  have hD : va_D A (sf_w a0 a1 a2 a3 cB cT LP gb md ct tb nm tk oc (b + w) (sf_pk (sf_pk (af a) (bf a) la) (some a) (sf_pk (bf a) (af a) fs)) (some a) (va_cpy g1 g1 (st1 a) b (ln a)) (va_up st1 a b) ln (va_up (sf_unA bf (af a) (bf a)) a (sf_pk (af a) (bf a) la)) (sf_apA (sf_unA af (bf a) (af a)) (sf_pk (af a) (bf a) la) a)) := hD
  exact W.vret hx hb hr (fun t ht hW => ⟨⟨(b, va_cpy g1 g1 (st1 a) b (ln a), va_up st1 a b), rfl, sf_move_post hM p2 p3 p4 p5 hlw, by rw [ht]; exact hP, hD⟩, hS.F ht⟩) hS.2.2 dX0_move_41
set_option maxHeartbeats 4000000 in
set_option maxRecDepth 100000 in
/-- setLength(row, n) -/
theorem c_setLength (l : Launch) (dC : Nat → ClassId) (dI : Nat → Nat → Nat) (a0 a1 a2 a3 : Nat) (cB cT : ClassId) (LP : List Nat) (gb : Option Nat) (md ct : Nat) (tb : Nat → Option Nat) (nm tk : Nat → Nat) (oc en : Nat) (fs la : Option Nat) (g : Nat → Int32) (st ln : Nat → Nat) (bf af : Nat → Option Nat) (sz : Nat) (cs : List Nat) (hM : sf_MI LP cs oc en fs la g st ln bf af) (a : Nat) (hac : a ∈ cs) (n : Nat) (hn : n ≤ 16384) : Met l yX0_setLength wsX0_setLength ({ frames := 4, cells := 0, slots := 0, locals := 120 } : Room) (sf_Pre (dC, dI) vwCl [(cB, .byte), (cT, .object "ByteShelf$Row")] [.ref a1, .ref a, .int (nI n)] (sf_w a0 a1 a2 a3 cB cT LP gb md ct tb nm tk oc en fs la g st ln bf af) sz) (va_Qi (fun (r : Int32) (u : List Nat × sf_M) => (r = nI 0 ∧ sf_P (ln a) < sf_P n ∧ 400000 < oc + sf_P n ∧ u = (cs, oc, en, fs, la, g, st, ln, bf, af)) ∨ (r = nI 1 ∧ (sf_P n ≤ sf_P (ln a) ∨ oc + sf_P n ≤ 400000) ∧ sf_SL LP cs a n oc g st ln af u)) (sf_E (dC, dI) vwCl (va_A (sf_w a0 a1 a2 a3 cB cT LP gb md ct tb nm tk oc en fs la g st ln bf af) sz) (fun (u : List Nat × sf_M) => sf_w a0 a1 a2 a3 cB cT LP gb md ct tb nm tk u.2.1 u.2.2.1 u.2.2.2.1 u.2.2.2.2.1 u.2.2.2.2.2.1 u.2.2.2.2.2.2.1 u.2.2.2.2.2.2.2.1 u.2.2.2.2.2.2.2.2.1 u.2.2.2.2.2.2.2.2.2)) (va_A (sf_w a0 a1 a2 a3 cB cT LP gb md ct tb nm tk oc en fs la g st ln bf af) sz)) 0 0 (va_A (sf_w a0 a1 a2 a3 cB cT LP gb md ct tb nm tk oc en fs la g st ln bf af) sz) := by
  refine Met.ofW (cc := cX0_setLength) (maxL := 5) (ret := (some .boolean)) (by decide) rfl ?_
  intro p e s m args below meth c s₁ B hml hv
  obtain ⟨rfl, hsz, hP, hK, hD0, hN⟩ := hv
  have hx := B.exec
  have hb := B.bytes
  have hr := B.returns
  have hts := atoms_spec (ws := wsX0_setLength) B.pre
  have hown : s.vm.findClass RX0 = some m.cls := findClass_of_methodNamed B.named
  have hlocks := B.notSynchronized
  subst hsz
  have hD := hD0.self (sz := s.heap.size)
  generalize hAe : va_A (sf_w a0 a1 a2 a3 cB cT LP gb md ct tb nm tk oc en fs la g st ln bf af) s.heap.size = A at hD ⊢
  have hA : ∀ q : Nat, s.heap.size ≤ q → A q := fun q h => by rw [← hAe]; exact Or.inr h
  have hS : va_S A s.heap s.heap [] := va_S.rf
  have hl := lv_entry ([.ref a1, .ref a, .int (nI n)]) (n := 5) (Nat.le_of_ble_eq_true rfl)
  rw [lg_entry_eq]
  generalize (lg_sl ([.ref a1, .ref a, .int (nI n)]) ++ List.replicate (5 - (lg_sl ([.ref a1, .ref a, .int (nI n)])).length) Slot.unset).toArray = ls at hl ⊢
  have hl : lv_has ls 5 [(0, .ref a1), (1, .ref a), (2, .int (nI n))] := hl
  obtain ⟨ha, hs1, hs2, hs3, hs4⟩ := sf_MI_st hM hac
  obtain ⟨hoc1, hen⟩ := sf_MI_oc hM
  have hPn := sf_P_le hn
  have hPn2 := sf_P_ge n
  have hPa := sf_P_le hs3
  have hPa2 := sf_P_ge (ln a)
  refine lv_aload_n hx hb dX0_setLength_0 rfl (lv_at hl 1 rfl) ?_
  refine sf_rget (D := (dC, dI)) (ci := 1) (v := .int (nI (ln a))) (C := RX1) (T := TX1) (N := 6) hx hb hts sf_inX1 hown hK hP ha rfl rfl 3 (by decide) (hts _ (sf_mem fl_X0_42 rfl)) (fun _ h9 => h9) rfl dX0_setLength_1 ?_
  refine vp_callSi (va_Run.run (sf_runP (As := [.int (nI (ln a))]) (rest := []) ⟨hx, hb, hml, hown, hts⟩ sf_has (c_placesFor l (ln a) (by omega)) hN co_X2_placesFor sm_X2_placesFor in_X2 k_X0_30 ⟨sf_blindT, sf_preT⟩ rfl hl.1 (Nat.le_of_ble_eq_true rfl) ⟨(Nat.le_of_ble_eq_true rfl), (Nat.le_of_ble_eq_true rfl)⟩ ⟨rfl, rfl⟩ ⟨Nat.zero_le _, Nat.zero_le _⟩ dX0_setLength_4)) (fun r_4 h_4 => ?_)
  subst h_4
  refine lv_istore_n (lv' := [(3, .int (nI (sf_P (ln a)))), (0, .ref a1), (1, .ref a), (2, .int (nI n))]) hx hb dX0_setLength_7 rfl hl (by decide) rfl (fun ls hl => ?_)
  refine lv_iload_n hx hb dX0_setLength_8 rfl (lv_at hl 3 rfl) ?_
  refine vp_callSi (va_Run.run (sf_runP (As := [.int (nI n)]) (rest := []) ⟨hx, hb, hml, hown, hts⟩ sf_has (c_placesFor l n (by omega)) hN co_X2_placesFor sm_X2_placesFor in_X2 k_X0_30 ⟨sf_blindT, sf_preT⟩ rfl hl.1 (Nat.le_of_ble_eq_true rfl) ⟨(Nat.le_of_ble_eq_true rfl), (Nat.le_of_ble_eq_true rfl)⟩ ⟨rfl, rfl⟩ ⟨Nat.zero_le _, Nat.zero_le _⟩ dX0_setLength_9)) (fun r_9 h_9 => ?_)
  subst h_9
  refine lv_istore (lv' := [(4, .int (nI (sf_P n))), (3, .int (nI (sf_P (ln a)))), (0, .ref a1), (1, .ref a), (2, .int (nI n))]) hx hb dX0_setLength_12 hl (by decide) rfl (fun ls hl => ?_)
  refine lv_iload hx hb dX0_setLength_14 (lv_at hl 0 rfl) ?_
  refine lv_iload_n hx hb dX0_setLength_16 rfl (lv_at hl 1 rfl) ?_
  refine sf_icmp_le (tgt := 38) hx hb (by omega) (by omega) dX0_setLength_17 (by decide) (fun c_17 => ?_) (fun c_17 => ?_)
  · refine lv_iload_n hx hb dX0_setLength_38 rfl (lv_at hl 4 rfl) ?_
    refine lv_aload_n hx hb dX0_setLength_39 rfl (lv_at hl 3 rfl) ?_
    refine sf_rget (D := (dC, dI)) (ci := 1) (v := .int (nI (ln a))) (C := RX1) (T := TX1) (N := 6) hx hb hts sf_inX1 hown hK hP ha rfl rfl 3 (by decide) (hts _ (sf_mem fl_X0_42 rfl)) (fun _ h9 => h9) rfl dX0_setLength_40 ?_
    refine sf_icmp_le (tgt := 69) hx hb (by omega) (by omega) dX0_setLength_43 (by decide) (fun c_43 => ?_) (fun c_43 => ?_)
    · have hg2 : ∀ j, g j = if st a + ln a ≤ j ∧ j < st a + n then nI 0 else g j := fun j => by rw [if_neg (by omega)]
      refine lv_aload_n hx hb dX0_setLength_69 rfl (lv_at hl 3 rfl) ?_
      refine lv_iload_n hx hb dX0_setLength_70 rfl (lv_at hl 4 rfl) ?_
      refine sf_rput (D := (dC, dI)) (ci := 1) (v := .int (nI n)) (ty := .int) (C := RX1) (T := TX1) (N := 6) hx hb hts sf_inX1 tyX1 tyX1_ok nmX1 hown hK hP hD hS ha rfl rfl 3 (by decide) (hts _ (sf_mem fl_X0_42 rfl)) (fun _ h9 => h9) rfl (by decide +kernel) rfl rfl (Nat.le_of_ble_eq_true rfl) (sf_rw_ln n) dX0_setLength_71 (fun H locs hP hD hS => ?_)
      have hP : va_P (dC, dI) vwCl (sf_w a0 a1 a2 a3 cB cT LP gb md ct tb nm tk oc en fs la g st (va_up ln a n) bf af) H := hP
      have hD : va_D A (sf_w a0 a1 a2 a3 cB cT LP gb md ct tb nm tk oc en fs la g st (va_up ln a n) bf af) := hD
      refine lv_aload_n hx hb dX0_setLength_74 rfl (lv_at hl 2 rfl) ?_
      refine lv_dup hx hb dX0_setLength_75 rfl ?_
      refine va_get (D := (dC, dI)) (ci := 0) (v := .int (nI oc)) (C := RX0) (T := TX0) (N := 5) hx hb hts sf_inX0 hown hK hP 1 rfl rfl 1 (by decide) (hts _ (sf_mem fl_X0_16 rfl)) (fun _ h9 => h9) rfl dX0_setLength_76 ?_
      refine lv_iload hx hb dX0_setLength_79 (lv_at hl 0 rfl) ?_
      refine lv_iload_n hx hb dX0_setLength_81 rfl (lv_at hl 1 rfl) ?_
      refine lv_isub hx hb dX0_setLength_82 ?_
      refine lv_iadd hx hb dX0_setLength_83 ?_
      rw [sf_occ (by omega)]
      refine va_put (D := (dC, dI)) (ci := 0) (v := .int (nI (oc + sf_P n - sf_P (ln a)))) (ty := .int) (C := RX0) (T := TX0) (N := 5) hx hb hts sf_inX0 tyX0 tyX0_ok nmX0 hown hK hP hD hS 1 rfl rfl 1 (by decide) (hts _ (sf_mem fl_X0_16 rfl)) (fun _ h9 => h9) rfl (by decide +kernel) rfl rfl (Nat.le_of_ble_eq_true rfl) dX0_setLength_84 (fun H locs hP hD hS => ?_)
      have hP : va_P (dC, dI) vwCl (sf_w a0 a1 a2 a3 cB cT LP gb md ct tb nm tk (oc + sf_P n - sf_P (ln a)) en fs la g st (va_up ln a n) bf af) H := hP
      have hD : va_D A (sf_w a0 a1 a2 a3 cB cT LP gb md ct tb nm tk (oc + sf_P n - sf_P (ln a)) en fs la g st (va_up ln a n) bf af) := hD
      refine lv_iconst (v := nI 1) hx hb dX0_setLength_87 (by decide) ?_
      exact W.zret (v := nI 1) hx hb hr (by decide) (fun t ht hW => ⟨⟨_, (cs, oc + sf_P n - sf_P (ln a), en, fs, la, g, st, va_up ln a n, bf, af), rfl, Or.inr ⟨rfl, Or.inl c_17, sf_SL_stay hM hac c_17 hn hg2⟩, by rw [ht]; exact hP, hD⟩, hS.F ht⟩) hS.2.2 dX0_setLength_88
    · refine lv_aload_n hx hb dX0_setLength_46 rfl (lv_at hl 2 rfl) ?_
      refine va_get (D := (dC, dI)) (ci := 0) (v := .ref a2) (C := RX0) (T := TX0) (N := 5) hx hb hts sf_inX0 hown hK hP 1 rfl rfl 0 (by decide) (hts _ (sf_mem fl_X0_10 rfl)) (fun _ h9 => h9) rfl dX0_setLength_47 ?_
      refine lv_aload_n hx hb dX0_setLength_50 rfl (lv_at hl 3 rfl) ?_
      refine sf_rget (D := (dC, dI)) (ci := 1) (v := .int (nI (st a))) (C := RX1) (T := TX1) (N := 6) hx hb hts sf_inX1 hown hK hP ha rfl rfl 2 (by decide) (hts _ (sf_mem fl_X0_37 rfl)) (fun _ h9 => h9) rfl dX0_setLength_51 ?_
      refine lv_aload_n hx hb dX0_setLength_54 rfl (lv_at hl 3 rfl) ?_
      refine sf_rget (D := (dC, dI)) (ci := 1) (v := .int (nI (ln a))) (C := RX1) (T := TX1) (N := 6) hx hb hts sf_inX1 hown hK hP ha rfl rfl 3 (by decide) (hts _ (sf_mem fl_X0_42 rfl)) (fun _ h9 => h9) rfl dX0_setLength_55 ?_
      refine sf_iadd hx hb dX0_setLength_58 ?_
      refine lv_aload_n hx hb dX0_setLength_59 rfl (lv_at hl 3 rfl) ?_
      refine sf_rget (D := (dC, dI)) (ci := 1) (v := .int (nI (st a))) (C := RX1) (T := TX1) (N := 6) hx hb hts sf_inX1 hown hK hP ha rfl rfl 2 (by decide) (hts _ (sf_mem fl_X0_37 rfl)) (fun _ h9 => h9) rfl dX0_setLength_60 ?_
      refine lv_iload_n hx hb dX0_setLength_63 rfl (lv_at hl 4 rfl) ?_
      refine sf_iadd hx hb dX0_setLength_64 ?_
      refine lv_iconst (v := nI 0) hx hb dX0_setLength_65 (by decide) ?_
      refine sf_cv (sf_runS (As := [.ref a2, .int (nI ((st a) + (ln a))), .int (nI ((st a) + n)), .int (nI 0)]) (rest := []) ⟨hx, hb, hml, hown, hts⟩ sf_has (c_fill0 l dC dI [(cB, .byte), (cT, .object "ByteShelf$Row")] (sf_w a0 a1 a2 a3 cB cT LP gb md ct tb nm tk oc en fs la g st ln bf af) _ a2 cB 400000 g 2 0 ((st a) + (ln a)) ((st a) + n) rfl rfl (by omega) (by omega) (by decide)) k_X0_45 ⟨sf_blind, sf_preU hP hK hD hN⟩ rfl hl.1 (Nat.le_of_ble_eq_true rfl) ⟨(Nat.le_of_ble_eq_true rfl), (Nat.le_of_ble_eq_true rfl)⟩ ⟨rfl, rfl⟩ ⟨Nat.zero_le _, Nat.zero_le _⟩ dX0_setLength_66) hD hS hA (fun u_66 H locs h_66 hP hD hS => ?_)
      have hP : va_P (dC, dI) vwCl (sf_w a0 a1 a2 a3 cB cT LP gb md ct tb nm tk oc en fs la u_66 st ln bf af) H := hP
      have hD : va_D A (sf_w a0 a1 a2 a3 cB cT LP gb md ct tb nm tk oc en fs la u_66 st ln bf af) := hD
      refine lv_aload_n hx hb dX0_setLength_69 rfl (lv_at hl 3 rfl) ?_
      refine lv_iload_n hx hb dX0_setLength_70 rfl (lv_at hl 4 rfl) ?_
      refine sf_rput (D := (dC, dI)) (ci := 1) (v := .int (nI n)) (ty := .int) (C := RX1) (T := TX1) (N := 6) hx hb hts sf_inX1 tyX1 tyX1_ok nmX1 hown hK hP hD hS ha rfl rfl 3 (by decide) (hts _ (sf_mem fl_X0_42 rfl)) (fun _ h9 => h9) rfl (by decide +kernel) rfl rfl (Nat.le_of_ble_eq_true rfl) (sf_rw_ln n) dX0_setLength_71 (fun H locs hP hD hS => ?_)
      have hP : va_P (dC, dI) vwCl (sf_w a0 a1 a2 a3 cB cT LP gb md ct tb nm tk oc en fs la u_66 st (va_up ln a n) bf af) H := hP
      have hD : va_D A (sf_w a0 a1 a2 a3 cB cT LP gb md ct tb nm tk oc en fs la u_66 st (va_up ln a n) bf af) := hD
      refine lv_aload_n hx hb dX0_setLength_74 rfl (lv_at hl 2 rfl) ?_
      refine lv_dup hx hb dX0_setLength_75 rfl ?_
      refine va_get (D := (dC, dI)) (ci := 0) (v := .int (nI oc)) (C := RX0) (T := TX0) (N := 5) hx hb hts sf_inX0 hown hK hP 1 rfl rfl 1 (by decide) (hts _ (sf_mem fl_X0_16 rfl)) (fun _ h9 => h9) rfl dX0_setLength_76 ?_
      refine lv_iload hx hb dX0_setLength_79 (lv_at hl 0 rfl) ?_
      refine lv_iload_n hx hb dX0_setLength_81 rfl (lv_at hl 1 rfl) ?_
      refine lv_isub hx hb dX0_setLength_82 ?_
      refine lv_iadd hx hb dX0_setLength_83 ?_
      rw [sf_occ (by omega)]
      refine va_put (D := (dC, dI)) (ci := 0) (v := .int (nI (oc + sf_P n - sf_P (ln a)))) (ty := .int) (C := RX0) (T := TX0) (N := 5) hx hb hts sf_inX0 tyX0 tyX0_ok nmX0 hown hK hP hD hS 1 rfl rfl 1 (by decide) (hts _ (sf_mem fl_X0_16 rfl)) (fun _ h9 => h9) rfl (by decide +kernel) rfl rfl (Nat.le_of_ble_eq_true rfl) dX0_setLength_84 (fun H locs hP hD hS => ?_)
      have hP : va_P (dC, dI) vwCl (sf_w a0 a1 a2 a3 cB cT LP gb md ct tb nm tk (oc + sf_P n - sf_P (ln a)) en fs la u_66 st (va_up ln a n) bf af) H := hP
      have hD : va_D A (sf_w a0 a1 a2 a3 cB cT LP gb md ct tb nm tk (oc + sf_P n - sf_P (ln a)) en fs la u_66 st (va_up ln a n) bf af) := hD
      refine lv_iconst (v := nI 1) hx hb dX0_setLength_87 (by decide) ?_
      exact W.zret (v := nI 1) hx hb hr (by decide) (fun t ht hW => ⟨⟨_, (cs, oc + sf_P n - sf_P (ln a), en, fs, la, u_66, st, va_up ln a n, bf, af), rfl, Or.inr ⟨rfl, Or.inl c_17, sf_SL_stay hM hac c_17 hn h_66⟩, by rw [ht]; exact hP, hD⟩, hS.F ht⟩) hS.2.2 dX0_setLength_88
  · refine lv_aload_n hx hb dX0_setLength_20 rfl (lv_at hl 2 rfl) ?_
    refine lv_iload hx hb dX0_setLength_21 (lv_at hl 0 rfl) ?_
    refine vp_callSi (va_Run.run (sf_runV (b := a1) (As := [.int (nI (sf_P n))]) (rest := []) ⟨hx, hb, hml, hown, hts⟩ sf_has (c_hasRoomFor l dC dI a0 a1 a2 a3 cB cT LP gb md ct tb nm tk oc en fs la g st ln bf af _ (sf_P n) (by omega) (by omega)) k_X0_58 ⟨sf_blind, va_recv hK hP (ci := 0) (q0 := 1) rfl rfl, sf_preU hP hK hD hN⟩ rfl hl.1 (Nat.le_of_ble_eq_true rfl) ⟨(Nat.le_of_ble_eq_true rfl), (Nat.le_of_ble_eq_true rfl)⟩ ⟨rfl, rfl⟩ ⟨Nat.zero_le _, Nat.zero_le _⟩ dX0_setLength_23)) (fun r_23 h_23 => ?_)
    rcases h_23 with ⟨rfl, h_23⟩ | ⟨rfl, h_23⟩
    · refine sf_if_ne (tgt := 31) hx hb (by decide) dX0_setLength_26 (by decide) (fun _ => ?_) (fun c_26 => absurd c_26 (by decide))
      refine lv_aload_n hx hb dX0_setLength_31 rfl (lv_at hl 2 rfl) ?_
      refine lv_aload_n hx hb dX0_setLength_32 rfl (lv_at hl 3 rfl) ?_
      refine lv_iload hx hb dX0_setLength_33 (lv_at hl 0 rfl) ?_
      obtain ⟨l1, r1, rfl⟩ := List.append_of_mem hac
      refine sf_cv (sf_runV (b := a1) (As := [.ref a, .int (nI (sf_P n))]) (rest := []) ⟨hx, hb, hml, hown, hts⟩ sf_has (c_move l dC dI a0 a1 a2 a3 cB cT LP gb md ct tb nm tk oc en fs la g st ln bf af _ l1 r1 a hM (sf_P n) h_23 (by omega)) k_X0_62 ⟨sf_blind, va_recv hK hP (ci := 0) (q0 := 1) rfl rfl, sf_preU hP hK hD hN⟩ rfl hl.1 (Nat.le_of_ble_eq_true rfl) ⟨(Nat.le_of_ble_eq_true rfl), (Nat.le_of_ble_eq_true rfl)⟩ ⟨rfl, rfl⟩ ⟨Nat.zero_le _, Nat.zero_le _⟩ dX0_setLength_35) hD hS hA (fun u_35 H locs h_35 hP hD hS => ?_)
      obtain ⟨b, g1, st1⟩ := u_35
      obtain ⟨p1, p2, p3, p4, p5⟩ := h_35
      dsimp only at p1 p2 p3 p4 p5
      have hP : va_P (dC, dI) vwCl (sf_w a0 a1 a2 a3 cB cT LP gb md ct tb nm tk oc (b + sf_P n) (sf_pk (sf_pk (af a) (bf a) la) (some a) (sf_pk (bf a) (af a) fs)) (some a) g1 st1 ln (va_up (sf_unA bf (af a) (bf a)) a (sf_pk (af a) (bf a) la)) (sf_apA (sf_unA af (bf a) (af a)) (sf_pk (af a) (bf a) la) a)) H := hP
      have hD : va_D A (sf_w a0 a1 a2 a3 cB cT LP gb md ct tb nm tk oc (b + sf_P n) (sf_pk (sf_pk (af a) (bf a) la) (some a) (sf_pk (bf a) (af a) fs)) (some a) g1 st1 ln (va_up (sf_unA bf (af a) (bf a)) a (sf_pk (af a) (bf a) la)) (sf_apA (sf_unA af (bf a) (af a)) (sf_pk (af a) (bf a) la) a)) := hD
      refine lv_iload_n hx hb dX0_setLength_38 rfl (lv_at hl 4 rfl) ?_
      refine lv_aload_n hx hb dX0_setLength_39 rfl (lv_at hl 3 rfl) ?_
      refine sf_rget (D := (dC, dI)) (ci := 1) (v := .int (nI (ln a))) (C := RX1) (T := TX1) (N := 6) hx hb hts sf_inX1 hown hK hP ha rfl rfl 3 (by decide) (hts _ (sf_mem fl_X0_42 rfl)) (fun _ h9 => h9) rfl dX0_setLength_40 ?_
      refine sf_icmp_le (tgt := 69) hx hb (by omega) (by omega) dX0_setLength_43 (by decide) (fun c_43 => ?_) (fun c_43 => ?_)
      · have hg2 : ∀ j, g1 j = if b + ln a ≤ j ∧ j < b + n then nI 0 else g1 j := fun j => by rw [if_neg (by omega)]
        refine lv_aload_n hx hb dX0_setLength_69 rfl (lv_at hl 3 rfl) ?_
        refine lv_iload_n hx hb dX0_setLength_70 rfl (lv_at hl 4 rfl) ?_
        refine sf_rput (D := (dC, dI)) (ci := 1) (v := .int (nI n)) (ty := .int) (C := RX1) (T := TX1) (N := 6) hx hb hts sf_inX1 tyX1 tyX1_ok nmX1 hown hK hP hD hS ha rfl rfl 3 (by decide) (hts _ (sf_mem fl_X0_42 rfl)) (fun _ h9 => h9) rfl (by decide +kernel) rfl rfl (Nat.le_of_ble_eq_true rfl) (sf_rw_ln n) dX0_setLength_71 (fun H locs hP hD hS => ?_)
        have hP : va_P (dC, dI) vwCl (sf_w a0 a1 a2 a3 cB cT LP gb md ct tb nm tk oc (b + sf_P n) (sf_pk (sf_pk (af a) (bf a) la) (some a) (sf_pk (bf a) (af a) fs)) (some a) g1 st1 (va_up ln a n) (va_up (sf_unA bf (af a) (bf a)) a (sf_pk (af a) (bf a) la)) (sf_apA (sf_unA af (bf a) (af a)) (sf_pk (af a) (bf a) la) a)) H := hP
        have hD : va_D A (sf_w a0 a1 a2 a3 cB cT LP gb md ct tb nm tk oc (b + sf_P n) (sf_pk (sf_pk (af a) (bf a) la) (some a) (sf_pk (bf a) (af a) fs)) (some a) g1 st1 (va_up ln a n) (va_up (sf_unA bf (af a) (bf a)) a (sf_pk (af a) (bf a) la)) (sf_apA (sf_unA af (bf a) (af a)) (sf_pk (af a) (bf a) la) a)) := hD
        refine lv_aload_n hx hb dX0_setLength_74 rfl (lv_at hl 2 rfl) ?_
        refine lv_dup hx hb dX0_setLength_75 rfl ?_
        refine va_get (D := (dC, dI)) (ci := 0) (v := .int (nI oc)) (C := RX0) (T := TX0) (N := 5) hx hb hts sf_inX0 hown hK hP 1 rfl rfl 1 (by decide) (hts _ (sf_mem fl_X0_16 rfl)) (fun _ h9 => h9) rfl dX0_setLength_76 ?_
        refine lv_iload hx hb dX0_setLength_79 (lv_at hl 0 rfl) ?_
        refine lv_iload_n hx hb dX0_setLength_81 rfl (lv_at hl 1 rfl) ?_
        refine lv_isub hx hb dX0_setLength_82 ?_
        refine lv_iadd hx hb dX0_setLength_83 ?_
        rw [sf_occ (by omega)]
        refine va_put (D := (dC, dI)) (ci := 0) (v := .int (nI (oc + sf_P n - sf_P (ln a)))) (ty := .int) (C := RX0) (T := TX0) (N := 5) hx hb hts sf_inX0 tyX0 tyX0_ok nmX0 hown hK hP hD hS 1 rfl rfl 1 (by decide) (hts _ (sf_mem fl_X0_16 rfl)) (fun _ h9 => h9) rfl (by decide +kernel) rfl rfl (Nat.le_of_ble_eq_true rfl) dX0_setLength_84 (fun H locs hP hD hS => ?_)
        have hP : va_P (dC, dI) vwCl (sf_w a0 a1 a2 a3 cB cT LP gb md ct tb nm tk (oc + sf_P n - sf_P (ln a)) (b + sf_P n) (sf_pk (sf_pk (af a) (bf a) la) (some a) (sf_pk (bf a) (af a) fs)) (some a) g1 st1 (va_up ln a n) (va_up (sf_unA bf (af a) (bf a)) a (sf_pk (af a) (bf a) la)) (sf_apA (sf_unA af (bf a) (af a)) (sf_pk (af a) (bf a) la) a)) H := hP
        have hD : va_D A (sf_w a0 a1 a2 a3 cB cT LP gb md ct tb nm tk (oc + sf_P n - sf_P (ln a)) (b + sf_P n) (sf_pk (sf_pk (af a) (bf a) la) (some a) (sf_pk (bf a) (af a) fs)) (some a) g1 st1 (va_up ln a n) (va_up (sf_unA bf (af a) (bf a)) a (sf_pk (af a) (bf a) la)) (sf_apA (sf_unA af (bf a) (af a)) (sf_pk (af a) (bf a) la) a)) := hD
        refine lv_iconst (v := nI 1) hx hb dX0_setLength_87 (by decide) ?_
        exact W.zret (v := nI 1) hx hb hr (by decide) (fun t ht hW => ⟨⟨_, (l1 ++ r1 ++ [a], oc + sf_P n - sf_P (ln a), (b + sf_P n), (sf_pk (sf_pk (af a) (bf a) la) (some a) (sf_pk (bf a) (af a) fs)), (some a), g1, st1, va_up ln a n, (va_up (sf_unA bf (af a) (bf a)) a (sf_pk (af a) (bf a) la)), (sf_apA (sf_unA af (bf a) (af a)) (sf_pk (af a) (bf a) la) a)), rfl, Or.inr ⟨rfl, Or.inr h_23, sf_SL_move hM hn p1 c_17 p2 p3 p4 p5 hg2⟩, by rw [ht]; exact hP, hD⟩, hS.F ht⟩) hS.2.2 dX0_setLength_88
      · refine lv_aload_n hx hb dX0_setLength_46 rfl (lv_at hl 2 rfl) ?_
        refine va_get (D := (dC, dI)) (ci := 0) (v := .ref a2) (C := RX0) (T := TX0) (N := 5) hx hb hts sf_inX0 hown hK hP 1 rfl rfl 0 (by decide) (hts _ (sf_mem fl_X0_10 rfl)) (fun _ h9 => h9) rfl dX0_setLength_47 ?_
        refine lv_aload_n hx hb dX0_setLength_50 rfl (lv_at hl 3 rfl) ?_
        refine sf_rget (D := (dC, dI)) (ci := 1) (v := .int (nI (st1 a))) (C := RX1) (T := TX1) (N := 6) hx hb hts sf_inX1 hown hK hP ha rfl rfl 2 (by decide) (hts _ (sf_mem fl_X0_37 rfl)) (fun _ h9 => h9) rfl dX0_setLength_51 ?_
        refine lv_aload_n hx hb dX0_setLength_54 rfl (lv_at hl 3 rfl) ?_
        refine sf_rget (D := (dC, dI)) (ci := 1) (v := .int (nI (ln a))) (C := RX1) (T := TX1) (N := 6) hx hb hts sf_inX1 hown hK hP ha rfl rfl 3 (by decide) (hts _ (sf_mem fl_X0_42 rfl)) (fun _ h9 => h9) rfl dX0_setLength_55 ?_
        refine sf_iadd hx hb dX0_setLength_58 ?_
        refine lv_aload_n hx hb dX0_setLength_59 rfl (lv_at hl 3 rfl) ?_
        refine sf_rget (D := (dC, dI)) (ci := 1) (v := .int (nI (st1 a))) (C := RX1) (T := TX1) (N := 6) hx hb hts sf_inX1 hown hK hP ha rfl rfl 2 (by decide) (hts _ (sf_mem fl_X0_37 rfl)) (fun _ h9 => h9) rfl dX0_setLength_60 ?_
        refine lv_iload_n hx hb dX0_setLength_63 rfl (lv_at hl 4 rfl) ?_
        refine sf_iadd hx hb dX0_setLength_64 ?_
        refine lv_iconst (v := nI 0) hx hb dX0_setLength_65 (by decide) ?_
        refine sf_cv (sf_runS (As := [.ref a2, .int (nI ((st1 a) + (ln a))), .int (nI ((st1 a) + n)), .int (nI 0)]) (rest := []) ⟨hx, hb, hml, hown, hts⟩ sf_has (c_fill0 l dC dI [(cB, .byte), (cT, .object "ByteShelf$Row")] (sf_w a0 a1 a2 a3 cB cT LP gb md ct tb nm tk oc (b + sf_P n) (sf_pk (sf_pk (af a) (bf a) la) (some a) (sf_pk (bf a) (af a) fs)) (some a) g1 st1 ln (va_up (sf_unA bf (af a) (bf a)) a (sf_pk (af a) (bf a) la)) (sf_apA (sf_unA af (bf a) (af a)) (sf_pk (af a) (bf a) la) a)) _ a2 cB 400000 g1 2 0 ((st1 a) + (ln a)) ((st1 a) + n) rfl rfl (by omega) (by omega) (by decide)) k_X0_45 ⟨sf_blind, sf_preU hP hK hD hN⟩ rfl hl.1 (Nat.le_of_ble_eq_true rfl) ⟨(Nat.le_of_ble_eq_true rfl), (Nat.le_of_ble_eq_true rfl)⟩ ⟨rfl, rfl⟩ ⟨Nat.zero_le _, Nat.zero_le _⟩ dX0_setLength_66) hD hS hA (fun u_66 H locs h_66 hP hD hS => ?_)
        have hP : va_P (dC, dI) vwCl (sf_w a0 a1 a2 a3 cB cT LP gb md ct tb nm tk oc (b + sf_P n) (sf_pk (sf_pk (af a) (bf a) la) (some a) (sf_pk (bf a) (af a) fs)) (some a) u_66 st1 ln (va_up (sf_unA bf (af a) (bf a)) a (sf_pk (af a) (bf a) la)) (sf_apA (sf_unA af (bf a) (af a)) (sf_pk (af a) (bf a) la) a)) H := hP
        have hD : va_D A (sf_w a0 a1 a2 a3 cB cT LP gb md ct tb nm tk oc (b + sf_P n) (sf_pk (sf_pk (af a) (bf a) la) (some a) (sf_pk (bf a) (af a) fs)) (some a) u_66 st1 ln (va_up (sf_unA bf (af a) (bf a)) a (sf_pk (af a) (bf a) la)) (sf_apA (sf_unA af (bf a) (af a)) (sf_pk (af a) (bf a) la) a)) := hD
        rw [p2] at h_66
        refine lv_aload_n hx hb dX0_setLength_69 rfl (lv_at hl 3 rfl) ?_
        refine lv_iload_n hx hb dX0_setLength_70 rfl (lv_at hl 4 rfl) ?_
        refine sf_rput (D := (dC, dI)) (ci := 1) (v := .int (nI n)) (ty := .int) (C := RX1) (T := TX1) (N := 6) hx hb hts sf_inX1 tyX1 tyX1_ok nmX1 hown hK hP hD hS ha rfl rfl 3 (by decide) (hts _ (sf_mem fl_X0_42 rfl)) (fun _ h9 => h9) rfl (by decide +kernel) rfl rfl (Nat.le_of_ble_eq_true rfl) (sf_rw_ln n) dX0_setLength_71 (fun H locs hP hD hS => ?_)
        have hP : va_P (dC, dI) vwCl (sf_w a0 a1 a2 a3 cB cT LP gb md ct tb nm tk oc (b + sf_P n) (sf_pk (sf_pk (af a) (bf a) la) (some a) (sf_pk (bf a) (af a) fs)) (some a) u_66 st1 (va_up ln a n) (va_up (sf_unA bf (af a) (bf a)) a (sf_pk (af a) (bf a) la)) (sf_apA (sf_unA af (bf a) (af a)) (sf_pk (af a) (bf a) la) a)) H := hP
        have hD : va_D A (sf_w a0 a1 a2 a3 cB cT LP gb md ct tb nm tk oc (b + sf_P n) (sf_pk (sf_pk (af a) (bf a) la) (some a) (sf_pk (bf a) (af a) fs)) (some a) u_66 st1 (va_up ln a n) (va_up (sf_unA bf (af a) (bf a)) a (sf_pk (af a) (bf a) la)) (sf_apA (sf_unA af (bf a) (af a)) (sf_pk (af a) (bf a) la) a)) := hD
        refine lv_aload_n hx hb dX0_setLength_74 rfl (lv_at hl 2 rfl) ?_
        refine lv_dup hx hb dX0_setLength_75 rfl ?_
        refine va_get (D := (dC, dI)) (ci := 0) (v := .int (nI oc)) (C := RX0) (T := TX0) (N := 5) hx hb hts sf_inX0 hown hK hP 1 rfl rfl 1 (by decide) (hts _ (sf_mem fl_X0_16 rfl)) (fun _ h9 => h9) rfl dX0_setLength_76 ?_
        refine lv_iload hx hb dX0_setLength_79 (lv_at hl 0 rfl) ?_
        refine lv_iload_n hx hb dX0_setLength_81 rfl (lv_at hl 1 rfl) ?_
        refine lv_isub hx hb dX0_setLength_82 ?_
        refine lv_iadd hx hb dX0_setLength_83 ?_
        rw [sf_occ (by omega)]
        refine va_put (D := (dC, dI)) (ci := 0) (v := .int (nI (oc + sf_P n - sf_P (ln a)))) (ty := .int) (C := RX0) (T := TX0) (N := 5) hx hb hts sf_inX0 tyX0 tyX0_ok nmX0 hown hK hP hD hS 1 rfl rfl 1 (by decide) (hts _ (sf_mem fl_X0_16 rfl)) (fun _ h9 => h9) rfl (by decide +kernel) rfl rfl (Nat.le_of_ble_eq_true rfl) dX0_setLength_84 (fun H locs hP hD hS => ?_)
        have hP : va_P (dC, dI) vwCl (sf_w a0 a1 a2 a3 cB cT LP gb md ct tb nm tk (oc + sf_P n - sf_P (ln a)) (b + sf_P n) (sf_pk (sf_pk (af a) (bf a) la) (some a) (sf_pk (bf a) (af a) fs)) (some a) u_66 st1 (va_up ln a n) (va_up (sf_unA bf (af a) (bf a)) a (sf_pk (af a) (bf a) la)) (sf_apA (sf_unA af (bf a) (af a)) (sf_pk (af a) (bf a) la) a)) H := hP
        have hD : va_D A (sf_w a0 a1 a2 a3 cB cT LP gb md ct tb nm tk (oc + sf_P n - sf_P (ln a)) (b + sf_P n) (sf_pk (sf_pk (af a) (bf a) la) (some a) (sf_pk (bf a) (af a) fs)) (some a) u_66 st1 (va_up ln a n) (va_up (sf_unA bf (af a) (bf a)) a (sf_pk (af a) (bf a) la)) (sf_apA (sf_unA af (bf a) (af a)) (sf_pk (af a) (bf a) la) a)) := hD
        refine lv_iconst (v := nI 1) hx hb dX0_setLength_87 (by decide) ?_
        exact W.zret (v := nI 1) hx hb hr (by decide) (fun t ht hW => ⟨⟨_, (l1 ++ r1 ++ [a], oc + sf_P n - sf_P (ln a), (b + sf_P n), (sf_pk (sf_pk (af a) (bf a) la) (some a) (sf_pk (bf a) (af a) fs)), (some a), u_66, st1, va_up ln a n, (va_up (sf_unA bf (af a) (bf a)) a (sf_pk (af a) (bf a) la)), (sf_apA (sf_unA af (bf a) (af a)) (sf_pk (af a) (bf a) la) a)), rfl, Or.inr ⟨rfl, Or.inr h_23, sf_SL_move hM hn p1 c_17 p2 p3 p4 p5 h_66⟩, by rw [ht]; exact hP, hD⟩, hS.F ht⟩) hS.2.2 dX0_setLength_88
    · refine sf_if_ne (tgt := 31) hx hb (by decide) dX0_setLength_26 (by decide) (fun c_26 => absurd c_26 (by decide)) (fun _ => ?_)
      refine lv_iconst (v := nI 0) hx hb dX0_setLength_29 (by decide) ?_
      exact W.zret (v := nI 0) hx hb hr (by decide) (fun t ht hW => ⟨⟨_, (cs, oc, en, fs, la, g, st, ln, bf, af), rfl, Or.inl ⟨rfl, c_17, h_23, rfl⟩, by rw [ht]; exact hP, hD⟩, hS.F ht⟩) hS.2.2 dX0_setLength_30
end
section
/-! the mathematical value of a shelf, and what each call answers and makes of it -/
/-- numbers given so far, numbers given back (the last first), taken (0 or 1), lengths, bytes, rows, places -/
abbrev sf_Z : Type := Nat × List Nat × (Nat → Nat) × (Nat → Nat) × (Nat → Nat → Int32) × Nat × Nat
abbrev zMd (z : sf_Z) : Nat := z.1
abbrev zFr (z : sf_Z) : List Nat := z.2.1
abbrev zTk (z : sf_Z) : Nat → Nat := z.2.2.1
abbrev zLn (z : sf_Z) : Nat → Nat := z.2.2.2.1
abbrev zBy (z : sf_Z) : Nat → Nat → Int32 := z.2.2.2.2.1
abbrev zCt (z : sf_Z) : Nat := z.2.2.2.2.2.1
abbrev zOc (z : sf_Z) : Nat := z.2.2.2.2.2.2
/-- an int as a number below n -/
def zi (x : Int32) (n : Nat) : Option Nat := if 0 ≤ x.toInt ∧ x.toInt < n then some x.toInt.toNat else none
theorem zi_some {k n : Nat} (h : k < n) (hn : n ≤ 2 ^ 31) : zi (nI k) n = some k := by
  unfold zi
  rw [nI_toInt (by omega), if_pos (by omega)]
  rfl
theorem zi_none {x : Int32} {n : Nat} (hn : n ≤ 2 ^ 31) (h : ∀ k : Nat, k < n → x ≠ nI k) : zi x n = none := by
  unfold zi
  rw [if_neg]
  intro q
  refine h x.toInt.toNat (by omega) ?_
  apply Int32.toInt_inj.mp
  rw [nI_toInt (by omega)]
  omega
/-- the row of that number -/
def zrow (z : sf_Z) (row : Int32) : Option Nat := match zi row (zMd z) with
  | none => none
  | some k => if zTk z k = 1 then some k else none
def zs_take (z : sf_Z) (n : Int32) : Int32 × sf_Z := match zi n 16385 with
  | none => (-1, z)
  | some k => if 400000 < zOc z + sf_P k then (-2, z) else match zFr z with
    | a :: t => (nI a, zMd z, t, va_up (zTk z) a 1, va_up (zLn z) a k, va_up (zBy z) a (fun _ => 0), zCt z + 1, zOc z + sf_P k)
    | [] => if zMd z = 20000 then (-2, z) else (nI (zMd z), zMd z + 1, [], va_up (zTk z) (zMd z) 1, va_up (zLn z) (zMd z) k, va_up (zBy z) (zMd z) (fun _ => 0), zCt z + 1, zOc z + sf_P k)
def zs_give (z : sf_Z) (row : Int32) : Int32 × sf_Z := match zrow z row with
  | none => (0, z)
  | some k => (1, zMd z, k :: zFr z, va_up (zTk z) k 0, zLn z, zBy z, zCt z - 1, zOc z - sf_P (zLn z k))
/-- the row k has n bytes from now on, and they are f -/
def zset (z : sf_Z) (k n : Nat) (f : Nat → Int32) : sf_Z := (zMd z, zFr z, zTk z, va_up (zLn z) k n, va_up (zBy z) k f, zCt z, zOc z + sf_P n - sf_P (zLn z k))
def zs_resize (z : sf_Z) (row n : Int32) : Int32 × sf_Z := match zrow z row with
  | none => (-1, z)
  | some k => match zi n 16385 with
    | none => (-1, z)
    | some m => if sf_P (zLn z k) < sf_P m ∧ 400000 < zOc z + sf_P m then (-2, z) else (n, zset z k m (fun i => if i < zLn z k then zBy z k i else 0))
def zput (z : sf_Z) (k : Nat) (f : Nat → Int32) : sf_Z := (zMd z, zFr z, zTk z, zLn z, va_up (zBy z) k f, zCt z, zOc z)
def zs_put (z : sf_Z) (row i b : Int32) : Int32 × sf_Z := match zrow z row with
  | none => (0, z)
  | some k => match zi i (zLn z k) with
    | none => (0, z)
    | some j => (1, zput z k (upd (zBy z k) j b.toInt8.toInt32))
/-- the byte that fill writes at k -/
def zfb (seed : Int32) (k : Nat) : Int32 := (seed + nI (7 * k) + nI (k / 250)).toInt8.toInt32
def zs_fill (z : sf_Z) (row i n seed : Int32) : Int32 × sf_Z := match zrow z row with
  | none => (0, z)
  | some k => match zi i (zLn z k + 1), zi n (zLn z k + 1) with
    | some a, some m => if a + m ≤ zLn z k then (1, zput z k (fun j => if a ≤ j ∧ j < a + m then zfb seed (j - a) else zBy z k j)) else (0, z)
    | _, _ => (0, z)
def zs_copy (z : sf_Z) (row src : Int32) : Int32 × sf_Z := match zrow z row, zrow z src with
  | some k, some k2 => if sf_P (zLn z k) < sf_P (zLn z k2) ∧ 400000 < zOc z + sf_P (zLn z k2) then (-2, z) else (nI (zLn z k2), zset z k (zLn z k2) (zBy z k2))
  | _, _ => (-1, z)
def zs_get (z : sf_Z) (row i : Int32) : Int32 := match zrow z row with
  | none => -1
  | some k => match zi i (zLn z k) with
    | none => -1
    | some j => zBy z k j &&& 255
def zs_size (z : sf_Z) (row : Int32) : Int32 := match zrow z row with
  | none => -1
  | some k => nI (zLn z k)
def zord (x y : Nat) : Int32 := if x = y then 0 else if x < y then -1 else 1
/-- the first place (of c from i on) where the bytes differ decides; none: o -/
def zcmp (f g : Nat → Int32) (o : Int32) : Nat → Nat → Int32
  | 0, _ => o
  | c + 1, i => if f i = g i then zcmp f g o c (i + 1) else if f i &&& 255 < g i &&& 255 then -1 else 1
def zs_compare (z : sf_Z) (row other : Int32) : Int32 := match zrow z row, zrow z other with
  | some k, some k2 => zcmp (zBy z k) (zBy z k2) (zord (zLn z k) (zLn z k2)) (min (zLn z k) (zLn z k2)) 0
  | _, _ => -2
def zsum (f : Nat → Int32) : Nat → Nat → Int32 → Int32
  | 0, _, v => v
  | c + 1, i, v => zsum f c (i + 1) (nI 31 * v + (f i &&& 255))
def zs_sum (z : sf_Z) (row : Int32) : Int32 := match zrow z row with
  | none => 0
  | some k => zsum (zBy z k) (zLn z k) 0 7
theorem zcmp_congr {f f2 g g2 : Nat → Int32} {o : Int32} : ∀ (c i : Nat), (∀ j, i ≤ j → j < i + c → f j = f2 j ∧ g j = g2 j) → zcmp f g o c i = zcmp f2 g2 o c i
  | 0, _, _ => rfl
  | c + 1, i, h => by
    simp only [zcmp]
    rw [(h i (by omega) (by omega)).1, (h i (by omega) (by omega)).2, zcmp_congr c (i + 1) (fun j h1 h2 => h j (by omega) (by omega))]
theorem zsum_congr {f f2 : Nat → Int32} : ∀ (c i : Nat) (v : Int32), (∀ j, i ≤ j → j < i + c → f j = f2 j) → zsum f c i v = zsum f2 c i v
  | 0, _, _, _ => rfl
  | c + 1, i, v, h => by
    simp only [zsum]
    rw [h i (by omega) (by omega), zsum_congr c (i + 1) _ (fun j h1 h2 => h j (by omega) (by omega))]
/-! the shelf's state stands for a value -/
def sf_CI (LP : List Nat) (gb : Option Nat) (md ct : Nat) (tb : Nat → Option Nat) (nm tk : Nat → Nat) (oc en : Nat) (fs la : Option Nat) (g : Nat → Int32) (st ln : Nat → Nat) (bf af : Nat → Option Nat) (cs fr : List Nat) : Prop :=
  sf_MI LP cs oc en fs la g st ln bf af ∧ md = LP.length ∧ md ≤ 20000 ∧ (∀ k, tb k = LP[k]?) ∧ (∀ k a, LP[k]? = some a → nm a = k) ∧ (∀ a, a ∈ cs → tk a = 1) ∧ (∀ a, a ∈ fr → tk a = 0 ∧ a ∈ LP) ∧ (∀ a, a ∈ LP → a ∈ cs ∨ a ∈ fr) ∧ fr.Nodup ∧ sf_stk af gb fr ∧ ct = cs.length
def sf_CR (LP : List Nat) (nm tk ln st : Nat → Nat) (g : Nat → Int32) (cs fr : List Nat) (ct oc : Nat) (z : sf_Z) : Prop :=
  zMd z = LP.length ∧ zFr z = fr.map nm ∧ (∀ k a, LP[k]? = some a → zTk z k = tk a) ∧ (∀ k a, LP[k]? = some a → a ∈ cs → zLn z k = ln a ∧ ∀ i, i < ln a → zBy z k i = g (st a + i)) ∧ zCt z = ct ∧ zOc z = oc
def sf_OK (LP : List Nat) (gb : Option Nat) (md ct : Nat) (tb : Nat → Option Nat) (nm tk : Nat → Nat) (oc en : Nat) (fs la : Option Nat) (g : Nat → Int32) (st ln : Nat → Nat) (bf af : Nat → Option Nat) (z : sf_Z) : Prop :=
  ∃ cs fr : List Nat, sf_CI LP gb md ct tb nm tk oc en fs la g st ln bf af cs fr ∧ sf_CR LP nm tk ln st g cs fr ct oc z
theorem sf_CI_find {LP : List Nat} {gb : Option Nat} {md ct : Nat} {tb : Nat → Option Nat} {nm tk : Nat → Nat} {oc en : Nat} {fs la : Option Nat} {g : Nat → Int32} {st ln : Nat → Nat} {bf af : Nat → Option Nat} {cs fr : List Nat} (h : sf_CI LP gb md ct tb nm tk oc en fs la g st ln bf af cs fr) : md ≤ 20000 ∧ (∀ k, k < md → ∃ a, a ∈ LP ∧ tb k = some a) ∧ ∀ a, a ∈ LP → tk a ≤ 1 := by
  obtain ⟨h1, h2, h3, h4, h5, h6, h7, h8, h9, h10, h11⟩ := h
  refine ⟨h3, fun k hk => ?_, fun a ha => ?_⟩
  · rw [h2] at hk
    exact ⟨LP[k], List.getElem_mem hk, by rw [h4, List.getElem?_eq_getElem hk]⟩
  · rcases h8 a ha with q | q
    · rw [h6 a q]; exact Nat.le_refl _
    · rw [(h7 a q).1]; exact Nat.zero_le _
/-- what a found row is -/
theorem sf_zr_some {LP : List Nat} {gb : Option Nat} {md ct : Nat} {tb : Nat → Option Nat} {nm tk : Nat → Nat} {oc en : Nat} {fs la : Option Nat} {g : Nat → Int32} {st ln : Nat → Nat} {bf af : Nat → Option Nat} {cs fr : List Nat} {z : sf_Z} (h : sf_CI LP gb md ct tb nm tk oc en fs la g st ln bf af cs fr) (hz : sf_CR LP nm tk ln st g cs fr ct oc z) {k a : Nat} (hk : k < md) (hta : tb k = some a) (htk : tk a = 1) : zrow z (nI k) = some k ∧ a ∈ cs ∧ LP[k]? = some a ∧ zLn z k = ln a ∧ (∀ i, i < ln a → zBy z k i = g (st a + i)) ∧ ln a ≤ 16384 ∧ st a + ln a ≤ 400000 := by
  obtain ⟨h1, h2, h3, h4, h5, h6, h7, h8, h9, h10, h11⟩ := h
  obtain ⟨z1, z2, z3, z4, z5, z6⟩ := hz
  have hL : LP[k]? = some a := by rw [← h4]; exact hta
  have hac : a ∈ cs := by
    rcases h8 a (List.mem_of_getElem? hL) with q | q
    · exact q
    · have := (h7 a q).1
      omega
  obtain ⟨-, q1, q2, q3, -⟩ := sf_MI_st h1 hac
  refine ⟨?_, hac, hL, (z4 k a hL hac).1, (z4 k a hL hac).2, q3, q2⟩
  unfold zrow
  rw [z1, ← h2, zi_some hk (by omega)]
  show (if zTk z k = 1 then some k else none) = some k
  rw [z3 k a hL, if_pos htk]
theorem sf_zr_none {LP : List Nat} {gb : Option Nat} {md ct : Nat} {tb : Nat → Option Nat} {nm tk : Nat → Nat} {oc en : Nat} {fs la : Option Nat} {g : Nat → Int32} {st ln : Nat → Nat} {bf af : Nat → Option Nat} {cs fr : List Nat} {z : sf_Z} (h : sf_CI LP gb md ct tb nm tk oc en fs la g st ln bf af cs fr) (hz : sf_CR LP nm tk ln st g cs fr ct oc z) {row : Int32} (hr : ∀ k a : Nat, k < md → row = nI k → tb k = some a → tk a = 0) : zrow z row = none := by
  obtain ⟨h1, h2, h3, h4, h5, h6, h7, h8, h9, h10, h11⟩ := h
  obtain ⟨z1, z2, z3, z4, z5, z6⟩ := hz
  unfold zrow
  by_cases q : ∃ k, k < md ∧ row = nI k
  · obtain ⟨k, hk, rfl⟩ := q
    have hL : LP[k]? = some (LP[k]'(by omega)) := List.getElem?_eq_getElem (by omega)
    have e := hr k _ hk rfl (by rw [h4]; exact hL)
    rw [z1, ← h2, zi_some hk (by omega)]
    show (if zTk z k = 1 then some k else none) = none
    rw [z3 k _ hL, e]
    rfl
  · rw [z1, ← h2, zi_none (by omega) (fun k hk e => q ⟨k, hk, e⟩)]
end
section
/-! the shelf's reads: get, size, compare, sum, rows, places -/
theorem zs_get_1 {z : sf_Z} {row i : Int32} (h : zrow z row = none) : zs_get z row i = -1 := by unfold zs_get; rw [h]
theorem zs_get_2 {z : sf_Z} {row i : Int32} {k : Nat} (h : zrow z row = some k) (h2 : zi i (zLn z k) = none) : zs_get z row i = -1 := by unfold zs_get; rw [h]; dsimp only; rw [h2]
theorem zs_get_3 {z : sf_Z} {row i : Int32} {k j : Nat} (h : zrow z row = some k) (h2 : zi i (zLn z k) = some j) : zs_get z row i = zBy z k j &&& 255 := by unfold zs_get; rw [h]; dsimp only; rw [h2]
theorem zs_size_1 {z : sf_Z} {row : Int32} (h : zrow z row = none) : zs_size z row = -1 := by unfold zs_size; rw [h]
theorem zs_size_2 {z : sf_Z} {row : Int32} {k : Nat} (h : zrow z row = some k) : zs_size z row = nI (zLn z k) := by unfold zs_size; rw [h]
theorem zs_sum_1 {z : sf_Z} {row : Int32} (h : zrow z row = none) : zs_sum z row = 0 := by unfold zs_sum; rw [h]
theorem zs_sum_2 {z : sf_Z} {row : Int32} {k : Nat} (h : zrow z row = some k) : zs_sum z row = zsum (zBy z k) (zLn z k) 0 7 := by unfold zs_sum; rw [h]
theorem zs_cmp_1 {z : sf_Z} {row o : Int32} (h : zrow z row = none) : zs_compare z row o = -2 := by unfold zs_compare; rw [h]
theorem zs_cmp_2 {z : sf_Z} {row o : Int32} (h : zrow z o = none) : zs_compare z row o = -2 := by
  unfold zs_compare
  rw [h]
  cases zrow z row <;> rfl
theorem zs_cmp_3 {z : sf_Z} {row o : Int32} {k k2 : Nat} (h : zrow z row = some k) (h2 : zrow z o = some k2) : zs_compare z row o = zcmp (zBy z k) (zBy z k2) (zord (zLn z k) (zLn z k2)) (min (zLn z k) (zLn z k2)) 0 := by unfold zs_compare; rw [h, h2]
theorem sf_c8 : ∀ j, j < 256 → (vb_c j).toInt8.toInt32 = vb_c j := by decide +kernel
theorem sf_fit_b {x : Int32} (h : fits .byte (.int x) = true) : x.toInt8.toInt32 = x := by
  simp only [fits, Bool.and_eq_true, decide_eq_true_eq] at h
  obtain ⟨j, hj, -, e⟩ := bx_small (x := x) (Int32.not_lt.mpr h.1) (Int32.not_lt.mpr h.2)
  rw [e]
  exact sf_c8 j hj
theorem sf_byte_ne {x y : Int32} (hx : fits .byte (.int x) = true) (hy : fits .byte (.int y) = true) {n : Nat} (hn : n < 256) (h1 : x &&& 255 = nI n) (h2 : y &&& 255 = nI n) : x = y := by
  rw [(sc_eq (sf_fit_b hx) hn).mpr h1, (sc_eq (sf_fit_b hy) hn).mpr h2]
theorem zcmp_hit {f g : Nat → Int32} {o : Int32} {c i : Nat} (hc : i < c) (hne : f i ≠ g i) (hf : fits .byte (.int (f i)) = true) (hg : fits .byte (.int (g i)) = true) {x y : Nat} (hx : x < 256) (hy : y < 256) (e1 : f i &&& 255 = nI x) (e2 : g i &&& 255 = nI y) : zcmp f g o (c - i) i = if x = y then 0 else if x < y then -1 else 1 := by
  have hxy : x ≠ y := fun q => hne (sf_byte_ne hf hg hx e1 (by rw [q]; exact e2))
  rw [show c - i = (c - i - 1) + 1 by omega]
  simp only [zcmp]
  rw [if_neg hne, if_neg hxy, e1, e2]
  by_cases q : x < y
  · rw [if_pos q, if_pos ((nI_ltI (by omega) (by omega)).mpr q)]
  · rw [if_neg q, if_neg (fun h => q ((nI_ltI (by omega) (by omega)).mp h))]
theorem zcmp_miss {f g : Nat → Int32} {o : Int32} {c i : Nat} (hc : i < c) (he : f i = g i) : zcmp f g o (c - i) i = zcmp f g o (c - (i + 1)) (i + 1) := by
  rw [show c - i = (c - (i + 1)) + 1 by omega]
  simp only [zcmp]
  rw [if_pos he]
theorem zsum_go {f : Nat → Int32} {c i : Nat} {v : Int32} (hc : i < c) : zsum f (c - i) i v = zsum f (c - (i + 1)) (i + 1) (nI 31 * v + (f i &&& 255)) := by
  rw [show c - i = (c - (i + 1)) + 1 by omega]
  rfl
set_option maxHeartbeats 4000000 in
set_option maxRecDepth 100000 in
/-- get(row, i) -/
theorem c_get (l : Launch) (dC : Nat → ClassId) (dI : Nat → Nat → Nat) (a0 a1 a2 a3 : Nat) (cB cT : ClassId) (LP : List Nat) (gb : Option Nat) (md ct : Nat) (tb : Nat → Option Nat) (nm tk : Nat → Nat) (oc en : Nat) (fs la : Option Nat) (g : Nat → Int32) (st ln : Nat → Nat) (bf af : Nat → Option Nat) (sz : Nat) (z : sf_Z) (cs fr : List Nat) (hI : sf_CI LP gb md ct tb nm tk oc en fs la g st ln bf af cs fr) (hR : sf_CR LP nm tk ln st g cs fr ct oc z) (row i : Int32) : Met l yX2_get wsX2_get ({ frames := 1, cells := 0, slots := 0, locals := 30 } : Room) (sf_Pre (dC, dI) vwCl [(cB, .byte), (cT, .object "ByteShelf$Row")] [.ref a0, .int row, .int i] (sf_w a0 a1 a2 a3 cB cT LP gb md ct tb nm tk oc en fs la g st ln bf af) sz) (vp_Si (fun r => r = zs_get z row i)) 0 0 (fun _ => False) := by
  refine Met.ofW (cc := cX2_get) (maxL := 4) (ret := (some .int)) (by decide) rfl ?_
  intro p e s m args below meth c s₁ B hml hv
  obtain ⟨rfl, hsz, hP, hK, hD0, hN⟩ := hv
  have hx := B.exec
  have hb := B.bytes
  have hr := B.returns
  have hts := atoms_spec (ws := wsX2_get) B.pre
  have hown : s.vm.findClass RX2 = some m.cls := findClass_of_methodNamed B.named
  have hlocks := B.notSynchronized
  subst hsz
  have hD := hD0.self (sz := s.heap.size)
  generalize hAe : va_A (sf_w a0 a1 a2 a3 cB cT LP gb md ct tb nm tk oc en fs la g st ln bf af) s.heap.size = A at hD ⊢
  have hA : ∀ q : Nat, s.heap.size ≤ q → A q := fun q h => by rw [← hAe]; exact Or.inr h
  have hS : va_S A s.heap s.heap [] := va_S.rf
  have hl := lv_entry ([.ref a0, .int row, .int i]) (n := 4) (Nat.le_of_ble_eq_true rfl)
  rw [lg_entry_eq]
  generalize (lg_sl ([.ref a0, .int row, .int i]) ++ List.replicate (4 - (lg_sl ([.ref a0, .int row, .int i])).length) Slot.unset).toArray = ls at hl ⊢
  have hl : lv_has ls 4 [(0, .ref a0), (1, .int row), (2, .int i)] := hl
  refine lv_aload_n hx hb dX2_get_0 rfl (lv_at hl 0 rfl) ?_
  refine lv_iload_n hx hb dX2_get_1 rfl (lv_at hl 1 rfl) ?_
  refine va_csq (va_Run.run (sf_runV (b := a0) (As := [.int row]) (rest := []) ⟨hx, hb, hml, hown, hts⟩ sf_has (c_find l dC dI a0 a1 a2 a3 cB cT LP gb md ct tb nm tk oc en fs la g st ln bf af _ _ (sf_CI_find hI).1 (sf_CI_find hI).2.1 (sf_CI_find hI).2.2) k_X2_59 ⟨sf_blind, va_recv hK hP (ci := 2) (q0 := 0) rfl rfl, sf_preU hP hK hD hN⟩ rfl hl.1 (Nat.le_of_ble_eq_true rfl) ⟨(Nat.le_of_ble_eq_true rfl), (Nat.le_of_ble_eq_true rfl)⟩ ⟨rfl, rfl⟩ ⟨Nat.zero_le _, Nat.zero_le _⟩ dX2_get_2)) (fun r_2 h_2 => ?_)
  rcases h_2 with h_2 | h_2
  · obtain ⟨k_2, a_2, q1_2, q2_2, q3_2, q4_2, q5_2, q6_2⟩ := h_2
    subst q2_2
    subst q6_2
    obtain ⟨f1_2, f2_2, f3_2, f4_2, f5_2, f6_2, f7_2⟩ := sf_zr_some hI hR q1_2 q3_2 q5_2
    have hl : lv_has ls 4 [(0, .ref a0), (1, .int (nI k_2)), (2, .int i)] := hl
    refine lv_astore_n (lv' := [(3, .ref a_2), (0, .ref a0), (1, .int (nI k_2)), (2, .int i)]) hx hb dX2_get_5 rfl hl (by decide) rfl (fun ls hl => ?_)
    refine lv_aload_n hx hb dX2_get_6 rfl (lv_at hl 0 rfl) ?_
    refine lv_ifnull hx hb dX2_get_7 ?_
    refine lv_aload_n hx hb dX2_get_10 rfl (lv_at hl 0 rfl) ?_
    refine lv_iload_n hx hb dX2_get_11 rfl (lv_at hl 3 rfl) ?_
    refine vp_callSi (va_Run.run (sf_runS (As := [.ref a_2, .int i]) (rest := []) ⟨hx, hb, hml, hown, hts⟩ sf_has (c_hasByte l dC dI a0 a1 a2 a3 cB cT LP gb md ct tb nm tk oc en fs la g st ln bf af _ a_2 q4_2 f6_2 i) k_X2_74 ⟨sf_blind, sf_preU hP hK hD hN⟩ rfl hl.1 (Nat.le_of_ble_eq_true rfl) ⟨(Nat.le_of_ble_eq_true rfl), (Nat.le_of_ble_eq_true rfl)⟩ ⟨rfl, rfl⟩ ⟨Nat.zero_le _, Nat.zero_le _⟩ dX2_get_12)) (fun r_12 h_12 => ?_)
    rcases h_12 with ⟨rfl, h_12⟩ | ⟨rfl, h_12⟩
    · obtain ⟨j, hj, rfl⟩ := h_12
      have hl : lv_has ls 4 [(3, .ref a_2), (0, .ref a0), (1, .int (nI k_2)), (2, .int (nI j))] := hl
      have hzj : zi (nI j) (zLn z k_2) = some j := by rw [f4_2]; exact zi_some hj (by omega)
      refine sf_if_ne (tgt := 20) hx hb (by decide) dX2_get_15 (by decide) (fun _ => ?_) (fun c_15 => absurd c_15 (by decide))
      refine lv_aload_n hx hb dX2_get_20 rfl (lv_at hl 1 rfl) ?_
      refine va_get (D := (dC, dI)) (ci := 2) (v := .ref a1) (C := RX2) (T := TX2) (N := 5) hx hb hts sf_inX2 hown hK hP 0 rfl rfl 0 (by decide) (hts _ (sf_mem fl_X2_10 rfl)) (fun _ h9 => h9) rfl dX2_get_21 ?_
      refine va_get (D := (dC, dI)) (ci := 0) (v := .ref a2) (C := RX0) (T := TX0) (N := 5) hx hb hts sf_inX0 hown hK hP 1 rfl rfl 0 (by decide) (hts _ (sf_mem fl_X2_77 rfl)) (fun _ h9 => h9) rfl dX2_get_24 ?_
      refine lv_aload_n hx hb dX2_get_27 rfl (lv_at hl 0 rfl) ?_
      refine sf_rget (D := (dC, dI)) (ci := 1) (v := .int (nI (st a_2))) (C := RX1) (T := TX1) (N := 6) hx hb hts sf_inX1 hown hK hP q4_2 rfl rfl 2 (by decide) (hts _ (sf_mem fl_X2_81 rfl)) (fun _ h9 => h9) rfl dX2_get_28 ?_
      refine lv_iload_n hx hb dX2_get_31 rfl (lv_at hl 3 rfl) ?_
      refine sf_iadd hx hb dX2_get_32 ?_
      refine sf_bald hx hb hK hP 2 0 rfl rfl (by omega) (by decide) dX2_get_33 ?_
      refine lv_sipush (v := nI 255) hx hb dX2_get_34 (by decide) ?_
      refine lv_iand hx hb dX2_get_37 ?_
      exact W.iret (v := (g (st a_2 + j) &&& nI 255)) hx hb hr (fun t ht hW => ⟨_, rfl, by rw [zs_get_3 f1_2 hzj, f5_2 j hj]; rfl, ht⟩) sf_noloc dX2_get_38
    · have hzj : zi i (zLn z k_2) = none := by rw [f4_2]; exact zi_none (by omega) h_12
      refine sf_if_ne (tgt := 20) hx hb (by decide) dX2_get_15 (by decide) (fun c_15 => absurd c_15 (by decide)) (fun _ => ?_)
      refine lv_iconst (v := -1) hx hb dX2_get_18 (by decide) ?_
      exact W.iret (v := -1) hx hb hr (fun t ht hW => ⟨_, rfl, (zs_get_2 f1_2 hzj).symm, ht⟩) sf_noloc dX2_get_19
  · obtain ⟨q1_2, q2_2⟩ := h_2
    subst q1_2
    have f1_2 := sf_zr_none hI hR q2_2
    refine lv_astore_nN (lv' := [(3, .null), (0, .ref a0), (1, .int row), (2, .int i)]) hx hb dX2_get_5 rfl hl (by decide) rfl (fun ls hl => ?_)
    refine lv_aload_nN hx hb dX2_get_6 rfl (lv_at hl 0 rfl) ?_
    refine lv_ifnullN (tgt := 18) hx hb dX2_get_7 (by decide) ?_
    refine lv_iconst (v := -1) hx hb dX2_get_18 (by decide) ?_
    exact W.iret (v := -1) hx hb hr (fun t ht hW => ⟨_, rfl, (zs_get_1 f1_2).symm, ht⟩) sf_noloc dX2_get_19
set_option maxHeartbeats 4000000 in
set_option maxRecDepth 100000 in
/-- size(row) -/
theorem c_size (l : Launch) (dC : Nat → ClassId) (dI : Nat → Nat → Nat) (a0 a1 a2 a3 : Nat) (cB cT : ClassId) (LP : List Nat) (gb : Option Nat) (md ct : Nat) (tb : Nat → Option Nat) (nm tk : Nat → Nat) (oc en : Nat) (fs la : Option Nat) (g : Nat → Int32) (st ln : Nat → Nat) (bf af : Nat → Option Nat) (sz : Nat) (z : sf_Z) (cs fr : List Nat) (hI : sf_CI LP gb md ct tb nm tk oc en fs la g st ln bf af cs fr) (hR : sf_CR LP nm tk ln st g cs fr ct oc z) (row : Int32) : Met l yX2_size wsX2_size ({ frames := 1, cells := 0, slots := 0, locals := 30 } : Room) (sf_Pre (dC, dI) vwCl [(cB, .byte), (cT, .object "ByteShelf$Row")] [.ref a0, .int row] (sf_w a0 a1 a2 a3 cB cT LP gb md ct tb nm tk oc en fs la g st ln bf af) sz) (vp_Si (fun r => r = zs_size z row)) 0 0 (fun _ => False) := by
  refine Met.ofW (cc := cX2_size) (maxL := 3) (ret := (some .int)) (by decide) rfl ?_
  intro p e s m args below meth c s₁ B hml hv
  obtain ⟨rfl, hsz, hP, hK, hD0, hN⟩ := hv
  have hx := B.exec
  have hb := B.bytes
  have hr := B.returns
  have hts := atoms_spec (ws := wsX2_size) B.pre
  have hown : s.vm.findClass RX2 = some m.cls := findClass_of_methodNamed B.named
  have hlocks := B.notSynchronized
  subst hsz
  have hD := hD0.self (sz := s.heap.size)
  generalize hAe : va_A (sf_w a0 a1 a2 a3 cB cT LP gb md ct tb nm tk oc en fs la g st ln bf af) s.heap.size = A at hD ⊢
  have hA : ∀ q : Nat, s.heap.size ≤ q → A q := fun q h => by rw [← hAe]; exact Or.inr h
  have hS : va_S A s.heap s.heap [] := va_S.rf
  have hl := lv_entry ([.ref a0, .int row]) (n := 3) (Nat.le_of_ble_eq_true rfl)
  rw [lg_entry_eq]
  generalize (lg_sl ([.ref a0, .int row]) ++ List.replicate (3 - (lg_sl ([.ref a0, .int row])).length) Slot.unset).toArray = ls at hl ⊢
  have hl : lv_has ls 3 [(0, .ref a0), (1, .int row)] := hl
  refine lv_aload_n hx hb dX2_size_0 rfl (lv_at hl 0 rfl) ?_
  refine lv_iload_n hx hb dX2_size_1 rfl (lv_at hl 1 rfl) ?_
  refine va_csq (va_Run.run (sf_runV (b := a0) (As := [.int row]) (rest := []) ⟨hx, hb, hml, hown, hts⟩ sf_has (c_find l dC dI a0 a1 a2 a3 cB cT LP gb md ct tb nm tk oc en fs la g st ln bf af _ _ (sf_CI_find hI).1 (sf_CI_find hI).2.1 (sf_CI_find hI).2.2) k_X2_59 ⟨sf_blind, va_recv hK hP (ci := 2) (q0 := 0) rfl rfl, sf_preU hP hK hD hN⟩ rfl hl.1 (Nat.le_of_ble_eq_true rfl) ⟨(Nat.le_of_ble_eq_true rfl), (Nat.le_of_ble_eq_true rfl)⟩ ⟨rfl, rfl⟩ ⟨Nat.zero_le _, Nat.zero_le _⟩ dX2_size_2)) (fun r_2 h_2 => ?_)
  rcases h_2 with h_2 | h_2
  · obtain ⟨k_2, a_2, q1_2, q2_2, q3_2, q4_2, q5_2, q6_2⟩ := h_2
    subst q2_2
    subst q6_2
    obtain ⟨f1_2, f2_2, f3_2, f4_2, f5_2, f6_2, f7_2⟩ := sf_zr_some hI hR q1_2 q3_2 q5_2
    have hl : lv_has ls 3 [(0, .ref a0), (1, .int (nI k_2))] := hl
    refine lv_astore_n (lv' := [(2, .ref a_2), (0, .ref a0), (1, .int (nI k_2))]) hx hb dX2_size_5 rfl hl (by decide) rfl (fun ls hl => ?_)
    refine lv_aload_n hx hb dX2_size_6 rfl (lv_at hl 0 rfl) ?_
    refine lv_ifnonnull (tgt := 14) hx hb dX2_size_7 (by decide) ?_
    refine lv_aload_n hx hb dX2_size_14 rfl (lv_at hl 0 rfl) ?_
    refine sf_rget (D := (dC, dI)) (ci := 1) (v := .int (nI (ln a_2))) (C := RX1) (T := TX1) (N := 6) hx hb hts sf_inX1 hown hK hP q4_2 rfl rfl 3 (by decide) (hts _ (sf_mem fl_X2_88 rfl)) (fun _ h9 => h9) rfl dX2_size_15 ?_
    exact W.iret (v := nI (ln a_2)) hx hb hr (fun t ht hW => ⟨_, rfl, by rw [zs_size_2 f1_2, f4_2], ht⟩) sf_noloc dX2_size_18
  · obtain ⟨q1_2, q2_2⟩ := h_2
    subst q1_2
    have f1_2 := sf_zr_none hI hR q2_2
    refine lv_astore_nN (lv' := [(2, .null), (0, .ref a0), (1, .int row)]) hx hb dX2_size_5 rfl hl (by decide) rfl (fun ls hl => ?_)
    refine lv_aload_nN hx hb dX2_size_6 rfl (lv_at hl 0 rfl) ?_
    refine lv_ifnonnullN hx hb dX2_size_7 ?_
    refine lv_iconst (v := -1) hx hb dX2_size_10 (by decide) ?_
    refine lv_goto (tgt := 18) hx hb dX2_size_11 (by decide) ?_
    exact W.iret (v := -1) hx hb hr (fun t ht hW => ⟨_, rfl, (zs_size_1 f1_2).symm, ht⟩) sf_noloc dX2_size_18
set_option maxHeartbeats 4000000 in
set_option maxRecDepth 100000 in
/-- rows() -/
theorem c_rows (l : Launch) (dC : Nat → ClassId) (dI : Nat → Nat → Nat) (a0 a1 a2 a3 : Nat) (cB cT : ClassId) (LP : List Nat) (gb : Option Nat) (md ct : Nat) (tb : Nat → Option Nat) (nm tk : Nat → Nat) (oc en : Nat) (fs la : Option Nat) (g : Nat → Int32) (st ln : Nat → Nat) (bf af : Nat → Option Nat) (sz : Nat) (z : sf_Z) (cs fr : List Nat) (hI : sf_CI LP gb md ct tb nm tk oc en fs la g st ln bf af cs fr) (hR : sf_CR LP nm tk ln st g cs fr ct oc z)  : Met l yX2_rows wsX2_rows ({ frames := 0, cells := 0, slots := 0, locals := 0 } : Room) (sf_Pre (dC, dI) vwCl [(cB, .byte), (cT, .object "ByteShelf$Row")] [.ref a0] (sf_w a0 a1 a2 a3 cB cT LP gb md ct tb nm tk oc en fs la g st ln bf af) sz) (vp_Si (fun r => r = nI (zCt z))) 0 0 (fun _ => False) := by
  refine Met.ofW (cc := cX2_rows) (maxL := 1) (ret := (some .int)) (by decide) rfl ?_
  intro p e s m args below meth c s₁ B hml hv
  obtain ⟨rfl, hsz, hP, hK, hD0, hN⟩ := hv
  have hx := B.exec
  have hb := B.bytes
  have hr := B.returns
  have hts := atoms_spec (ws := wsX2_rows) B.pre
  have hown : s.vm.findClass RX2 = some m.cls := findClass_of_methodNamed B.named
  have hlocks := B.notSynchronized
  subst hsz
  have hD := hD0.self (sz := s.heap.size)
  generalize hAe : va_A (sf_w a0 a1 a2 a3 cB cT LP gb md ct tb nm tk oc en fs la g st ln bf af) s.heap.size = A at hD ⊢
  have hA : ∀ q : Nat, s.heap.size ≤ q → A q := fun q h => by rw [← hAe]; exact Or.inr h
  have hS : va_S A s.heap s.heap [] := va_S.rf
  have hl := lv_entry ([.ref a0]) (n := 1) (Nat.le_of_ble_eq_true rfl)
  rw [lg_entry_eq]
  generalize (lg_sl ([.ref a0]) ++ List.replicate (1 - (lg_sl ([.ref a0])).length) Slot.unset).toArray = ls at hl ⊢
  have hl : lv_has ls 1 [(0, .ref a0)] := hl
  refine lv_aload_n hx hb dX2_rows_0 rfl (lv_at hl 0 rfl) ?_
  refine va_get (D := (dC, dI)) (ci := 2) (v := .int (nI ct)) (C := RX2) (T := TX2) (N := 5) hx hb hts sf_inX2 hown hK hP 0 rfl rfl 4 (by decide) (hts _ (sf_mem fl_X2_30 rfl)) (fun _ h9 => h9) rfl dX2_rows_1 ?_
  exact W.iret (v := nI ct) hx hb hr (fun t ht hW => ⟨_, rfl, by rw [hR.2.2.2.2.1], ht⟩) sf_noloc dX2_rows_4
set_option maxHeartbeats 4000000 in
set_option maxRecDepth 100000 in
/-- places() -/
theorem c_places (l : Launch) (dC : Nat → ClassId) (dI : Nat → Nat → Nat) (a0 a1 a2 a3 : Nat) (cB cT : ClassId) (LP : List Nat) (gb : Option Nat) (md ct : Nat) (tb : Nat → Option Nat) (nm tk : Nat → Nat) (oc en : Nat) (fs la : Option Nat) (g : Nat → Int32) (st ln : Nat → Nat) (bf af : Nat → Option Nat) (sz : Nat) (z : sf_Z) (cs fr : List Nat) (hI : sf_CI LP gb md ct tb nm tk oc en fs la g st ln bf af cs fr) (hR : sf_CR LP nm tk ln st g cs fr ct oc z)  : Met l yX2_places wsX2_places ({ frames := 0, cells := 0, slots := 0, locals := 0 } : Room) (sf_Pre (dC, dI) vwCl [(cB, .byte), (cT, .object "ByteShelf$Row")] [.ref a0] (sf_w a0 a1 a2 a3 cB cT LP gb md ct tb nm tk oc en fs la g st ln bf af) sz) (vp_Si (fun r => r = nI (zOc z))) 0 0 (fun _ => False) := by
  refine Met.ofW (cc := cX2_places) (maxL := 1) (ret := (some .int)) (by decide) rfl ?_
  intro p e s m args below meth c s₁ B hml hv
  obtain ⟨rfl, hsz, hP, hK, hD0, hN⟩ := hv
  have hx := B.exec
  have hb := B.bytes
  have hr := B.returns
  have hts := atoms_spec (ws := wsX2_places) B.pre
  have hown : s.vm.findClass RX2 = some m.cls := findClass_of_methodNamed B.named
  have hlocks := B.notSynchronized
  subst hsz
  have hD := hD0.self (sz := s.heap.size)
  generalize hAe : va_A (sf_w a0 a1 a2 a3 cB cT LP gb md ct tb nm tk oc en fs la g st ln bf af) s.heap.size = A at hD ⊢
  have hA : ∀ q : Nat, s.heap.size ≤ q → A q := fun q h => by rw [← hAe]; exact Or.inr h
  have hS : va_S A s.heap s.heap [] := va_S.rf
  have hl := lv_entry ([.ref a0]) (n := 1) (Nat.le_of_ble_eq_true rfl)
  rw [lg_entry_eq]
  generalize (lg_sl ([.ref a0]) ++ List.replicate (1 - (lg_sl ([.ref a0])).length) Slot.unset).toArray = ls at hl ⊢
  have hl : lv_has ls 1 [(0, .ref a0)] := hl
  refine lv_aload_n hx hb dX2_places_0 rfl (lv_at hl 0 rfl) ?_
  refine va_get (D := (dC, dI)) (ci := 2) (v := .ref a1) (C := RX2) (T := TX2) (N := 5) hx hb hts sf_inX2 hown hK hP 0 rfl rfl 0 (by decide) (hts _ (sf_mem fl_X2_10 rfl)) (fun _ h9 => h9) rfl dX2_places_1 ?_
  refine va_get (D := (dC, dI)) (ci := 0) (v := .int (nI oc)) (C := RX0) (T := TX0) (N := 5) hx hb hts sf_inX0 hown hK hP 1 rfl rfl 1 (by decide) (hts _ (sf_mem fl_X2_106 rfl)) (fun _ h9 => h9) rfl dX2_places_4 ?_
  exact W.iret (v := nI oc) hx hb hr (fun t ht hW => ⟨_, rfl, by rw [hR.2.2.2.2.2], ht⟩) sf_noloc dX2_places_7
set_option maxHeartbeats 4000000 in
set_option maxRecDepth 100000 in
/-- sum(row) -/
theorem c_sum (l : Launch) (dC : Nat → ClassId) (dI : Nat → Nat → Nat) (a0 a1 a2 a3 : Nat) (cB cT : ClassId) (LP : List Nat) (gb : Option Nat) (md ct : Nat) (tb : Nat → Option Nat) (nm tk : Nat → Nat) (oc en : Nat) (fs la : Option Nat) (g : Nat → Int32) (st ln : Nat → Nat) (bf af : Nat → Option Nat) (sz : Nat) (z : sf_Z) (cs fr : List Nat) (hI : sf_CI LP gb md ct tb nm tk oc en fs la g st ln bf af cs fr) (hR : sf_CR LP nm tk ln st g cs fr ct oc z) (row : Int32) : Met l yX2_sum wsX2_sum ({ frames := 1, cells := 0, slots := 0, locals := 30 } : Room) (sf_Pre (dC, dI) vwCl [(cB, .byte), (cT, .object "ByteShelf$Row")] [.ref a0, .int row] (sf_w a0 a1 a2 a3 cB cT LP gb md ct tb nm tk oc en fs la g st ln bf af) sz) (vp_Si (fun r => r = zs_sum z row)) 0 0 (fun _ => False) := by
  refine Met.ofW (cc := cX2_sum) (maxL := 7) (ret := (some .int)) (by decide) rfl ?_
  intro p e s m args below meth c s₁ B hml hv
  obtain ⟨rfl, hsz, hP, hK, hD0, hN⟩ := hv
  have hx := B.exec
  have hb := B.bytes
  have hr := B.returns
  have hts := atoms_spec (ws := wsX2_sum) B.pre
  have hown : s.vm.findClass RX2 = some m.cls := findClass_of_methodNamed B.named
  have hlocks := B.notSynchronized
  subst hsz
  have hD := hD0.self (sz := s.heap.size)
  generalize hAe : va_A (sf_w a0 a1 a2 a3 cB cT LP gb md ct tb nm tk oc en fs la g st ln bf af) s.heap.size = A at hD ⊢
  have hA : ∀ q : Nat, s.heap.size ≤ q → A q := fun q h => by rw [← hAe]; exact Or.inr h
  have hS : va_S A s.heap s.heap [] := va_S.rf
  have hl := lv_entry ([.ref a0, .int row]) (n := 7) (Nat.le_of_ble_eq_true rfl)
  rw [lg_entry_eq]
  generalize (lg_sl ([.ref a0, .int row]) ++ List.replicate (7 - (lg_sl ([.ref a0, .int row])).length) Slot.unset).toArray = ls at hl ⊢
  have hl : lv_has ls 7 [(0, .ref a0), (1, .int row)] := hl
  refine lv_aload_n hx hb dX2_sum_0 rfl (lv_at hl 0 rfl) ?_
  refine lv_iload_n hx hb dX2_sum_1 rfl (lv_at hl 1 rfl) ?_
  refine va_csq (va_Run.run (sf_runV (b := a0) (As := [.int row]) (rest := []) ⟨hx, hb, hml, hown, hts⟩ sf_has (c_find l dC dI a0 a1 a2 a3 cB cT LP gb md ct tb nm tk oc en fs la g st ln bf af _ _ (sf_CI_find hI).1 (sf_CI_find hI).2.1 (sf_CI_find hI).2.2) k_X2_59 ⟨sf_blind, va_recv hK hP (ci := 2) (q0 := 0) rfl rfl, sf_preU hP hK hD hN⟩ rfl hl.1 (Nat.le_of_ble_eq_true rfl) ⟨(Nat.le_of_ble_eq_true rfl), (Nat.le_of_ble_eq_true rfl)⟩ ⟨rfl, rfl⟩ ⟨Nat.zero_le _, Nat.zero_le _⟩ dX2_sum_2)) (fun r_2 h_2 => ?_)
  rcases h_2 with h_2 | h_2
  · obtain ⟨k_2, a_2, q1_2, q2_2, q3_2, q4_2, q5_2, q6_2⟩ := h_2
    subst q2_2
    subst q6_2
    obtain ⟨f1_2, f2_2, f3_2, f4_2, f5_2, f6_2, f7_2⟩ := sf_zr_some hI hR q1_2 q3_2 q5_2
    have hl : lv_has ls 7 [(0, .ref a0), (1, .int (nI k_2))] := hl
    refine lv_astore_n (lv' := [(2, .ref a_2), (0, .ref a0), (1, .int (nI k_2))]) hx hb dX2_sum_5 rfl hl (by decide) rfl (fun ls hl => ?_)
    refine lv_aload_n hx hb dX2_sum_6 rfl (lv_at hl 0 rfl) ?_
    refine lv_ifnonnull (tgt := 12) hx hb dX2_sum_7 (by decide) ?_
    refine lv_aload_n hx hb dX2_sum_12 rfl (lv_at hl 1 rfl) ?_
    refine va_get (D := (dC, dI)) (ci := 2) (v := .ref a1) (C := RX2) (T := TX2) (N := 5) hx hb hts sf_inX2 hown hK hP 0 rfl rfl 0 (by decide) (hts _ (sf_mem fl_X2_10 rfl)) (fun _ h9 => h9) rfl dX2_sum_13 ?_
    refine va_get (D := (dC, dI)) (ci := 0) (v := .ref a2) (C := RX0) (T := TX0) (N := 5) hx hb hts sf_inX0 hown hK hP 1 rfl rfl 0 (by decide) (hts _ (sf_mem fl_X2_77 rfl)) (fun _ h9 => h9) rfl dX2_sum_16 ?_
    refine lv_astore_n (lv' := [(3, .ref a2), (2, .ref a_2), (0, .ref a0), (1, .int (nI k_2))]) hx hb dX2_sum_19 rfl hl (by decide) rfl (fun ls hl => ?_)
    refine lv_aload_n hx hb dX2_sum_20 rfl (lv_at hl 1 rfl) ?_
    refine sf_rget (D := (dC, dI)) (ci := 1) (v := .int (nI (st a_2))) (C := RX1) (T := TX1) (N := 6) hx hb hts sf_inX1 hown hK hP q4_2 rfl rfl 2 (by decide) (hts _ (sf_mem fl_X2_81 rfl)) (fun _ h9 => h9) rfl dX2_sum_21 ?_
    refine lv_aload_n hx hb dX2_sum_24 rfl (lv_at hl 1 rfl) ?_
    refine sf_rget (D := (dC, dI)) (ci := 1) (v := .int (nI (ln a_2))) (C := RX1) (T := TX1) (N := 6) hx hb hts sf_inX1 hown hK hP q4_2 rfl rfl 3 (by decide) (hts _ (sf_mem fl_X2_88 rfl)) (fun _ h9 => h9) rfl dX2_sum_25 ?_
    refine sf_iadd hx hb dX2_sum_28 ?_
    refine lv_istore (lv' := [(4, .int (nI ((st a_2) + (ln a_2)))), (3, .ref a2), (2, .ref a_2), (0, .ref a0), (1, .int (nI k_2))]) hx hb dX2_sum_29 hl (by decide) rfl (fun ls hl => ?_)
    refine lv_bipush (v := nI 7) hx hb dX2_sum_31 (by decide) ?_
    refine lv_istore (lv' := [(5, .int (nI 7)), (4, .int (nI ((st a_2) + (ln a_2)))), (3, .ref a2), (2, .ref a_2), (0, .ref a0), (1, .int (nI k_2))]) hx hb dX2_sum_33 hl (by decide) rfl (fun ls hl => ?_)
    refine lv_aload_n hx hb dX2_sum_35 rfl (lv_at hl 3 rfl) ?_
    refine sf_rget (D := (dC, dI)) (ci := 1) (v := .int (nI (st a_2))) (C := RX1) (T := TX1) (N := 6) hx hb hts sf_inX1 hown hK hP q4_2 rfl rfl 2 (by decide) (hts _ (sf_mem fl_X2_81 rfl)) (fun _ h9 => h9) rfl dX2_sum_36 ?_
    refine lv_istore (lv' := [(6, .int (nI (st a_2))), (5, .int (nI 7)), (4, .int (nI ((st a_2) + (ln a_2)))), (3, .ref a2), (2, .ref a_2), (0, .ref a0), (1, .int (nI k_2))]) hx hb dX2_sum_39 hl (by decide) rfl (fun ls hl => ?_)
    refine sf_loop (σ := Nat × Int32) (fun u => ln a_2 - u.1) (fun u H locs ls => u.1 ≤ ln a_2 ∧ zsum (fun j => g (st a_2 + j)) (ln a_2 - u.1) u.1 u.2 = zsum (fun j => g (st a_2 + j)) (ln a_2) 0 7 ∧ H = s.heap ∧ locs = [] ∧ lv_has ls 7 [(0, .ref a0), (1, .int (nI k_2)), (2, .ref a_2), (3, .ref a2), (4, .int (nI (st a_2 + ln a_2))), (5, .int u.2), (6, .int (nI (st a_2 + u.1)))]) ?_ (0, 7) _ _ _ ?_
    · intro u H locs ls hI2 ih
      obtain ⟨i, v⟩ := u
      obtain ⟨k1, k2, rfl, rfl, hl⟩ := hI2
      dsimp only at k1 k2 hl ih
      refine lv_iload hx hb dX2_sum_41 (lv_at hl 6 rfl) ?_
      refine lv_iload hx hb dX2_sum_43 (lv_at hl 4 rfl) ?_
      refine sf_icmp_ge (tgt := 70) hx hb (by omega) (by omega) dX2_sum_45 (by decide) (fun c_45 => ?_) (fun c_45 => ?_)
      · refine lv_iload hx hb dX2_sum_70 (lv_at hl 5 rfl) ?_
        exact W.iret (v := v) hx hb hr (fun t ht hW => ⟨_, rfl, by
          rw [show i = ln a_2 by omega, Nat.sub_self] at k2
          rw [zs_sum_2 f1_2, f4_2, zsum_congr (f2 := fun j => g (st a_2 + j)) _ _ _ (fun j _ hj => f5_2 j (by omega)), ← k2]
          rfl, ht⟩) sf_noloc dX2_sum_72
      · refine lv_bipush (v := nI 31) hx hb dX2_sum_48 (by decide) ?_
        refine lv_iload hx hb dX2_sum_50 (lv_at hl 5 rfl) ?_
        refine lv_imul hx hb dX2_sum_52 ?_
        refine lv_aload_n hx hb dX2_sum_53 rfl (lv_at hl 3 rfl) ?_
        refine lv_iload hx hb dX2_sum_54 (lv_at hl 6 rfl) ?_
        refine sf_bald hx hb hK hP 2 0 rfl rfl (by omega) (by decide) dX2_sum_56 ?_
        refine lv_sipush (v := nI 255) hx hb dX2_sum_57 (by decide) ?_
        refine lv_iand hx hb dX2_sum_60 ?_
        refine lv_iadd hx hb dX2_sum_61 ?_
        refine lv_istore (lv' := [(5, .int (((nI 31) * v) + ((g (st a_2 + i)) &&& (nI 255)))), (0, .ref a0), (1, .int (nI k_2)), (2, .ref a_2), (3, .ref a2), (4, .int (nI (st a_2 + ln a_2))), (6, .int (nI (st a_2 + i)))]) hx hb dX2_sum_62 hl (by decide) rfl (fun ls hl => ?_)
        refine lv_iinc (v := nI ((st a_2 + i) + 1)) (lv' := [(6, .int (nI ((st a_2 + i) + 1))), (5, .int (((nI 31) * v) + ((g (st a_2 + i)) &&& (nI 255)))), (0, .ref a0), (1, .int (nI k_2)), (2, .ref a_2), (3, .ref a2), (4, .int (nI (st a_2 + ln a_2)))]) hx hb dX2_sum_64 hl (k := 6) rfl (nI_1 (st a_2 + i)) (by decide) rfl (fun ls hl => ?_)
        refine lv_goto (tgt := 41) hx hb dX2_sum_67 (by decide) ?_
        exact ih (i + 1, nI 31 * v + (g (st a_2 + i) &&& nI 255)) _ _ _ (by dsimp only; omega) ⟨by dsimp only; omega, by rw [← k2, zsum_go (c := ln a_2) (i := i) (by omega)]; rfl, rfl, rfl, lv_sub hl [2, 3, 4, 5, 6, 1, 0] rfl⟩
    · exact ⟨Nat.zero_le _, rfl, rfl, rfl, lv_sub hl [5, 6, 4, 3, 2, 1, 0] rfl⟩
  · obtain ⟨q1_2, q2_2⟩ := h_2
    subst q1_2
    have f1_2 := sf_zr_none hI hR q2_2
    refine lv_astore_nN (lv' := [(2, .null), (0, .ref a0), (1, .int row)]) hx hb dX2_sum_5 rfl hl (by decide) rfl (fun ls hl => ?_)
    refine lv_aload_nN hx hb dX2_sum_6 rfl (lv_at hl 0 rfl) ?_
    refine lv_ifnonnullN hx hb dX2_sum_7 ?_
    refine lv_iconst (v := nI 0) hx hb dX2_sum_10 (by decide) ?_
    exact W.iret (v := nI 0) hx hb hr (fun t ht hW => ⟨_, rfl, (zs_sum_1 f1_2).symm, ht⟩) sf_noloc dX2_sum_11
theorem sf_min {x y : Nat} (hx : x < 2 ^ 31) (hy : y < 2 ^ 31) : (if nI y < nI x then nI y else nI x) = nI (min x y) := by
  by_cases q : y < x
  · rw [if_pos ((nI_ltI hy hx).mpr q), show min x y = y by omega]
  · rw [if_neg (fun h => q ((nI_ltI hy hx).mp h)), show min x y = x by omega]
set_option maxHeartbeats 4000000 in
set_option maxRecDepth 100000 in
/-- compare(row, other) -/
theorem c_compare (l : Launch) (dC : Nat → ClassId) (dI : Nat → Nat → Nat) (a0 a1 a2 a3 : Nat) (cB cT : ClassId) (LP : List Nat) (gb : Option Nat) (md ct : Nat) (tb : Nat → Option Nat) (nm tk : Nat → Nat) (oc en : Nat) (fs la : Option Nat) (g : Nat → Int32) (st ln : Nat → Nat) (bf af : Nat → Option Nat) (sz : Nat) (z : sf_Z) (cs fr : List Nat) (hI : sf_CI LP gb md ct tb nm tk oc en fs la g st ln bf af cs fr) (hR : sf_CR LP nm tk ln st g cs fr ct oc z) (row other : Int32) : Met l yX2_compare wsX2_compare ({ frames := 1, cells := 0, slots := 0, locals := 30 } : Room) (sf_Pre (dC, dI) vwCl [(cB, .byte), (cT, .object "ByteShelf$Row")] [.ref a0, .int row, .int other] (sf_w a0 a1 a2 a3 cB cT LP gb md ct tb nm tk oc en fs la g st ln bf af) sz) (vp_Si (fun r => r = zs_compare z row other)) 0 0 (fun _ => False) := by
  refine Met.ofW (cc := cX2_compare) (maxL := 10) (ret := (some .int)) (by decide) rfl ?_
  intro p e s m args below meth c s₁ B hml hv
  obtain ⟨rfl, hsz, hP, hK, hD0, hN⟩ := hv
  have hx := B.exec
  have hb := B.bytes
  have hr := B.returns
  have hts := atoms_spec (ws := wsX2_compare) B.pre
  have hown : s.vm.findClass RX2 = some m.cls := findClass_of_methodNamed B.named
  have hlocks := B.notSynchronized
  subst hsz
  have hD := hD0.self (sz := s.heap.size)
  generalize hAe : va_A (sf_w a0 a1 a2 a3 cB cT LP gb md ct tb nm tk oc en fs la g st ln bf af) s.heap.size = A at hD ⊢
  have hA : ∀ q : Nat, s.heap.size ≤ q → A q := fun q h => by rw [← hAe]; exact Or.inr h
  have hS : va_S A s.heap s.heap [] := va_S.rf
  have hl := lv_entry ([.ref a0, .int row, .int other]) (n := 10) (Nat.le_of_ble_eq_true rfl)
  rw [lg_entry_eq]
  generalize (lg_sl ([.ref a0, .int row, .int other]) ++ List.replicate (10 - (lg_sl ([.ref a0, .int row, .int other])).length) Slot.unset).toArray = ls at hl ⊢
  have hl : lv_has ls 10 [(0, .ref a0), (1, .int row), (2, .int other)] := hl
  refine lv_aload_n hx hb dX2_compare_0 rfl (lv_at hl 0 rfl) ?_
  refine lv_iload_n hx hb dX2_compare_1 rfl (lv_at hl 1 rfl) ?_
  refine va_csq (va_Run.run (sf_runV (b := a0) (As := [.int row]) (rest := []) ⟨hx, hb, hml, hown, hts⟩ sf_has (c_find l dC dI a0 a1 a2 a3 cB cT LP gb md ct tb nm tk oc en fs la g st ln bf af _ _ (sf_CI_find hI).1 (sf_CI_find hI).2.1 (sf_CI_find hI).2.2) k_X2_59 ⟨sf_blind, va_recv hK hP (ci := 2) (q0 := 0) rfl rfl, sf_preU hP hK hD hN⟩ rfl hl.1 (Nat.le_of_ble_eq_true rfl) ⟨(Nat.le_of_ble_eq_true rfl), (Nat.le_of_ble_eq_true rfl)⟩ ⟨rfl, rfl⟩ ⟨Nat.zero_le _, Nat.zero_le _⟩ dX2_compare_2)) (fun r_2 h_2 => ?_)
  rcases h_2 with h_2 | h_2
  · obtain ⟨k_2, a_2, q1_2, q2_2, q3_2, q4_2, q5_2, q6_2⟩ := h_2
    subst q2_2
    subst q6_2
    obtain ⟨f1_2, f2_2, f3_2, f4_2, f5_2, f6_2, f7_2⟩ := sf_zr_some hI hR q1_2 q3_2 q5_2
    have hl : lv_has ls 10 [(0, .ref a0), (1, .int (nI k_2)), (2, .int other)] := hl
    refine lv_astore_n (lv' := [(3, .ref a_2), (0, .ref a0), (1, .int (nI k_2)), (2, .int other)]) hx hb dX2_compare_5 rfl hl (by decide) rfl (fun ls hl => ?_)
    refine lv_aload_n hx hb dX2_compare_6 rfl (lv_at hl 1 rfl) ?_
    refine lv_iload_n hx hb dX2_compare_7 rfl (lv_at hl 3 rfl) ?_
    refine va_csq (va_Run.run (sf_runV (b := a0) (As := [.int other]) (rest := []) ⟨hx, hb, hml, hown, hts⟩ sf_has (c_find l dC dI a0 a1 a2 a3 cB cT LP gb md ct tb nm tk oc en fs la g st ln bf af _ _ (sf_CI_find hI).1 (sf_CI_find hI).2.1 (sf_CI_find hI).2.2) k_X2_59 ⟨sf_blind, va_recv hK hP (ci := 2) (q0 := 0) rfl rfl, sf_preU hP hK hD hN⟩ rfl hl.1 (Nat.le_of_ble_eq_true rfl) ⟨(Nat.le_of_ble_eq_true rfl), (Nat.le_of_ble_eq_true rfl)⟩ ⟨rfl, rfl⟩ ⟨Nat.zero_le _, Nat.zero_le _⟩ dX2_compare_8)) (fun r_8 h_8 => ?_)
    rcases h_8 with h_8 | h_8
    · obtain ⟨k_8, a_8, q1_8, q2_8, q3_8, q4_8, q5_8, q6_8⟩ := h_8
      subst q2_8
      subst q6_8
      obtain ⟨f1_8, f2_8, f3_8, f4_8, f5_8, f6_8, f7_8⟩ := sf_zr_some hI hR q1_8 q3_8 q5_8
      have hl : lv_has ls 10 [(3, .ref a_2), (0, .ref a0), (1, .int (nI k_2)), (2, .int (nI k_8))] := hl
      refine lv_astore (lv' := [(4, .ref a_8), (3, .ref a_2), (0, .ref a0), (1, .int (nI k_2)), (2, .int (nI k_8))]) hx hb dX2_compare_11 hl (by decide) rfl (fun ls hl => ?_)
      refine lv_aload_n hx hb dX2_compare_13 rfl (lv_at hl 1 rfl) ?_
      refine lv_ifnull hx hb dX2_compare_14 ?_
      refine lv_aload hx hb dX2_compare_17 (lv_at hl 0 rfl) ?_
      refine lv_ifnonnull (tgt := 25) hx hb dX2_compare_19 (by decide) ?_
      refine lv_aload_n hx hb dX2_compare_25 rfl (lv_at hl 2 rfl) ?_
      refine va_get (D := (dC, dI)) (ci := 2) (v := .ref a1) (C := RX2) (T := TX2) (N := 5) hx hb hts sf_inX2 hown hK hP 0 rfl rfl 0 (by decide) (hts _ (sf_mem fl_X2_10 rfl)) (fun _ h9 => h9) rfl dX2_compare_26 ?_
      refine va_get (D := (dC, dI)) (ci := 0) (v := .ref a2) (C := RX0) (T := TX0) (N := 5) hx hb hts sf_inX0 hown hK hP 1 rfl rfl 0 (by decide) (hts _ (sf_mem fl_X2_77 rfl)) (fun _ h9 => h9) rfl dX2_compare_29 ?_
      refine lv_astore (lv' := [(5, .ref a2), (4, .ref a_8), (3, .ref a_2), (0, .ref a0), (1, .int (nI k_2)), (2, .int (nI k_8))]) hx hb dX2_compare_32 hl (by decide) rfl (fun ls hl => ?_)
      refine lv_aload_n hx hb dX2_compare_34 rfl (lv_at hl 2 rfl) ?_
      refine sf_rget (D := (dC, dI)) (ci := 1) (v := .int (nI (st a_2))) (C := RX1) (T := TX1) (N := 6) hx hb hts sf_inX1 hown hK hP q4_2 rfl rfl 2 (by decide) (hts _ (sf_mem fl_X2_81 rfl)) (fun _ h9 => h9) rfl dX2_compare_35 ?_
      refine lv_istore (lv' := [(6, .int (nI (st a_2))), (5, .ref a2), (4, .ref a_8), (3, .ref a_2), (0, .ref a0), (1, .int (nI k_2)), (2, .int (nI k_8))]) hx hb dX2_compare_38 hl (by decide) rfl (fun ls hl => ?_)
      refine lv_aload hx hb dX2_compare_40 (lv_at hl 2 rfl) ?_
      refine sf_rget (D := (dC, dI)) (ci := 1) (v := .int (nI (st a_8))) (C := RX1) (T := TX1) (N := 6) hx hb hts sf_inX1 hown hK hP q4_8 rfl rfl 2 (by decide) (hts _ (sf_mem fl_X2_81 rfl)) (fun _ h9 => h9) rfl dX2_compare_42 ?_
      refine lv_istore (lv' := [(7, .int (nI (st a_8))), (6, .int (nI (st a_2))), (5, .ref a2), (4, .ref a_8), (3, .ref a_2), (0, .ref a0), (1, .int (nI k_2)), (2, .int (nI k_8))]) hx hb dX2_compare_45 hl (by decide) rfl (fun ls hl => ?_)
      refine lv_aload_n hx hb dX2_compare_47 rfl (lv_at hl 4 rfl) ?_
      refine sf_rget (D := (dC, dI)) (ci := 1) (v := .int (nI (ln a_2))) (C := RX1) (T := TX1) (N := 6) hx hb hts sf_inX1 hown hK hP q4_2 rfl rfl 3 (by decide) (hts _ (sf_mem fl_X2_88 rfl)) (fun _ h9 => h9) rfl dX2_compare_48 ?_
      refine lv_aload hx hb dX2_compare_51 (lv_at hl 3 rfl) ?_
      refine sf_rget (D := (dC, dI)) (ci := 1) (v := .int (nI (ln a_8))) (C := RX1) (T := TX1) (N := 6) hx hb hts sf_inX1 hown hK hP q4_8 rfl rfl 3 (by decide) (hts _ (sf_mem fl_X2_88 rfl)) (fun _ h9 => h9) rfl dX2_compare_53 ?_
      refine va_mmin hx hb (hml.trans hl.1.symm) hown (hts _ (sf_mem ml_X2_97 rfl)) (hts _ (sf_mem sm_J9_min_7cf53 rfl)) (hts _ (sf_mem in_J9 rfl)) (hts _ (sf_mem co_J9_min_7cf53 rfl)) (Nat.le_of_ble_eq_true rfl) (Nat.le_of_ble_eq_true rfl) (Nat.zero_le _) (Nat.zero_le _) dX2_compare_56 ?_
      rw [sf_min (by omega) (by omega)]
      refine lv_istore (lv' := [(8, .int (nI (min (ln a_2) (ln a_8)))), (7, .int (nI (st a_8))), (6, .int (nI (st a_2))), (5, .ref a2), (4, .ref a_8), (3, .ref a_2), (0, .ref a0), (1, .int (nI k_2)), (2, .int (nI k_8))]) hx hb dX2_compare_59 hl (by decide) rfl (fun ls hl => ?_)
      refine lv_iconst (v := nI 0) hx hb dX2_compare_61 (by decide) ?_
      refine lv_istore (lv' := [(9, .int (nI 0)), (8, .int (nI (min (ln a_2) (ln a_8)))), (7, .int (nI (st a_8))), (6, .int (nI (st a_2))), (5, .ref a2), (4, .ref a_8), (3, .ref a_2), (0, .ref a0), (1, .int (nI k_2)), (2, .int (nI k_8))]) hx hb dX2_compare_62 hl (by decide) rfl (fun ls hl => ?_)
      refine sf_loop (σ := Nat) (fun u => min (ln a_2) (ln a_8) - u) (fun u H locs ls => u ≤ min (ln a_2) (ln a_8) ∧ zcmp (fun j => g (st a_2 + j)) (fun j => g (st a_8 + j)) (zord (ln a_2) (ln a_8)) (min (ln a_2) (ln a_8) - u) u = zcmp (fun j => g (st a_2 + j)) (fun j => g (st a_8 + j)) (zord (ln a_2) (ln a_8)) (min (ln a_2) (ln a_8)) 0 ∧ H = s.heap ∧ locs = [] ∧ lv_has ls 10 [(0, .ref a0), (1, .int (nI k_2)), (2, .int (nI k_8)), (3, .ref a_2), (4, .ref a_8), (5, .ref a2), (6, .int (nI (st a_2))), (7, .int (nI (st a_8))), (8, .int (nI (min (ln a_2) (ln a_8)))), (9, .int (nI u))]) ?_ 0 _ _ _ ?_
      · intro u H locs ls hI2 ih
        obtain ⟨i, rfl⟩ : ∃ i : Nat, i = u := ⟨u, rfl⟩
        obtain ⟨k1, k2, rfl, rfl, hl⟩ := hI2
        have hFa := hI.1.2.2.2.2.2.2.2.2.2 (st a_2 + i)
        have hFb := hI.1.2.2.2.2.2.2.2.2.2 (st a_8 + i)
        obtain ⟨x1, hx1, ex1⟩ := pk_andE (g (st a_2 + i)) (m := nI 255) 8 (by decide)
        obtain ⟨y1, hy1, ey1⟩ := pk_andE (g (st a_8 + i)) (m := nI 255) 8 (by decide)
        refine lv_iload hx hb dX2_compare_64 (lv_at hl 9 rfl) ?_
        refine lv_iload hx hb dX2_compare_66 (lv_at hl 8 rfl) ?_
        refine sf_icmp_ge (tgt := 124) hx hb (by omega) (by omega) dX2_compare_68 (by decide) (fun c_68 => ?_) (fun c_68 => ?_)
        · refine lv_aload_n hx hb dX2_compare_124 rfl (lv_at hl 3 rfl) ?_
          refine sf_rget (D := (dC, dI)) (ci := 1) (v := .int (nI (ln a_2))) (C := RX1) (T := TX1) (N := 6) hx hb hts sf_inX1 hown hK hP q4_2 rfl rfl 3 (by decide) (hts _ (sf_mem fl_X2_88 rfl)) (fun _ h9 => h9) rfl dX2_compare_125 ?_
          refine lv_aload hx hb dX2_compare_128 (lv_at hl 4 rfl) ?_
          refine sf_rget (D := (dC, dI)) (ci := 1) (v := .int (nI (ln a_8))) (C := RX1) (T := TX1) (N := 6) hx hb hts sf_inX1 hown hK hP q4_8 rfl rfl 3 (by decide) (hts _ (sf_mem fl_X2_88 rfl)) (fun _ h9 => h9) rfl dX2_compare_130 ?_
          refine vp_callSi (va_Run.run (sf_runS (As := [.int (nI (ln a_2)), .int (nI (ln a_8))]) (rest := []) ⟨hx, hb, hml, hown, hts⟩ sf_has (c_order l (ln a_2) (ln a_8) (by omega) (by omega)) k_X2_103 ⟨sf_blindT, sf_preT⟩ rfl hl.1 (Nat.le_of_ble_eq_true rfl) ⟨(Nat.le_of_ble_eq_true rfl), (Nat.le_of_ble_eq_true rfl)⟩ ⟨rfl, rfl⟩ ⟨Nat.zero_le _, Nat.zero_le _⟩ dX2_compare_133)) (fun r_133 h_133 => ?_)
          subst h_133
          exact W.iret (v := (if ln a_2 = ln a_8 then 0 else if ln a_2 < ln a_8 then -1 else 1)) hx hb hr (fun t ht hW => ⟨_, rfl, by
            rw [show i = min (ln a_2) (ln a_8) by omega, Nat.sub_self] at k2
            rw [zs_cmp_3 f1_2 f1_8, f4_2, f4_8, zcmp_congr (f2 := fun j => g (st a_2 + j)) (g2 := fun j => g (st a_8 + j)) _ _ (fun j _ hj => ⟨f5_2 j (by omega), f5_8 j (by omega)⟩), ← k2]
            rfl, ht⟩) sf_noloc dX2_compare_136
        · refine lv_aload hx hb dX2_compare_71 (lv_at hl 5 rfl) ?_
          refine lv_iload hx hb dX2_compare_73 (lv_at hl 6 rfl) ?_
          refine lv_iload hx hb dX2_compare_75 (lv_at hl 9 rfl) ?_
          refine sf_iadd hx hb dX2_compare_77 ?_
          refine sf_bald hx hb hK hP 2 0 rfl rfl (by omega) (by decide) dX2_compare_78 ?_
          refine lv_aload hx hb dX2_compare_79 (lv_at hl 5 rfl) ?_
          refine lv_iload hx hb dX2_compare_81 (lv_at hl 7 rfl) ?_
          refine lv_iload hx hb dX2_compare_83 (lv_at hl 9 rfl) ?_
          refine sf_iadd hx hb dX2_compare_85 ?_
          refine sf_bald hx hb hK hP 2 0 rfl rfl (by omega) (by decide) dX2_compare_86 ?_
          refine lv_icmp_eq (tgt := 118) hx hb dX2_compare_87 (by decide) (fun c_87 => ?_) (fun c_87 => ?_)
          · refine lv_iinc (v := nI (i + 1)) (lv' := [(9, .int (nI (i + 1))), (0, .ref a0), (1, .int (nI k_2)), (2, .int (nI k_8)), (3, .ref a_2), (4, .ref a_8), (5, .ref a2), (6, .int (nI (st a_2))), (7, .int (nI (st a_8))), (8, .int (nI (min (ln a_2) (ln a_8))))]) hx hb dX2_compare_118 hl (k := 9) rfl (nI_1 i) (by decide) rfl (fun ls hl => ?_)
            refine lv_goto (tgt := 64) hx hb dX2_compare_121 (by decide) ?_
            exact ih (i + 1) _ _ _ (by omega) ⟨by omega, by rw [← k2, zcmp_miss (c := min (ln a_2) (ln a_8)) (i := i) (by omega) c_87], rfl, rfl, lv_sub hl [1, 2, 3, 4, 5, 6, 7, 8, 9, 0] rfl⟩
          · refine lv_aload hx hb dX2_compare_90 (lv_at hl 5 rfl) ?_
            refine lv_iload hx hb dX2_compare_92 (lv_at hl 6 rfl) ?_
            refine lv_iload hx hb dX2_compare_94 (lv_at hl 9 rfl) ?_
            refine sf_iadd hx hb dX2_compare_96 ?_
            refine sf_bald hx hb hK hP 2 0 rfl rfl (by omega) (by decide) dX2_compare_97 ?_
            refine lv_sipush (v := nI 255) hx hb dX2_compare_98 (by decide) ?_
            refine lv_iand hx hb dX2_compare_101 ?_
            rw [ex1]
            refine lv_aload hx hb dX2_compare_102 (lv_at hl 5 rfl) ?_
            refine lv_iload hx hb dX2_compare_104 (lv_at hl 7 rfl) ?_
            refine lv_iload hx hb dX2_compare_106 (lv_at hl 9 rfl) ?_
            refine sf_iadd hx hb dX2_compare_108 ?_
            refine sf_bald hx hb hK hP 2 0 rfl rfl (by omega) (by decide) dX2_compare_109 ?_
            refine lv_sipush (v := nI 255) hx hb dX2_compare_110 (by decide) ?_
            refine lv_iand hx hb dX2_compare_113 ?_
            rw [ey1]
            refine vp_callSi (va_Run.run (sf_runS (As := [.int (nI x1), .int (nI y1)]) (rest := []) ⟨hx, hb, hml, hown, hts⟩ sf_has (c_order l x1 y1 (by omega) (by omega)) k_X2_103 ⟨sf_blindT, sf_preT⟩ rfl hl.1 (Nat.le_of_ble_eq_true rfl) ⟨(Nat.le_of_ble_eq_true rfl), (Nat.le_of_ble_eq_true rfl)⟩ ⟨rfl, rfl⟩ ⟨Nat.zero_le _, Nat.zero_le _⟩ dX2_compare_114)) (fun r_114 h_114 => ?_)
            subst h_114
            exact W.iret (v := (if x1 = y1 then 0 else if x1 < y1 then -1 else 1)) hx hb hr (fun t ht hW => ⟨_, rfl, by
              rw [zs_cmp_3 f1_2 f1_8, f4_2, f4_8, zcmp_congr (f2 := fun j => g (st a_2 + j)) (g2 := fun j => g (st a_8 + j)) _ _ (fun j _ hj => ⟨f5_2 j (by omega), f5_8 j (by omega)⟩), ← k2]
              exact (zcmp_hit (c := min (ln a_2) (ln a_8)) (i := i) (by omega) c_87 hFa hFb hx1 hy1 ex1 ey1).symm, ht⟩) sf_noloc dX2_compare_117
      · exact ⟨Nat.zero_le _, rfl, rfl, rfl, lv_sub hl [7, 8, 9, 6, 5, 4, 3, 2, 1, 0] rfl⟩
    · obtain ⟨q1_8, q2_8⟩ := h_8
      subst q1_8
      have f1_8 := sf_zr_none hI hR q2_8
      refine lv_astoreN (lv' := [(4, .null), (3, .ref a_2), (0, .ref a0), (1, .int (nI k_2)), (2, .int other)]) hx hb dX2_compare_11 hl (by decide) rfl (fun ls hl => ?_)
      refine lv_aload_n hx hb dX2_compare_13 rfl (lv_at hl 1 rfl) ?_
      refine lv_ifnull hx hb dX2_compare_14 ?_
      refine lv_aloadN hx hb dX2_compare_17 (lv_at hl 0 rfl) ?_
      refine lv_ifnonnullN hx hb dX2_compare_19 ?_
      refine lv_bipush (v := -2) hx hb dX2_compare_22 (by decide) ?_
      exact W.iret (v := -2) hx hb hr (fun t ht hW => ⟨_, rfl, (zs_cmp_2 f1_8).symm, ht⟩) sf_noloc dX2_compare_24
  · obtain ⟨q1_2, q2_2⟩ := h_2
    subst q1_2
    have f1_2 := sf_zr_none hI hR q2_2
    refine lv_astore_nN (lv' := [(3, .null), (0, .ref a0), (1, .int row), (2, .int other)]) hx hb dX2_compare_5 rfl hl (by decide) rfl (fun ls hl => ?_)
    refine lv_aload_n hx hb dX2_compare_6 rfl (lv_at hl 1 rfl) ?_
    refine lv_iload_n hx hb dX2_compare_7 rfl (lv_at hl 3 rfl) ?_
    refine va_csq (va_Run.run (sf_runV (b := a0) (As := [.int other]) (rest := []) ⟨hx, hb, hml, hown, hts⟩ sf_has (c_find l dC dI a0 a1 a2 a3 cB cT LP gb md ct tb nm tk oc en fs la g st ln bf af _ _ (sf_CI_find hI).1 (sf_CI_find hI).2.1 (sf_CI_find hI).2.2) k_X2_59 ⟨sf_blind, va_recv hK hP (ci := 2) (q0 := 0) rfl rfl, sf_preU hP hK hD hN⟩ rfl hl.1 (Nat.le_of_ble_eq_true rfl) ⟨(Nat.le_of_ble_eq_true rfl), (Nat.le_of_ble_eq_true rfl)⟩ ⟨rfl, rfl⟩ ⟨Nat.zero_le _, Nat.zero_le _⟩ dX2_compare_8)) (fun r_8 h_8 => ?_)
    rcases h_8 with h_8 | h_8
    · obtain ⟨k_8, a_8, q1_8, q2_8, q3_8, q4_8, q5_8, q6_8⟩ := h_8
      subst q2_8
      subst q6_8
      obtain ⟨f1_8, f2_8, f3_8, f4_8, f5_8, f6_8, f7_8⟩ := sf_zr_some hI hR q1_8 q3_8 q5_8
      have hl : lv_has ls 10 [(3, .null), (0, .ref a0), (1, .int row), (2, .int (nI k_8))] := hl
      refine lv_astore (lv' := [(4, .ref a_8), (3, .null), (0, .ref a0), (1, .int row), (2, .int (nI k_8))]) hx hb dX2_compare_11 hl (by decide) rfl (fun ls hl => ?_)
      refine lv_aload_nN hx hb dX2_compare_13 rfl (lv_at hl 1 rfl) ?_
      refine lv_ifnullN (tgt := 22) hx hb dX2_compare_14 (by decide) ?_
      refine lv_bipush (v := -2) hx hb dX2_compare_22 (by decide) ?_
      exact W.iret (v := -2) hx hb hr (fun t ht hW => ⟨_, rfl, (zs_cmp_1 f1_2).symm, ht⟩) sf_noloc dX2_compare_24
    · obtain ⟨q1_8, q2_8⟩ := h_8
      subst q1_8
      have f1_8 := sf_zr_none hI hR q2_8
      refine lv_astoreN (lv' := [(4, .null), (3, .null), (0, .ref a0), (1, .int row), (2, .int other)]) hx hb dX2_compare_11 hl (by decide) rfl (fun ls hl => ?_)
      refine lv_aload_nN hx hb dX2_compare_13 rfl (lv_at hl 1 rfl) ?_
      refine lv_ifnullN (tgt := 22) hx hb dX2_compare_14 (by decide) ?_
      refine lv_bipush (v := -2) hx hb dX2_compare_22 (by decide) ?_
      exact W.iret (v := -2) hx hb hr (fun t ht hW => ⟨_, rfl, (zs_cmp_1 f1_2).symm, ht⟩) sf_noloc dX2_compare_24
end
section
/-! steps of the shelf's state (pure) -/
abbrev sf_Sx : Type := List Nat × Option Nat × Nat × Nat × (Nat → Option Nat) × (Nat → Nat) × (Nat → Nat) × Nat × Nat × Option Nat × Option Nat × (Nat → Int32) × (Nat → Nat) × (Nat → Nat) × (Nat → Option Nat) × (Nat → Option Nat)
def sf_OKu (u : sf_Sx) (z : sf_Z) : Prop := sf_OK u.1 u.2.1 u.2.2.1 u.2.2.2.1 u.2.2.2.2.1 u.2.2.2.2.2.1 u.2.2.2.2.2.2.1 u.2.2.2.2.2.2.2.1 u.2.2.2.2.2.2.2.2.1 u.2.2.2.2.2.2.2.2.2.1 u.2.2.2.2.2.2.2.2.2.2.1 u.2.2.2.2.2.2.2.2.2.2.2.1 u.2.2.2.2.2.2.2.2.2.2.2.2.1 u.2.2.2.2.2.2.2.2.2.2.2.2.2.1 u.2.2.2.2.2.2.2.2.2.2.2.2.2.2.1 u.2.2.2.2.2.2.2.2.2.2.2.2.2.2.2 z
section SFS
variable {LP : List Nat} {gb : Option Nat} {md ct : Nat} {tb : Nat → Option Nat} {nm tk : Nat → Nat} {oc en : Nat} {fs la : Option Nat} {g : Nat → Int32} {st ln : Nat → Nat} {bf af : Nat → Option Nat} {cs fr : List Nat} {z : sf_Z}
theorem sf_num (h : sf_CI LP gb md ct tb nm tk oc en fs la g st ln bf af cs fr) {k k2 a : Nat} (h1 : LP[k]? = some a) (h2 : LP[k2]? = some a) : k2 = k := by
  have e1 := h.2.2.2.2.1 k a h1
  have e2 := h.2.2.2.2.1 k2 a h2
  omega
theorem sf_cs_fr (h : sf_CI LP gb md ct tb nm tk oc en fs la g st ln bf af cs fr) {a : Nat} (h1 : a ∈ cs) (h2 : a ∈ fr) : False := by
  have e1 := h.2.2.2.2.2.1 a h1
  have e2 := (h.2.2.2.2.2.2.1 a h2).1
  omega
theorem sf_apart (h : sf_CI LP gb md ct tb nm tk oc en fs la g st ln bf af cs fr) {a x i j : Nat} (ha : a ∈ cs) (hx : x ∈ cs) (hne : x ≠ a) (hi : i < ln x) (hj : j < ln a) : st x + i ≠ st a + j := by
  have q := sf_lay_two h.1.2.2.2.2.2.1 hx ha hne
  have q1 := sf_P_ge (ln x)
  have q2 := sf_P_ge (ln a)
  omega
/-- other bytes in one row -/
theorem sf_OK_bytes {g2 : Nat → Int32} {k a : Nat} {f : Nat → Int32} (hI : sf_CI LP gb md ct tb nm tk oc en fs la g st ln bf af cs fr) (hR : sf_CR LP nm tk ln st g cs fr ct oc z) (hk : LP[k]? = some a) (hF : sb_Fit g2) (ho : ∀ x, x ∈ cs → x ≠ a → ∀ i, i < ln x → g2 (st x + i) = g (st x + i)) (hf : ∀ i, i < ln a → f i = g2 (st a + i)) :
    sf_OK LP gb md ct tb nm tk oc en fs la g2 st ln bf af (zput z k f) := by
  have hn : ∀ {k k2 a : Nat}, LP[k]? = some a → LP[k2]? = some a → k2 = k := fun h1 h2 => sf_num hI h1 h2
  obtain ⟨⟨m1, m2, m3, m4, m5, m6, m7, m8, m9, m10⟩, h2, h3, h4, h5, h6, h7, h8, h9, h10, h11⟩ := hI
  obtain ⟨z1, z2, z3, z4, z5, z6⟩ := hR
  refine ⟨cs, fr, ⟨⟨m1, m2, m3, m4, m5, m6, m7, m8, m9, hF⟩, h2, h3, h4, h5, h6, h7, h8, h9, h10, h11⟩, z1, z2, z3, ?_, z5, z6⟩
  intro k2 a2 hk2 ha2
  refine ⟨(z4 k2 a2 hk2 ha2).1, fun i hi => ?_⟩
  show va_up (zBy z) k f k2 i = _
  by_cases q : a2 = a
  · subst q
    rw [hn hk hk2, va_up_self]
    exact hf i hi
  · have hkk : k2 ≠ k := fun e => q (by rw [e, hk] at hk2; exact (Option.some.inj hk2).symm)
    rw [va_up_ne _ _ hkk, ho a2 ha2 q i hi]
    exact (z4 k2 a2 hk2 ha2).2 i hi
/-- another length of one row -/
theorem sf_OK_len {k a n : Nat} {f : Nat → Int32} {cs' : List Nat} {oc' en' : Nat} {fs' la' : Option Nat} {g' : Nat → Int32} {st' : Nat → Nat} {bf' af' : Nat → Option Nat} (hI : sf_CI LP gb md ct tb nm tk oc en fs la g st ln bf af cs fr) (hR : sf_CR LP nm tk ln st g cs fr ct oc z) (hk : LP[k]? = some a) (hac : a ∈ cs)
    (e1 : oc' = oc + sf_P n - sf_P (ln a)) (e2 : ∀ x, x ∈ cs' ↔ x ∈ cs) (e3 : cs'.length = cs.length) (e4 : sf_MI LP cs' oc' en' fs' la' g' st' (va_up ln a n) bf' af') (e5 : ∀ x, x ∈ cs → x ≠ a → ∀ i, i < ln x → g' (st' x + i) = g (st x + i)) (e6 : ∀ i, i < n → f i = g' (st' a + i)) (e7 : ∀ x, x ∉ cs → af' x = af x) :
    sf_CI LP gb md ct tb nm tk oc' en' fs' la' g' st' (va_up ln a n) bf' af' cs' fr ∧ sf_CR LP nm tk (va_up ln a n) st' g' cs' fr ct oc' (zset z k n f) := by
  have hn : ∀ {k k2 a : Nat}, LP[k]? = some a → LP[k2]? = some a → k2 = k := fun h1 h2 => sf_num hI h1 h2
  have hd : ∀ x, x ∈ fr → x ∉ cs := fun x hx q => sf_cs_fr hI q hx
  obtain ⟨h1, h2, h3, h4, h5, h6, h7, h8, h9, h10, h11⟩ := hI
  obtain ⟨z1, z2, z3, z4, z5, z6⟩ := hR
  refine ⟨⟨e4, h2, h3, h4, h5, fun x hx => h6 x ((e2 x).mp hx), h7, fun x hx => ?_, h9, sf_stk_congr h10 (fun x hx => e7 x (hd x hx)), by rw [e3]; exact h11⟩, z1, z2, z3, ?_, z5, ?_⟩
  · rcases h8 x hx with q | q
    · exact Or.inl ((e2 x).mpr q)
    · exact Or.inr q
  · intro k2 a2 hk2 ha2
    have ha3 := (e2 a2).mp ha2
    by_cases q : a2 = a
    · subst q
      have := hn hk hk2
      subst this
      refine ⟨?_, fun i hi => ?_⟩
      · show va_up (zLn z) k2 n k2 = _
        rw [va_up_self, va_up_self]
      · rw [va_up_self] at hi
        show va_up (zBy z) k2 f k2 i = _
        rw [va_up_self]
        exact e6 i hi
    · have hkk : k2 ≠ k := fun e => q (by rw [e, hk] at hk2; exact (Option.some.inj hk2).symm)
      refine ⟨?_, fun i hi => ?_⟩
      · show va_up (zLn z) k n k2 = _
        rw [va_up_ne _ _ hkk, va_up_ne _ _ q]
        exact (z4 k2 a2 hk2 ha3).1
      · rw [va_up_ne _ _ q] at hi
        show va_up (zBy z) k f k2 i = _
        rw [va_up_ne _ _ hkk, e5 a2 ha3 q i hi]
        exact (z4 k2 a2 hk2 ha3).2 i hi
  · show zOc z + sf_P n - sf_P (zLn z k) = _
    rw [z6, (z4 k a hk hac).1, e1]
/-- a row is given back -/
theorem sf_OK_give {l1 r1 : List Nat} {k a : Nat} (hI : sf_CI LP gb md ct tb nm tk oc en fs la g st ln bf af (l1 ++ a :: r1) fr) (hR : sf_CR LP nm tk ln st g (l1 ++ a :: r1) fr ct oc z) (hk : LP[k]? = some a) :
    sf_OK LP (some a) md (ct - 1) tb nm (va_up tk a 0) (oc - sf_P (ln a)) en (sf_pk (bf a) (af a) fs) (sf_pk (af a) (bf a) la) g st ln (sf_unA bf (af a) (bf a)) (va_up (sf_unA af (bf a) (af a)) a gb) (zMd z, k :: zFr z, va_up (zTk z) k 0, zLn z, zBy z, zCt z - 1, zOc z - sf_P (zLn z k)) := by
  have hn : ∀ {k k2 a : Nat}, LP[k]? = some a → LP[k2]? = some a → k2 = k := fun h1 h2 => sf_num hI h1 h2
  have hac : a ∈ l1 ++ a :: r1 := by simp
  have hd : ∀ x, x ∈ fr → x ∉ l1 ++ a :: r1 := fun x hx q => sf_cs_fr hI q hx
  obtain ⟨h1, h2, h3, h4, h5, h6, h7, h8, h9, h10, h11⟩ := hI
  obtain ⟨z1, z2, z3, z4, z5, z6⟩ := hR
  obtain ⟨n1, n2, n3, n4⟩ := sf_nd_mid h1.1
  obtain ⟨b1, b2, hU⟩ := sf_MI_un h1
  have hne : ∀ x, x ∈ l1 ++ r1 → x ≠ a := fun x hx q => (List.mem_append.mp hx).elim (fun h => n1 (q ▸ h)) (fun h => n2 (q ▸ h))
  have hin : ∀ x, x ∈ l1 ++ r1 → x ∈ l1 ++ a :: r1 := fun x hx => (List.mem_append.mp hx).elim (fun h => List.mem_append_left _ h) (fun h => List.mem_append_right _ (List.mem_cons_of_mem _ h))
  have haL : a ∈ LP := h1.2.1 a hac
  have haf : a ∉ fr := fun q => hd a q hac
  refine ⟨l1 ++ r1, a :: fr, ⟨?_, h2, h3, h4, h5, ?_, ?_, ?_, ?_, ?_, ?_⟩, z1, ?_, ?_, ?_, ?_, ?_⟩
  · obtain ⟨m1, m2, m3, m4, m5, m6⟩ := hU
    exact ⟨m1, m2, m3, m4, sf_lnk_congr m5 (fun _ _ => rfl) (fun x hx => va_up_ne _ _ (hne x hx)), m6⟩
  · intro x hx
    rw [va_up_ne _ _ (hne x hx)]
    exact h6 x (hin x hx)
  · intro x hx
    rcases List.mem_cons.mp hx with q | q
    · subst q
      exact ⟨va_up_self _ _ _, haL⟩
    · rw [va_up_ne _ _ (show x ≠ a from fun e => haf (e ▸ q))]
      exact h7 x q
  · intro x hx
    rcases h8 x hx with q | q
    · rcases List.mem_append.mp q with q | q
      · exact Or.inl (List.mem_append_left _ q)
      · rcases List.mem_cons.mp q with q | q
        · exact Or.inr (by rw [q]; exact List.mem_cons_self)
        · exact Or.inl (List.mem_append_right _ q)
    · exact Or.inr (List.mem_cons_of_mem _ q)
  · rw [List.nodup_cons]
    exact ⟨haf, h9⟩
  · refine ⟨rfl, ?_⟩
    rw [va_up_self]
    refine sf_stk_congr h10 (fun x hx => ?_)
    rw [va_up_ne _ _ (show x ≠ a from fun e => haf (e ▸ hx))]
    exact sf_unA_ne (fun e => hd x hx (List.mem_append_left _ (sf_last_mem (by rw [← b1]; exact e))))
  · rw [h11]
    simp only [List.length_append, List.length_cons]
    omega
  · show k :: zFr z = nm a :: fr.map nm
    rw [z2, h5 k a hk]
  · intro k2 a2 hk2
    show va_up (zTk z) k 0 k2 = va_up tk a 0 a2
    by_cases q : a2 = a
    · subst q
      rw [hn hk hk2, va_up_self, va_up_self]
    · have hkk : k2 ≠ k := fun e => q (by rw [e, hk] at hk2; exact (Option.some.inj hk2).symm)
      rw [va_up_ne _ _ hkk, va_up_ne _ _ q]
      exact z3 k2 a2 hk2
  · exact fun k2 a2 hk2 ha2 => z4 k2 a2 hk2 (hin a2 ha2)
  · show zCt z - 1 = ct - 1
    rw [z5]
  · show zOc z - sf_P (zLn z k) = oc - sf_P (ln a)
    rw [z6, (z4 k a hk hac).1]
/-- a row is taken: a is one of LP, in no list; its number is k -/
theorem sf_OK_take {fr' : List Nat} {gb' : Option Nat} {k a n en' : Nat} {g' : Nat → Int32} {st' : Nat → Nat} (h1 : sf_MI LP cs oc en fs la g st ln bf af) (h2 : md = LP.length) (h3 : md ≤ 20000) (h4 : ∀ k, tb k = LP[k]?) (h5 : ∀ k a, LP[k]? = some a → nm a = k) (h6 : ∀ a, a ∈ cs → tk a = 1) (h7 : ∀ a, a ∈ fr' → tk a = 0 ∧ a ∈ LP) (h8 : ∀ x, x ∈ LP → x ∈ cs ∨ x ∈ fr' ∨ x = a) (h9 : fr'.Nodup) (h10 : sf_stk af gb' fr') (h11 : ct = cs.length) (hk : LP[k]? = some a) (hac : a ∉ cs) (haf : a ∉ fr')
    (z3 : ∀ k2 a2, LP[k2]? = some a2 → a2 ≠ a → zTk z k2 = tk a2) (z4 : ∀ k2 a2, LP[k2]? = some a2 → a2 ∈ cs → zLn z k2 = ln a2 ∧ ∀ i, i < ln a2 → zBy z k2 i = g (st a2 + i)) (z5 : zCt z = ct) (z6 : zOc z = oc)
    (p1 : sf_MI LP (cs ++ [a]) (oc + sf_P n) en' (sf_pk la (some a) fs) (some a) g' st' (va_up ln a n) (va_up bf a la) (sf_apA af la a)) (p2 : ∀ x, x ∈ cs → ∀ i, i < ln x → g' (st' x + i) = g (st x + i)) (p3 : ∀ i, i < n → g' (st' a + i) = 0) :
    sf_OK LP gb' md (ct + 1) tb nm (va_up tk a 1) (oc + sf_P n) en' (sf_pk la (some a) fs) (some a) g' st' (va_up ln a n) (va_up bf a la) (sf_apA af la a) (LP.length, fr'.map nm, va_up (zTk z) k 1, va_up (zLn z) k n, va_up (zBy z) k (fun _ => 0), zCt z + 1, zOc z + sf_P n) := by
  have hn : ∀ k2, LP[k2]? = some a → k2 = k := fun k2 q => by
    have e1 := h5 k a hk
    have e2 := h5 k2 a q
    omega
  have hne : ∀ x, x ∈ cs → x ≠ a := fun x hx q => hac (q ▸ hx)
  refine ⟨cs ++ [a], fr', ⟨p1, h2, h3, h4, h5, ?_, ?_, ?_, h9, ?_, ?_⟩, rfl, rfl, ?_, ?_, ?_, ?_⟩
  · intro x hx
    rcases List.mem_append.mp hx with q | q
    · rw [va_up_ne _ _ (hne x q)]; exact h6 x q
    · rw [List.mem_singleton.mp q, va_up_self]
  · intro x hx
    rw [va_up_ne _ _ (show x ≠ a from fun q => haf (q ▸ hx))]
    exact h7 x hx
  · intro x hx
    rcases h8 x hx with q | q | q
    · exact Or.inl (List.mem_append_left _ q)
    · exact Or.inr q
    · exact Or.inl (List.mem_append_right _ (by rw [q]; simp))
  · refine sf_stk_congr h10 (fun x hx => ?_)
    have hxa : x ≠ a := fun q => haf (q ▸ hx)
    have hxc : x ∉ cs := fun q => by
      have e1 := h6 x q
      have e2 := (h7 x hx).1
      omega
    have hla := h1.2.2.2.1
    cases hz : la with
    | none => show va_up af a none x = _; rw [va_up_ne _ _ hxa]
    | some y =>
      have hy : y ∈ cs := sf_last_mem (by rw [← hla]; exact hz)
      show va_up (va_up af a none) y (some a) x = _
      rw [va_up_ne _ _ (show x ≠ y from fun q => hxc (q ▸ hy)), va_up_ne _ _ hxa]
  · rw [h11]; simp
  · intro k2 a2 hk2
    show va_up (zTk z) k 1 k2 = va_up tk a 1 a2
    by_cases q : a2 = a
    · subst q
      rw [hn k2 hk2, va_up_self, va_up_self]
    · have hkk : k2 ≠ k := fun e => q (by rw [e, hk] at hk2; exact (Option.some.inj hk2).symm)
      rw [va_up_ne _ _ hkk, va_up_ne _ _ q]
      exact z3 k2 a2 hk2 q
  · intro k2 a2 hk2 ha2
    show va_up (zLn z) k n k2 = va_up ln a n a2 ∧ ∀ i, i < va_up ln a n a2 → va_up (zBy z) k (fun _ => 0) k2 i = g' (st' a2 + i)
    by_cases q : a2 = a
    · subst q
      rw [hn k2 hk2, va_up_self, va_up_self, va_up_self]
      exact ⟨rfl, fun i hi => (p3 i hi).symm⟩
    · have hkk : k2 ≠ k := fun e => q (by rw [e, hk] at hk2; exact (Option.some.inj hk2).symm)
      have ha3 : a2 ∈ cs := by
        rcases List.mem_append.mp ha2 with h | h
        · exact h
        · exact absurd (List.mem_singleton.mp h) q
      rw [va_up_ne _ _ hkk, va_up_ne _ _ q, va_up_ne _ _ hkk]
      exact ⟨(z4 k2 a2 hk2 ha3).1, fun i hi => by rw [p2 a2 ha3 i hi]; exact (z4 k2 a2 hk2 ha3).2 i hi⟩
  · show zCt z + 1 = ct + 1
    rw [z5]
  · show zOc z + sf_P n = oc + sf_P n
    rw [z6]
end SFS
end
section
/-! the shelf's writes: put, fill, resize, copy, give -/
theorem zs_put_1 {z : sf_Z} {row i b : Int32} (h : zrow z row = none) : zs_put z row i b = (0, z) := by unfold zs_put; rw [h]
theorem zs_put_2 {z : sf_Z} {row i b : Int32} {k : Nat} (h : zrow z row = some k) (h2 : zi i (zLn z k) = none) : zs_put z row i b = (0, z) := by unfold zs_put; rw [h]; dsimp only; rw [h2]
theorem zs_put_3 {z : sf_Z} {row i b : Int32} {k j : Nat} (h : zrow z row = some k) (h2 : zi i (zLn z k) = some j) : zs_put z row i b = (1, zput z k (upd (zBy z k) j b.toInt8.toInt32)) := by unfold zs_put; rw [h]; dsimp only; rw [h2]
theorem sf_put_f {f g : Nat → Int32} {b n j : Nat} {v : Int32} (h : ∀ i, i < n → f i = g (b + i)) : ∀ i, i < n → upd f j v i = upd g (b + j) v (b + i) := by
  intro i hi
  by_cases q : i = j
  · rw [q, pk_us, pk_us]
  · rw [pk_un q, pk_un (by omega)]
    exact h i hi
theorem zi_inv {x : Int32} {n j : Nat} (hn : n ≤ 2 ^ 31) (h : zi x n = some j) : x = nI j ∧ j < n := by
  unfold zi at h
  split at h
  · cases h
    refine ⟨?_, by omega⟩
    apply Int32.toInt_inj.mp
    rw [nI_toInt (by omega)]
    omega
  · cases h
theorem zs_fill_1 {z : sf_Z} {row i n d : Int32} (h : zrow z row = none) : zs_fill z row i n d = (0, z) := by unfold zs_fill; rw [h]
theorem zs_fill_2 {z : sf_Z} {row i n d : Int32} {k : Nat} (h : zrow z row = some k) (hk : zLn z k ≤ 16384) (h2 : ∀ a m : Nat, a + m ≤ zLn z k → i = nI a → n ≠ nI m) : zs_fill z row i n d = (0, z) := by
  unfold zs_fill
  rw [h]
  dsimp only
  split
  · rename_i a m e1 e2
    obtain ⟨q1, q2⟩ := zi_inv (by omega) e1
    obtain ⟨q3, q4⟩ := zi_inv (by omega) e2
    rw [if_neg (fun q => h2 a m q q1 q3)]
  · rfl
theorem zs_fill_3 {z : sf_Z} {row d : Int32} {k a m : Nat} (h : zrow z row = some k) (hk : zLn z k ≤ 16384) (h2 : a + m ≤ zLn z k) : zs_fill z row (nI a) (nI m) d = (1, zput z k (fun j => if a ≤ j ∧ j < a + m then zfb d (j - a) else zBy z k j)) := by
  unfold zs_fill
  rw [h]
  dsimp only
  rw [zi_some (by omega) (by omega), zi_some (by omega) (by omega)]
  dsimp only
  rw [if_pos h2]
theorem sf_fill_go {g g2 h : Nat → Int32} {lo c : Nat} (q : ∀ p, g2 p = if lo ≤ p ∧ p < lo + c then h (p - lo) else g p) : ∀ p, upd g2 (lo + c) (h c) p = if lo ≤ p ∧ p < lo + (c + 1) then h (p - lo) else g p := by
  intro p
  by_cases e : p = lo + c
  · subst e
    rw [pk_us, if_pos (by omega), Nat.add_sub_cancel_left]
  · rw [pk_un e, q p]
    by_cases q2 : lo ≤ p ∧ p < lo + c
    · rw [if_pos q2, if_pos (by omega)]
    · rw [if_neg q2, if_neg (by omega)]
theorem sf_OK_fill {LP : List Nat} {gb : Option Nat} {md ct : Nat} {tb : Nat → Option Nat} {nm tk : Nat → Nat} {oc en : Nat} {fs la : Option Nat} {g : Nat → Int32} {st ln : Nat → Nat} {bf af : Nat → Option Nat} {cs fr : List Nat} {z : sf_Z} {g2 : Nat → Int32} {k a i0 n0 : Nat} {d : Int32} (hI : sf_CI LP gb md ct tb nm tk oc en fs la g st ln bf af cs fr) (hR : sf_CR LP nm tk ln st g cs fr ct oc z) (hk : LP[k]? = some a) (hac : a ∈ cs) (hF : sb_Fit g2) (hn : i0 + n0 ≤ ln a) (f5 : ∀ i, i < ln a → zBy z k i = g (st a + i)) (q : ∀ p, g2 p = if st a + i0 ≤ p ∧ p < st a + i0 + n0 then zfb d (p - (st a + i0)) else g p) :
    sf_OK LP gb md ct tb nm tk oc en fs la g2 st ln bf af (zput z k (fun j => if i0 ≤ j ∧ j < i0 + n0 then zfb d (j - i0) else zBy z k j)) := by
  refine sf_OK_bytes hI hR hk hF (fun x hx hne i hi => ?_) (fun i hi => ?_)
  · rw [q, if_neg]
    intro e
    exact sf_apart hI hac hx hne hi (j := st x + i - st a) (by omega) (by omega)
  · rw [q]
    by_cases e : i0 ≤ i ∧ i < i0 + n0
    · rw [if_pos e, if_pos (by omega), show st a + i - (st a + i0) = i - i0 by omega]
    · rw [if_neg e, if_neg (by omega)]
      exact f5 i hi
theorem zs_res_1 {z : sf_Z} {row n : Int32} (h : zrow z row = none) : zs_resize z row n = (-1, z) := by unfold zs_resize; rw [h]
theorem zs_res_2 {z : sf_Z} {row n : Int32} {k : Nat} (h : zrow z row = some k) (h2 : zi n 16385 = none) : zs_resize z row n = (-1, z) := by unfold zs_resize; rw [h]; dsimp only; rw [h2]
theorem zs_res_3 {z : sf_Z} {row : Int32} {k m : Nat} (h : zrow z row = some k) (hm : m ≤ 16384) (h2 : sf_P (zLn z k) < sf_P m ∧ 400000 < zOc z + sf_P m) : zs_resize z row (nI m) = (-2, z) := by unfold zs_resize; rw [h]; dsimp only; rw [zi_some (by omega) (by omega)]; dsimp only; rw [if_pos h2]
theorem zs_res_4 {z : sf_Z} {row : Int32} {k m : Nat} (h : zrow z row = some k) (hm : m ≤ 16384) (h2 : sf_P m ≤ sf_P (zLn z k) ∨ zOc z + sf_P m ≤ 400000) : zs_resize z row (nI m) = (nI m, zset z k m (fun i => if i < zLn z k then zBy z k i else 0)) := by unfold zs_resize; rw [h]; dsimp only; rw [zi_some (by omega) (by omega)]; dsimp only; rw [if_neg (by omega)]
theorem zs_cpy_1 {z : sf_Z} {row o : Int32} (h : zrow z row = none) : zs_copy z row o = (-1, z) := by unfold zs_copy; rw [h]
theorem zs_cpy_2 {z : sf_Z} {row o : Int32} (h : zrow z o = none) : zs_copy z row o = (-1, z) := by
  unfold zs_copy
  rw [h]
  cases zrow z row <;> rfl
theorem zs_cpy_3 {z : sf_Z} {row o : Int32} {k k2 : Nat} (h : zrow z row = some k) (h2 : zrow z o = some k2) (h3 : sf_P (zLn z k) < sf_P (zLn z k2) ∧ 400000 < zOc z + sf_P (zLn z k2)) : zs_copy z row o = (-2, z) := by unfold zs_copy; rw [h, h2]; dsimp only; rw [if_pos h3]
theorem zs_cpy_4 {z : sf_Z} {row o : Int32} {k k2 : Nat} (h : zrow z row = some k) (h2 : zrow z o = some k2) (h3 : sf_P (zLn z k2) ≤ sf_P (zLn z k) ∨ zOc z + sf_P (zLn z k2) ≤ 400000) : zs_copy z row o = (nI (zLn z k2), zset z k (zLn z k2) (zBy z k2)) := by unfold zs_copy; rw [h, h2]; dsimp only; rw [if_neg (by omega)]
theorem zput_zset {z : sf_Z} {k n : Nat} {f1 f : Nat → Int32} : zput (zset z k n f1) k f = zset z k n f := by
  show (_, _, _, _, va_up (va_up (zBy z) k f1) k f, _, _) = (_, _, _, _, va_up (zBy z) k f, _, _)
  rw [bx_uu]
  rfl
theorem sf_up_same {ln : Nat → Nat} {a b : Nat} : va_up ln a (ln b) b = ln b := by
  by_cases q : b = a
  · rw [q, va_up_self]
  · rw [va_up_ne _ _ q]
theorem sf_OK_copy {LP : List Nat} {gb : Option Nat} {md ct : Nat} {tb : Nat → Option Nat} {nm tk : Nat → Nat} {oc en : Nat} {fs la : Option Nat} {g : Nat → Int32} {st ln : Nat → Nat} {bf af : Nat → Option Nat} {cs fr : List Nat} {z : sf_Z} {k k2 a b : Nat} {cs' : List Nat} {oc' en' : Nat} {fs' la' : Option Nat} {g' : Nat → Int32} {st' : Nat → Nat} {bf' af' : Nat → Option Nat} (hI : sf_CI LP gb md ct tb nm tk oc en fs la g st ln bf af cs fr) (hR : sf_CR LP nm tk ln st g cs fr ct oc z) (hk : LP[k]? = some a) (hac : a ∈ cs) (hbc : b ∈ cs) (f5 : ∀ i, i < ln b → zBy z k2 i = g (st b + i))
    (e1 : oc' = oc + sf_P (ln b) - sf_P (ln a)) (e2 : ∀ x, x ∈ cs' ↔ x ∈ cs) (e3 : cs'.length = cs.length) (e4 : sf_MI LP cs' oc' en' fs' la' g' st' (va_up ln a (ln b)) bf' af') (e5 : ∀ x, x ∈ cs → x ≠ a → ∀ i, i < ln x → g' (st' x + i) = g (st x + i)) (e6 : ∀ i, i < ln b → g' (st' a + i) = if i < ln a then g (st a + i) else 0) (e7 : ∀ x, x ∉ cs → af' x = af x) :
    sf_OK LP gb md ct tb nm tk oc' en' fs' la' (va_cpy g' g' (st' b) (st' a) (ln b)) st' (va_up ln a (ln b)) bf' af' (zset z k (ln b) (zBy z k2)) := by
  obtain ⟨hI2, hR2⟩ := sf_OK_len (f := fun i => g' (st' a + i)) hI hR hk hac e1 e2 e3 e4 e5 (fun _ _ => rfl) e7
  rw [← zput_zset (f1 := fun i => g' (st' a + i))]
  have hF := e4.2.2.2.2.2.2.2.2.2
  refine sf_OK_bytes hI2 hR2 hk (sb_fitC hF hF) (fun x hx hne i hi => ?_) (fun i hi => ?_)
  · by_cases q : st' a ≤ st' x + i ∧ st' x + i < st' a + ln b
    · exact absurd (show st' x + i = st' a + (st' x + i - st' a) by omega) (sf_apart hI2 ((e2 a).mpr hac) hx hne hi (by rw [va_up_self]; omega))
    · rw [pk_cpy_out (by omega)]
  · rw [va_up_self] at hi
    rw [pk_cpy_in (by omega) (by omega), Nat.add_sub_cancel_left, f5 i hi]
    by_cases q : b = a
    · subst q
      rw [e6 i hi, if_pos hi]
    · rw [e5 b hbc q i hi]
theorem zs_give_1 {z : sf_Z} {row : Int32} (h : zrow z row = none) : zs_give z row = (0, z) := by unfold zs_give; rw [h]
theorem zs_give_2 {z : sf_Z} {row : Int32} {k : Nat} (h : zrow z row = some k) : zs_give z row = (1, zMd z, k :: zFr z, va_up (zTk z) k 0, zLn z, zBy z, zCt z - 1, zOc z - sf_P (zLn z k)) := by unfold zs_give; rw [h]
set_option maxHeartbeats 4000000 in
set_option maxRecDepth 100000 in
/-- put(row, i, b) -/
theorem c_put (l : Launch) (dC : Nat → ClassId) (dI : Nat → Nat → Nat) (a0 a1 a2 a3 : Nat) (cB cT : ClassId) (LP : List Nat) (gb : Option Nat) (md ct : Nat) (tb : Nat → Option Nat) (nm tk : Nat → Nat) (oc en : Nat) (fs la : Option Nat) (g : Nat → Int32) (st ln : Nat → Nat) (bf af : Nat → Option Nat) (sz : Nat) (z : sf_Z) (cs fr : List Nat) (hI : sf_CI LP gb md ct tb nm tk oc en fs la g st ln bf af cs fr) (hR : sf_CR LP nm tk ln st g cs fr ct oc z) (row i b : Int32) : Met l yX2_put wsX2_put ({ frames := 1, cells := 0, slots := 0, locals := 30 } : Room) (sf_Pre (dC, dI) vwCl [(cB, .byte), (cT, .object "ByteShelf$Row")] [.ref a0, .int row, .int i, .int b] (sf_w a0 a1 a2 a3 cB cT LP gb md ct tb nm tk oc en fs la g st ln bf af) sz) (va_Qi (fun (r : Int32) (u : sf_Sx) => r = (zs_put z row i b).1 ∧ sf_OKu u (zs_put z row i b).2) (sf_E (dC, dI) vwCl (va_A (sf_w a0 a1 a2 a3 cB cT LP gb md ct tb nm tk oc en fs la g st ln bf af) sz) (fun (u : sf_Sx) => sf_w a0 a1 a2 a3 cB cT u.1 u.2.1 u.2.2.1 u.2.2.2.1 u.2.2.2.2.1 u.2.2.2.2.2.1 u.2.2.2.2.2.2.1 u.2.2.2.2.2.2.2.1 u.2.2.2.2.2.2.2.2.1 u.2.2.2.2.2.2.2.2.2.1 u.2.2.2.2.2.2.2.2.2.2.1 u.2.2.2.2.2.2.2.2.2.2.2.1 u.2.2.2.2.2.2.2.2.2.2.2.2.1 u.2.2.2.2.2.2.2.2.2.2.2.2.2.1 u.2.2.2.2.2.2.2.2.2.2.2.2.2.2.1 u.2.2.2.2.2.2.2.2.2.2.2.2.2.2.2)) (va_A (sf_w a0 a1 a2 a3 cB cT LP gb md ct tb nm tk oc en fs la g st ln bf af) sz)) 0 0 (va_A (sf_w a0 a1 a2 a3 cB cT LP gb md ct tb nm tk oc en fs la g st ln bf af) sz) := by
  refine Met.ofW (cc := cX2_put) (maxL := 5) (ret := (some .boolean)) (by decide) rfl ?_
  intro p e s m args below meth c s₁ B hml hv
  obtain ⟨rfl, hsz, hP, hK, hD0, hN⟩ := hv
  have hx := B.exec
  have hb := B.bytes
  have hr := B.returns
  have hts := atoms_spec (ws := wsX2_put) B.pre
  have hown : s.vm.findClass RX2 = some m.cls := findClass_of_methodNamed B.named
  have hlocks := B.notSynchronized
  subst hsz
  have hD := hD0.self (sz := s.heap.size)
  generalize hAe : va_A (sf_w a0 a1 a2 a3 cB cT LP gb md ct tb nm tk oc en fs la g st ln bf af) s.heap.size = A at hD ⊢
  have hA : ∀ q : Nat, s.heap.size ≤ q → A q := fun q h => by rw [← hAe]; exact Or.inr h
  have hS : va_S A s.heap s.heap [] := va_S.rf
  have hl := lv_entry ([.ref a0, .int row, .int i, .int b]) (n := 5) (Nat.le_of_ble_eq_true rfl)
  rw [lg_entry_eq]
  generalize (lg_sl ([.ref a0, .int row, .int i, .int b]) ++ List.replicate (5 - (lg_sl ([.ref a0, .int row, .int i, .int b])).length) Slot.unset).toArray = ls at hl ⊢
  have hl : lv_has ls 5 [(0, .ref a0), (1, .int row), (2, .int i), (3, .int b)] := hl
  refine lv_aload_n hx hb dX2_put_0 rfl (lv_at hl 0 rfl) ?_
  refine lv_iload_n hx hb dX2_put_1 rfl (lv_at hl 1 rfl) ?_
  refine va_csq (va_Run.run (sf_runV (b := a0) (As := [.int row]) (rest := []) ⟨hx, hb, hml, hown, hts⟩ sf_has (c_find l dC dI a0 a1 a2 a3 cB cT LP gb md ct tb nm tk oc en fs la g st ln bf af _ _ (sf_CI_find hI).1 (sf_CI_find hI).2.1 (sf_CI_find hI).2.2) k_X2_59 ⟨sf_blind, va_recv hK hP (ci := 2) (q0 := 0) rfl rfl, sf_preU hP hK hD hN⟩ rfl hl.1 (Nat.le_of_ble_eq_true rfl) ⟨(Nat.le_of_ble_eq_true rfl), (Nat.le_of_ble_eq_true rfl)⟩ ⟨rfl, rfl⟩ ⟨Nat.zero_le _, Nat.zero_le _⟩ dX2_put_2)) (fun r_2 h_2 => ?_)
  rcases h_2 with h_2 | h_2
  · obtain ⟨k_2, a_2, q1_2, q2_2, q3_2, q4_2, q5_2, q6_2⟩ := h_2
    subst q2_2
    subst q6_2
    obtain ⟨f1_2, f2_2, f3_2, f4_2, f5_2, f6_2, f7_2⟩ := sf_zr_some hI hR q1_2 q3_2 q5_2
    have hl : lv_has ls 5 [(0, .ref a0), (1, .int (nI k_2)), (2, .int i), (3, .int b)] := hl
    refine lv_astore (lv' := [(4, .ref a_2), (0, .ref a0), (1, .int (nI k_2)), (2, .int i), (3, .int b)]) hx hb dX2_put_5 hl (by decide) rfl (fun ls hl => ?_)
    refine lv_aload hx hb dX2_put_7 (lv_at hl 0 rfl) ?_
    refine lv_ifnull hx hb dX2_put_9 ?_
    refine lv_aload hx hb dX2_put_12 (lv_at hl 0 rfl) ?_
    refine lv_iload_n hx hb dX2_put_14 rfl (lv_at hl 3 rfl) ?_
    refine vp_callSi (va_Run.run (sf_runS (As := [.ref a_2, .int i]) (rest := []) ⟨hx, hb, hml, hown, hts⟩ sf_has (c_hasByte l dC dI a0 a1 a2 a3 cB cT LP gb md ct tb nm tk oc en fs la g st ln bf af _ a_2 q4_2 f6_2 i) k_X2_74 ⟨sf_blind, sf_preU hP hK hD hN⟩ rfl hl.1 (Nat.le_of_ble_eq_true rfl) ⟨(Nat.le_of_ble_eq_true rfl), (Nat.le_of_ble_eq_true rfl)⟩ ⟨rfl, rfl⟩ ⟨Nat.zero_le _, Nat.zero_le _⟩ dX2_put_15)) (fun r_15 h_15 => ?_)
    rcases h_15 with ⟨rfl, h_15⟩ | ⟨rfl, h_15⟩
    · obtain ⟨j, hj, rfl⟩ := h_15
      have hl : lv_has ls 5 [(4, .ref a_2), (0, .ref a0), (1, .int (nI k_2)), (2, .int (nI j)), (3, .int b)] := hl
      have hzj : zi (nI j) (zLn z k_2) = some j := by rw [f4_2]; exact zi_some hj (by omega)
      refine sf_if_ne (tgt := 23) hx hb (by decide) dX2_put_18 (by decide) (fun _ => ?_) (fun c_18 => absurd c_18 (by decide))
      refine lv_aload_n hx hb dX2_put_23 rfl (lv_at hl 1 rfl) ?_
      refine va_get (D := (dC, dI)) (ci := 2) (v := .ref a1) (C := RX2) (T := TX2) (N := 5) hx hb hts sf_inX2 hown hK hP 0 rfl rfl 0 (by decide) (hts _ (sf_mem fl_X2_10 rfl)) (fun _ h9 => h9) rfl dX2_put_24 ?_
      refine va_get (D := (dC, dI)) (ci := 0) (v := .ref a2) (C := RX0) (T := TX0) (N := 5) hx hb hts sf_inX0 hown hK hP 1 rfl rfl 0 (by decide) (hts _ (sf_mem fl_X2_77 rfl)) (fun _ h9 => h9) rfl dX2_put_27 ?_
      refine lv_aload hx hb dX2_put_30 (lv_at hl 0 rfl) ?_
      refine sf_rget (D := (dC, dI)) (ci := 1) (v := .int (nI (st a_2))) (C := RX1) (T := TX1) (N := 6) hx hb hts sf_inX1 hown hK hP q4_2 rfl rfl 2 (by decide) (hts _ (sf_mem fl_X2_81 rfl)) (fun _ h9 => h9) rfl dX2_put_32 ?_
      refine lv_iload_n hx hb dX2_put_35 rfl (lv_at hl 3 rfl) ?_
      refine sf_iadd hx hb dX2_put_36 ?_
      refine lv_iload_n hx hb dX2_put_37 rfl (lv_at hl 4 rfl) ?_
      refine lv_i2b hx hb dX2_put_38 rfl ?_
      refine sf_bast hx hb hK hP hD hS 2 0 rfl rfl (pk_vb _) (by omega) (by decide) dX2_put_39 (fun H locs hP hD hS => ?_)
      have hP : va_P (dC, dI) vwCl (sf_w a0 a1 a2 a3 cB cT LP gb md ct tb nm tk oc en fs la (upd g ((st a_2) + j) b.toInt8.toInt32) st ln bf af) H := hP
      have hD : va_D A (sf_w a0 a1 a2 a3 cB cT LP gb md ct tb nm tk oc en fs la (upd g ((st a_2) + j) b.toInt8.toInt32) st ln bf af) := hD
      refine lv_iconst (v := nI 1) hx hb dX2_put_40 (by decide) ?_
      exact W.zret (v := nI 1) hx hb hr (by decide) (fun t ht hW => ⟨⟨_, (LP, gb, md, ct, tb, nm, tk, oc, en, fs, la, (upd g ((st a_2) + j) b.toInt8.toInt32), st, ln, bf, af), rfl, by rw [zs_put_3 f1_2 hzj]; exact ⟨rfl, sf_OK_bytes hI hR f3_2 (sb_fitU hI.1.2.2.2.2.2.2.2.2.2 (pk_fb _)) (fun x hx hne i hi => pk_un (sf_apart hI f2_2 hx hne hi hj)) (sf_put_f f5_2)⟩, by rw [ht]; exact hP, hD⟩, hS.F ht⟩) hS.2.2 dX2_put_41
    · have hzj : zi i (zLn z k_2) = none := by rw [f4_2]; exact zi_none (by omega) h_15
      refine sf_if_ne (tgt := 23) hx hb (by decide) dX2_put_18 (by decide) (fun c_18 => absurd c_18 (by decide)) (fun _ => ?_)
      refine lv_iconst (v := nI 0) hx hb dX2_put_21 (by decide) ?_
      exact W.zret (v := nI 0) hx hb hr (by decide) (fun t ht hW => ⟨⟨_, (LP, gb, md, ct, tb, nm, tk, oc, en, fs, la, g, st, ln, bf, af), rfl, by rw [zs_put_2 f1_2 hzj]; exact ⟨rfl, cs, fr, hI, hR⟩, by rw [ht]; exact hP, hD⟩, hS.F ht⟩) hS.2.2 dX2_put_22
  · obtain ⟨q1_2, q2_2⟩ := h_2
    subst q1_2
    have f1_2 := sf_zr_none hI hR q2_2
    refine lv_astoreN (lv' := [(4, .null), (0, .ref a0), (1, .int row), (2, .int i), (3, .int b)]) hx hb dX2_put_5 hl (by decide) rfl (fun ls hl => ?_)
    refine lv_aloadN hx hb dX2_put_7 (lv_at hl 0 rfl) ?_
    refine lv_ifnullN (tgt := 21) hx hb dX2_put_9 (by decide) ?_
    refine lv_iconst (v := nI 0) hx hb dX2_put_21 (by decide) ?_
    exact W.zret (v := nI 0) hx hb hr (by decide) (fun t ht hW => ⟨⟨_, (LP, gb, md, ct, tb, nm, tk, oc, en, fs, la, g, st, ln, bf, af), rfl, by rw [zs_put_1 f1_2]; exact ⟨rfl, cs, fr, hI, hR⟩, by rw [ht]; exact hP, hD⟩, hS.F ht⟩) hS.2.2 dX2_put_22
set_option maxHeartbeats 4000000 in
set_option maxRecDepth 100000 in
/-- fill(row, i, n, seed) -/
theorem c_fill (l : Launch) (dC : Nat → ClassId) (dI : Nat → Nat → Nat) (a0 a1 a2 a3 : Nat) (cB cT : ClassId) (LP : List Nat) (gb : Option Nat) (md ct : Nat) (tb : Nat → Option Nat) (nm tk : Nat → Nat) (oc en : Nat) (fs la : Option Nat) (g : Nat → Int32) (st ln : Nat → Nat) (bf af : Nat → Option Nat) (sz : Nat) (z : sf_Z) (cs fr : List Nat) (hI : sf_CI LP gb md ct tb nm tk oc en fs la g st ln bf af cs fr) (hR : sf_CR LP nm tk ln st g cs fr ct oc z) (row i n d : Int32) : Met l yX2_fill wsX2_fill ({ frames := 1, cells := 0, slots := 0, locals := 30 } : Room) (sf_Pre (dC, dI) vwCl [(cB, .byte), (cT, .object "ByteShelf$Row")] [.ref a0, .int row, .int i, .int n, .int d] (sf_w a0 a1 a2 a3 cB cT LP gb md ct tb nm tk oc en fs la g st ln bf af) sz) (va_Qi (fun (r : Int32) (u : sf_Sx) => r = (zs_fill z row i n d).1 ∧ sf_OKu u (zs_fill z row i n d).2) (sf_E (dC, dI) vwCl (va_A (sf_w a0 a1 a2 a3 cB cT LP gb md ct tb nm tk oc en fs la g st ln bf af) sz) (fun (u : sf_Sx) => sf_w a0 a1 a2 a3 cB cT u.1 u.2.1 u.2.2.1 u.2.2.2.1 u.2.2.2.2.1 u.2.2.2.2.2.1 u.2.2.2.2.2.2.1 u.2.2.2.2.2.2.2.1 u.2.2.2.2.2.2.2.2.1 u.2.2.2.2.2.2.2.2.2.1 u.2.2.2.2.2.2.2.2.2.2.1 u.2.2.2.2.2.2.2.2.2.2.2.1 u.2.2.2.2.2.2.2.2.2.2.2.2.1 u.2.2.2.2.2.2.2.2.2.2.2.2.2.1 u.2.2.2.2.2.2.2.2.2.2.2.2.2.2.1 u.2.2.2.2.2.2.2.2.2.2.2.2.2.2.2)) (va_A (sf_w a0 a1 a2 a3 cB cT LP gb md ct tb nm tk oc en fs la g st ln bf af) sz)) 0 0 (va_A (sf_w a0 a1 a2 a3 cB cT LP gb md ct tb nm tk oc en fs la g st ln bf af) sz) := by
  refine Met.ofW (cc := cX2_fill) (maxL := 9) (ret := (some .boolean)) (by decide) rfl ?_
  intro p e s m args below meth c s₁ B hml hv
  obtain ⟨rfl, hsz, hP, hK, hD0, hN⟩ := hv
  have hx := B.exec
  have hb := B.bytes
  have hr := B.returns
  have hts := atoms_spec (ws := wsX2_fill) B.pre
  have hown : s.vm.findClass RX2 = some m.cls := findClass_of_methodNamed B.named
  have hlocks := B.notSynchronized
  subst hsz
  have hD := hD0.self (sz := s.heap.size)
  generalize hAe : va_A (sf_w a0 a1 a2 a3 cB cT LP gb md ct tb nm tk oc en fs la g st ln bf af) s.heap.size = A at hD ⊢
  have hA : ∀ q : Nat, s.heap.size ≤ q → A q := fun q h => by rw [← hAe]; exact Or.inr h
  have hS : va_S A s.heap s.heap [] := va_S.rf
  have hl := lv_entry ([.ref a0, .int row, .int i, .int n, .int d]) (n := 9) (Nat.le_of_ble_eq_true rfl)
  rw [lg_entry_eq]
  generalize (lg_sl ([.ref a0, .int row, .int i, .int n, .int d]) ++ List.replicate (9 - (lg_sl ([.ref a0, .int row, .int i, .int n, .int d])).length) Slot.unset).toArray = ls at hl ⊢
  have hl : lv_has ls 9 [(0, .ref a0), (1, .int row), (2, .int i), (3, .int n), (4, .int d)] := hl
  refine lv_aload_n hx hb dX2_fill_0 rfl (lv_at hl 0 rfl) ?_
  refine lv_iload_n hx hb dX2_fill_1 rfl (lv_at hl 1 rfl) ?_
  refine va_csq (va_Run.run (sf_runV (b := a0) (As := [.int row]) (rest := []) ⟨hx, hb, hml, hown, hts⟩ sf_has (c_find l dC dI a0 a1 a2 a3 cB cT LP gb md ct tb nm tk oc en fs la g st ln bf af _ _ (sf_CI_find hI).1 (sf_CI_find hI).2.1 (sf_CI_find hI).2.2) k_X2_59 ⟨sf_blind, va_recv hK hP (ci := 2) (q0 := 0) rfl rfl, sf_preU hP hK hD hN⟩ rfl hl.1 (Nat.le_of_ble_eq_true rfl) ⟨(Nat.le_of_ble_eq_true rfl), (Nat.le_of_ble_eq_true rfl)⟩ ⟨rfl, rfl⟩ ⟨Nat.zero_le _, Nat.zero_le _⟩ dX2_fill_2)) (fun r_2 h_2 => ?_)
  rcases h_2 with h_2 | h_2
  · obtain ⟨k_2, a_2, q1_2, q2_2, q3_2, q4_2, q5_2, q6_2⟩ := h_2
    subst q2_2
    subst q6_2
    obtain ⟨f1_2, f2_2, f3_2, f4_2, f5_2, f6_2, f7_2⟩ := sf_zr_some hI hR q1_2 q3_2 q5_2
    have hl : lv_has ls 9 [(0, .ref a0), (1, .int (nI k_2)), (2, .int i), (3, .int n), (4, .int d)] := hl
    refine lv_astore (lv' := [(5, .ref a_2), (0, .ref a0), (1, .int (nI k_2)), (2, .int i), (3, .int n), (4, .int d)]) hx hb dX2_fill_5 hl (by decide) rfl (fun ls hl => ?_)
    refine lv_aload hx hb dX2_fill_7 (lv_at hl 0 rfl) ?_
    refine lv_ifnull hx hb dX2_fill_9 ?_
    refine lv_aload hx hb dX2_fill_12 (lv_at hl 0 rfl) ?_
    refine lv_iload_n hx hb dX2_fill_14 rfl (lv_at hl 3 rfl) ?_
    refine lv_iload_n hx hb dX2_fill_15 rfl (lv_at hl 4 rfl) ?_
    refine vp_callSi (va_Run.run (sf_runS (As := [.ref a_2, .int i, .int n]) (rest := []) ⟨hx, hb, hml, hown, hts⟩ sf_has (c_hasBytes l dC dI a0 a1 a2 a3 cB cT LP gb md ct tb nm tk oc en fs la g st ln bf af _ a_2 q4_2 f6_2 i n) k_X2_84 ⟨sf_blind, sf_preU hP hK hD hN⟩ rfl hl.1 (Nat.le_of_ble_eq_true rfl) ⟨(Nat.le_of_ble_eq_true rfl), (Nat.le_of_ble_eq_true rfl)⟩ ⟨rfl, rfl⟩ ⟨Nat.zero_le _, Nat.zero_le _⟩ dX2_fill_16)) (fun r_16 h_16 => ?_)
    rcases h_16 with ⟨rfl, h_16⟩ | ⟨rfl, h_16⟩
    · obtain ⟨i0, n0, hin, rfl, rfl⟩ := h_16
      have hl : lv_has ls 9 [(5, .ref a_2), (0, .ref a0), (1, .int (nI k_2)), (2, .int (nI i0)), (3, .int (nI n0)), (4, .int d)] := hl
      refine sf_if_ne (tgt := 24) hx hb (by decide) dX2_fill_19 (by decide) (fun _ => ?_) (fun c_19 => absurd c_19 (by decide))
      refine lv_aload_n hx hb dX2_fill_24 rfl (lv_at hl 1 rfl) ?_
      refine va_get (D := (dC, dI)) (ci := 2) (v := .ref a1) (C := RX2) (T := TX2) (N := 5) hx hb hts sf_inX2 hown hK hP 0 rfl rfl 0 (by decide) (hts _ (sf_mem fl_X2_10 rfl)) (fun _ h9 => h9) rfl dX2_fill_25 ?_
      refine va_get (D := (dC, dI)) (ci := 0) (v := .ref a2) (C := RX0) (T := TX0) (N := 5) hx hb hts sf_inX0 hown hK hP 1 rfl rfl 0 (by decide) (hts _ (sf_mem fl_X2_77 rfl)) (fun _ h9 => h9) rfl dX2_fill_28 ?_
      refine lv_astore (lv' := [(6, .ref a2), (5, .ref a_2), (0, .ref a0), (1, .int (nI k_2)), (2, .int (nI i0)), (3, .int (nI n0)), (4, .int d)]) hx hb dX2_fill_31 hl (by decide) rfl (fun ls hl => ?_)
      refine lv_aload hx hb dX2_fill_33 (lv_at hl 1 rfl) ?_
      refine sf_rget (D := (dC, dI)) (ci := 1) (v := .int (nI (st a_2))) (C := RX1) (T := TX1) (N := 6) hx hb hts sf_inX1 hown hK hP q4_2 rfl rfl 2 (by decide) (hts _ (sf_mem fl_X2_81 rfl)) (fun _ h9 => h9) rfl dX2_fill_35 ?_
      refine lv_iload_n hx hb dX2_fill_38 rfl (lv_at hl 4 rfl) ?_
      refine sf_iadd hx hb dX2_fill_39 ?_
      refine lv_istore (lv' := [(7, .int (nI ((st a_2) + i0))), (6, .ref a2), (5, .ref a_2), (0, .ref a0), (1, .int (nI k_2)), (2, .int (nI i0)), (3, .int (nI n0)), (4, .int d)]) hx hb dX2_fill_40 hl (by decide) rfl (fun ls hl => ?_)
      refine lv_iconst (v := nI 0) hx hb dX2_fill_42 (by decide) ?_
      refine lv_istore (lv' := [(8, .int (nI 0)), (7, .int (nI ((st a_2) + i0))), (6, .ref a2), (5, .ref a_2), (0, .ref a0), (1, .int (nI k_2)), (2, .int (nI i0)), (3, .int (nI n0)), (4, .int d)]) hx hb dX2_fill_43 hl (by decide) rfl (fun ls hl => ?_)
      refine sf_loop (σ := Nat × (Nat → Int32)) (fun u => n0 - u.1) (fun u H locs ls => u.1 ≤ n0 ∧ (∀ p, u.2 p = if (st a_2 + i0) ≤ p ∧ p < (st a_2 + i0) + u.1 then zfb d (p - (st a_2 + i0)) else g p) ∧ sb_Fit u.2 ∧ va_P (dC, dI) vwCl (sf_w a0 a1 a2 a3 cB cT LP gb md ct tb nm tk oc en fs la u.2 st ln bf af) H ∧ va_D A (sf_w a0 a1 a2 a3 cB cT LP gb md ct tb nm tk oc en fs la u.2 st ln bf af) ∧ va_S A s.heap H locs ∧ lv_has ls 9 [(0, .ref a0), (1, .int (nI k_2)), (2, .int (nI i0)), (3, .int (nI n0)), (4, .int d), (5, .ref a_2), (6, .ref a2), (7, .int (nI (st a_2 + i0))), (8, .int (nI u.1))]) ?_ (0, g) _ _ _ ?_
      · intro u H locs ls hI2 ih
        obtain ⟨c0, g2⟩ := u
        obtain ⟨k1, k2, k3, hP, hD, hS, hl⟩ := hI2
        dsimp only at k1 k2 k3 hP hD hl ih
        refine lv_iload hx hb dX2_fill_45 (lv_at hl 8 rfl) ?_
        refine lv_iload_n hx hb dX2_fill_47 rfl (lv_at hl 3 rfl) ?_
        refine sf_icmp_ge (tgt := 81) hx hb (by omega) (by omega) dX2_fill_48 (by decide) (fun c_48 => ?_) (fun c_48 => ?_)
        · refine lv_iconst (v := nI 1) hx hb dX2_fill_81 (by decide) ?_
          exact W.zret (v := nI 1) hx hb hr (by decide) (fun t ht hW => ⟨⟨_, (LP, gb, md, ct, tb, nm, tk, oc, en, fs, la, g2, st, ln, bf, af), rfl, by rw [zs_fill_3 f1_2 (by omega) (by omega)]; exact ⟨rfl, sf_OK_fill hI hR f3_2 f2_2 k3 hin f5_2 (by rw [show c0 = n0 by omega] at k2; exact k2)⟩, by rw [ht]; exact hP, hD⟩, hS.F ht⟩) hS.2.2 dX2_fill_82
        · refine lv_aload hx hb dX2_fill_51 (lv_at hl 6 rfl) ?_
          refine lv_iload hx hb dX2_fill_53 (lv_at hl 7 rfl) ?_
          refine lv_iload hx hb dX2_fill_55 (lv_at hl 8 rfl) ?_
          refine sf_iadd hx hb dX2_fill_57 ?_
          refine lv_iload hx hb dX2_fill_58 (lv_at hl 4 rfl) ?_
          refine lv_bipush (v := nI 7) hx hb dX2_fill_60 (by decide) ?_
          refine lv_iload hx hb dX2_fill_62 (lv_at hl 8 rfl) ?_
          refine sf_imul hx hb dX2_fill_64 ?_
          refine lv_iadd hx hb dX2_fill_65 ?_
          refine lv_iload hx hb dX2_fill_66 (lv_at hl 8 rfl) ?_
          refine lv_sipush (v := nI 250) hx hb dX2_fill_68 (by decide) ?_
          refine sf_idiv hx hb (by omega) (by omega) (by omega) dX2_fill_71 ?_
          refine lv_iadd hx hb dX2_fill_72 ?_
          refine lv_i2b hx hb dX2_fill_73 rfl ?_
          refine sf_bast hx hb hK hP hD hS 2 0 rfl rfl (pk_vb _) (by omega) (by decide) dX2_fill_74 (fun H locs hP hD hS => ?_)
          have hP : va_P (dC, dI) vwCl (sf_w a0 a1 a2 a3 cB cT LP gb md ct tb nm tk oc en fs la (upd g2 ((st a_2 + i0) + c0) (((d + (nI (7 * c0))) + (nI (c0 / 250))).toInt8.toInt32)) st ln bf af) H := hP
          have hD : va_D A (sf_w a0 a1 a2 a3 cB cT LP gb md ct tb nm tk oc en fs la (upd g2 ((st a_2 + i0) + c0) (((d + (nI (7 * c0))) + (nI (c0 / 250))).toInt8.toInt32)) st ln bf af) := hD
          refine lv_iinc (v := nI (c0 + 1)) (lv' := [(8, .int (nI (c0 + 1))), (0, .ref a0), (1, .int (nI k_2)), (2, .int (nI i0)), (3, .int (nI n0)), (4, .int d), (5, .ref a_2), (6, .ref a2), (7, .int (nI (st a_2 + i0)))]) hx hb dX2_fill_75 hl (k := 8) rfl (nI_1 c0) (by decide) rfl (fun ls hl => ?_)
          refine lv_goto (tgt := 45) hx hb dX2_fill_78 (by decide) ?_
          exact ih (c0 + 1, upd g2 (st a_2 + i0 + c0) (zfb d c0)) _ _ _ (by dsimp only; omega) ⟨by dsimp only; omega, sf_fill_go (h := zfb d) k2, sb_fitU k3 (pk_fb _), hP, hD, hS, lv_sub hl [1, 2, 3, 4, 5, 6, 7, 8, 0] rfl⟩
      · exact ⟨Nat.zero_le _, fun p => by rw [if_neg (by omega)], hI.1.2.2.2.2.2.2.2.2.2, hP, hD, hS, lv_sub hl [4, 5, 6, 7, 8, 3, 2, 1, 0] rfl⟩
    · rw [← f4_2] at h_16
      refine sf_if_ne (tgt := 24) hx hb (by decide) dX2_fill_19 (by decide) (fun c_19 => absurd c_19 (by decide)) (fun _ => ?_)
      refine lv_iconst (v := nI 0) hx hb dX2_fill_22 (by decide) ?_
      exact W.zret (v := nI 0) hx hb hr (by decide) (fun t ht hW => ⟨⟨_, (LP, gb, md, ct, tb, nm, tk, oc, en, fs, la, g, st, ln, bf, af), rfl, by rw [zs_fill_2 f1_2 (by omega) h_16]; exact ⟨rfl, cs, fr, hI, hR⟩, by rw [ht]; exact hP, hD⟩, hS.F ht⟩) hS.2.2 dX2_fill_23
  · obtain ⟨q1_2, q2_2⟩ := h_2
    subst q1_2
    have f1_2 := sf_zr_none hI hR q2_2
    refine lv_astoreN (lv' := [(5, .null), (0, .ref a0), (1, .int row), (2, .int i), (3, .int n), (4, .int d)]) hx hb dX2_fill_5 hl (by decide) rfl (fun ls hl => ?_)
    refine lv_aloadN hx hb dX2_fill_7 (lv_at hl 0 rfl) ?_
    refine lv_ifnullN (tgt := 22) hx hb dX2_fill_9 (by decide) ?_
    refine lv_iconst (v := nI 0) hx hb dX2_fill_22 (by decide) ?_
    exact W.zret (v := nI 0) hx hb hr (by decide) (fun t ht hW => ⟨⟨_, (LP, gb, md, ct, tb, nm, tk, oc, en, fs, la, g, st, ln, bf, af), rfl, by rw [zs_fill_1 f1_2]; exact ⟨rfl, cs, fr, hI, hR⟩, by rw [ht]; exact hP, hD⟩, hS.F ht⟩) hS.2.2 dX2_fill_23
theorem sf_res_f {z : sf_Z} {k a n : Nat} {g g2 : Nat → Int32} {st st2 ln : Nat → Nat} (f4 : zLn z k = ln a) (f5 : ∀ i, i < ln a → zBy z k i = g (st a + i)) (e6 : ∀ i, i < n → g2 (st2 a + i) = if i < ln a then g (st a + i) else 0) : ∀ i, i < n → (fun i => if i < zLn z k then zBy z k i else 0) i = g2 (st2 a + i) := by
  intro i hi
  show (if i < zLn z k then zBy z k i else 0) = _
  rw [e6 i hi, f4]
  by_cases q : i < ln a
  · rw [if_pos q, if_pos q]; exact f5 i q
  · rw [if_neg q, if_neg q]
set_option maxHeartbeats 4000000 in
set_option maxRecDepth 100000 in
/-- resize(row, n) -/
theorem c_resize (l : Launch) (dC : Nat → ClassId) (dI : Nat → Nat → Nat) (a0 a1 a2 a3 : Nat) (cB cT : ClassId) (LP : List Nat) (gb : Option Nat) (md ct : Nat) (tb : Nat → Option Nat) (nm tk : Nat → Nat) (oc en : Nat) (fs la : Option Nat) (g : Nat → Int32) (st ln : Nat → Nat) (bf af : Nat → Option Nat) (sz : Nat) (z : sf_Z) (cs fr : List Nat) (hI : sf_CI LP gb md ct tb nm tk oc en fs la g st ln bf af cs fr) (hR : sf_CR LP nm tk ln st g cs fr ct oc z) (row n : Int32) : Met l yX2_resize wsX2_resize ({ frames := 5, cells := 0, slots := 0, locals := 150 } : Room) (sf_Pre (dC, dI) vwCl [(cB, .byte), (cT, .object "ByteShelf$Row")] [.ref a0, .int row, .int n] (sf_w a0 a1 a2 a3 cB cT LP gb md ct tb nm tk oc en fs la g st ln bf af) sz) (va_Qi (fun (r : Int32) (u : sf_Sx) => r = (zs_resize z row n).1 ∧ sf_OKu u (zs_resize z row n).2) (sf_E (dC, dI) vwCl (va_A (sf_w a0 a1 a2 a3 cB cT LP gb md ct tb nm tk oc en fs la g st ln bf af) sz) (fun (u : sf_Sx) => sf_w a0 a1 a2 a3 cB cT u.1 u.2.1 u.2.2.1 u.2.2.2.1 u.2.2.2.2.1 u.2.2.2.2.2.1 u.2.2.2.2.2.2.1 u.2.2.2.2.2.2.2.1 u.2.2.2.2.2.2.2.2.1 u.2.2.2.2.2.2.2.2.2.1 u.2.2.2.2.2.2.2.2.2.2.1 u.2.2.2.2.2.2.2.2.2.2.2.1 u.2.2.2.2.2.2.2.2.2.2.2.2.1 u.2.2.2.2.2.2.2.2.2.2.2.2.2.1 u.2.2.2.2.2.2.2.2.2.2.2.2.2.2.1 u.2.2.2.2.2.2.2.2.2.2.2.2.2.2.2)) (va_A (sf_w a0 a1 a2 a3 cB cT LP gb md ct tb nm tk oc en fs la g st ln bf af) sz)) 0 0 (va_A (sf_w a0 a1 a2 a3 cB cT LP gb md ct tb nm tk oc en fs la g st ln bf af) sz) := by
  refine Met.ofW (cc := cX2_resize) (maxL := 4) (ret := (some .int)) (by decide) rfl ?_
  intro p e s m args below meth c s₁ B hml hv
  obtain ⟨rfl, hsz, hP, hK, hD0, hN⟩ := hv
  have hx := B.exec
  have hb := B.bytes
  have hr := B.returns
  have hts := atoms_spec (ws := wsX2_resize) B.pre
  have hown : s.vm.findClass RX2 = some m.cls := findClass_of_methodNamed B.named
  have hlocks := B.notSynchronized
  subst hsz
  have hD := hD0.self (sz := s.heap.size)
  generalize hAe : va_A (sf_w a0 a1 a2 a3 cB cT LP gb md ct tb nm tk oc en fs la g st ln bf af) s.heap.size = A at hD ⊢
  have hA : ∀ q : Nat, s.heap.size ≤ q → A q := fun q h => by rw [← hAe]; exact Or.inr h
  have hS : va_S A s.heap s.heap [] := va_S.rf
  have hl := lv_entry ([.ref a0, .int row, .int n]) (n := 4) (Nat.le_of_ble_eq_true rfl)
  rw [lg_entry_eq]
  generalize (lg_sl ([.ref a0, .int row, .int n]) ++ List.replicate (4 - (lg_sl ([.ref a0, .int row, .int n])).length) Slot.unset).toArray = ls at hl ⊢
  have hl : lv_has ls 4 [(0, .ref a0), (1, .int row), (2, .int n)] := hl
  refine lv_aload_n hx hb dX2_resize_0 rfl (lv_at hl 0 rfl) ?_
  refine lv_iload_n hx hb dX2_resize_1 rfl (lv_at hl 1 rfl) ?_
  refine va_csq (va_Run.run (sf_runV (b := a0) (As := [.int row]) (rest := []) ⟨hx, hb, hml, hown, hts⟩ sf_has (c_find l dC dI a0 a1 a2 a3 cB cT LP gb md ct tb nm tk oc en fs la g st ln bf af _ _ (sf_CI_find hI).1 (sf_CI_find hI).2.1 (sf_CI_find hI).2.2) k_X2_59 ⟨sf_blind, va_recv hK hP (ci := 2) (q0 := 0) rfl rfl, sf_preU hP hK hD hN⟩ rfl hl.1 (Nat.le_of_ble_eq_true rfl) ⟨(Nat.le_of_ble_eq_true rfl), (Nat.le_of_ble_eq_true rfl)⟩ ⟨rfl, rfl⟩ ⟨Nat.zero_le _, Nat.zero_le _⟩ dX2_resize_2)) (fun r_2 h_2 => ?_)
  rcases h_2 with h_2 | h_2
  · obtain ⟨k_2, a_2, q1_2, q2_2, q3_2, q4_2, q5_2, q6_2⟩ := h_2
    subst q2_2
    subst q6_2
    obtain ⟨f1_2, f2_2, f3_2, f4_2, f5_2, f6_2, f7_2⟩ := sf_zr_some hI hR q1_2 q3_2 q5_2
    have hl : lv_has ls 4 [(0, .ref a0), (1, .int (nI k_2)), (2, .int n)] := hl
    refine lv_astore_n (lv' := [(3, .ref a_2), (0, .ref a0), (1, .int (nI k_2)), (2, .int n)]) hx hb dX2_resize_5 rfl hl (by decide) rfl (fun ls hl => ?_)
    refine lv_aload_n hx hb dX2_resize_6 rfl (lv_at hl 0 rfl) ?_
    refine lv_ifnull hx hb dX2_resize_7 ?_
    refine lv_iload_n hx hb dX2_resize_10 rfl (lv_at hl 3 rfl) ?_
    refine vp_callSi (va_Run.run (sf_runS (As := [.int n]) (rest := []) ⟨hx, hb, hml, hown, hts⟩ sf_has (c_isLength l n) k_X2_33 ⟨sf_blindT, sf_preT⟩ rfl hl.1 (Nat.le_of_ble_eq_true rfl) ⟨(Nat.le_of_ble_eq_true rfl), (Nat.le_of_ble_eq_true rfl)⟩ ⟨rfl, rfl⟩ ⟨Nat.zero_le _, Nat.zero_le _⟩ dX2_resize_11)) (fun r_11 h_11 => ?_)
    rcases h_11 with ⟨rfl, h_11⟩ | ⟨rfl, h_11⟩
    · obtain ⟨m, hm, rfl⟩ := h_11
      have hl : lv_has ls 4 [(3, .ref a_2), (0, .ref a0), (1, .int (nI k_2)), (2, .int (nI m))] := hl
      refine sf_if_ne (tgt := 19) hx hb (by decide) dX2_resize_14 (by decide) (fun _ => ?_) (fun c_14 => absurd c_14 (by decide))
      refine lv_aload_n hx hb dX2_resize_19 rfl (lv_at hl 1 rfl) ?_
      refine va_get (D := (dC, dI)) (ci := 2) (v := .ref a1) (C := RX2) (T := TX2) (N := 5) hx hb hts sf_inX2 hown hK hP 0 rfl rfl 0 (by decide) (hts _ (sf_mem fl_X2_10 rfl)) (fun _ h9 => h9) rfl dX2_resize_20 ?_
      refine lv_aload_n hx hb dX2_resize_23 rfl (lv_at hl 0 rfl) ?_
      refine lv_iload_n hx hb dX2_resize_24 rfl (lv_at hl 3 rfl) ?_
      refine sf_ci (sf_runV (b := a1) (As := [.ref a_2, .int (nI m)]) (rest := []) ⟨hx, hb, hml, hown, hts⟩ sf_has (c_setLength l dC dI a0 a1 a2 a3 cB cT LP gb md ct tb nm tk oc en fs la g st ln bf af _ cs hI.1 a_2 f2_2 m hm) k_X2_70 ⟨sf_blind, va_recv hK hP (ci := 0) (q0 := 1) rfl rfl, sf_preU hP hK hD hN⟩ rfl hl.1 (Nat.le_of_ble_eq_true rfl) ⟨(Nat.le_of_ble_eq_true rfl), (Nat.le_of_ble_eq_true rfl)⟩ ⟨rfl, rfl⟩ ⟨Nat.zero_le _, Nat.zero_le _⟩ dX2_resize_25) hD hS hA (fun r_25 u_25 H locs h_25 hP hD hS => ?_)
      rcases h_25 with ⟨rfl, s1, s2, rfl⟩ | ⟨rfl, s1, s2⟩
      · have hP : va_P (dC, dI) vwCl (sf_w a0 a1 a2 a3 cB cT LP gb md ct tb nm tk oc en fs la g st ln bf af) H := hP
        have hD : va_D A (sf_w a0 a1 a2 a3 cB cT LP gb md ct tb nm tk oc en fs la g st ln bf af) := hD
        refine sf_if_eq (tgt := 35) hx hb (by decide) dX2_resize_28 (by decide) (fun _ => ?_) (fun c_28 => absurd c_28 (by decide))
        refine lv_bipush (v := -2) hx hb dX2_resize_35 (by decide) ?_
        exact W.iret (v := -2) hx hb hr (fun t ht hW => ⟨⟨_, (LP, gb, md, ct, tb, nm, tk, oc, en, fs, la, g, st, ln, bf, af), rfl, by rw [zs_res_3 f1_2 hm (by rw [f4_2, hR.2.2.2.2.2]; exact ⟨s1, s2⟩)]; exact ⟨rfl, cs, fr, hI, hR⟩, by rw [ht]; exact hP, hD⟩, hS.F ht⟩) hS.2.2 dX2_resize_37
      · obtain ⟨cs2, oc2, en2, fs2, la2, g2, st2, bf2, af2, rfl, e1, e2, e3, e4, e5, e6, e7⟩ := s2
        have hP : va_P (dC, dI) vwCl (sf_w a0 a1 a2 a3 cB cT LP gb md ct tb nm tk oc2 en2 fs2 la2 g2 st2 (va_up ln a_2 m) bf2 af2) H := hP
        have hD : va_D A (sf_w a0 a1 a2 a3 cB cT LP gb md ct tb nm tk oc2 en2 fs2 la2 g2 st2 (va_up ln a_2 m) bf2 af2) := hD
        refine sf_if_eq (tgt := 35) hx hb (by decide) dX2_resize_28 (by decide) (fun c_28 => absurd c_28 (by decide)) (fun _ => ?_)
        refine lv_iload_n hx hb dX2_resize_31 rfl (lv_at hl 3 rfl) ?_
        refine lv_goto (tgt := 37) hx hb dX2_resize_32 (by decide) ?_
        exact W.iret (v := nI m) hx hb hr (fun t ht hW => ⟨⟨_, (LP, gb, md, ct, tb, nm, tk, oc2, en2, fs2, la2, g2, st2, (va_up ln a_2 m), bf2, af2), rfl, by rw [zs_res_4 f1_2 hm (by rw [f4_2, hR.2.2.2.2.2]; exact s1)]; exact ⟨rfl, cs2, fr, sf_OK_len hI hR f3_2 f2_2 e1 e2 e3 e4 e5 (sf_res_f f4_2 f5_2 e6) e7⟩, by rw [ht]; exact hP, hD⟩, hS.F ht⟩) hS.2.2 dX2_resize_37
    · have hzn : zi n 16385 = none := zi_none (by omega) (fun k hk => h_11 k (by omega))
      refine sf_if_ne (tgt := 19) hx hb (by decide) dX2_resize_14 (by decide) (fun c_14 => absurd c_14 (by decide)) (fun _ => ?_)
      refine lv_iconst (v := -1) hx hb dX2_resize_17 (by decide) ?_
      exact W.iret (v := -1) hx hb hr (fun t ht hW => ⟨⟨_, (LP, gb, md, ct, tb, nm, tk, oc, en, fs, la, g, st, ln, bf, af), rfl, by rw [zs_res_2 f1_2 hzn]; exact ⟨rfl, cs, fr, hI, hR⟩, by rw [ht]; exact hP, hD⟩, hS.F ht⟩) hS.2.2 dX2_resize_18
  · obtain ⟨q1_2, q2_2⟩ := h_2
    subst q1_2
    have f1_2 := sf_zr_none hI hR q2_2
    refine lv_astore_nN (lv' := [(3, .null), (0, .ref a0), (1, .int row), (2, .int n)]) hx hb dX2_resize_5 rfl hl (by decide) rfl (fun ls hl => ?_)
    refine lv_aload_nN hx hb dX2_resize_6 rfl (lv_at hl 0 rfl) ?_
    refine lv_ifnullN (tgt := 17) hx hb dX2_resize_7 (by decide) ?_
    refine lv_iconst (v := -1) hx hb dX2_resize_17 (by decide) ?_
    exact W.iret (v := -1) hx hb hr (fun t ht hW => ⟨⟨_, (LP, gb, md, ct, tb, nm, tk, oc, en, fs, la, g, st, ln, bf, af), rfl, by rw [zs_res_1 f1_2]; exact ⟨rfl, cs, fr, hI, hR⟩, by rw [ht]; exact hP, hD⟩, hS.F ht⟩) hS.2.2 dX2_resize_18
set_option maxHeartbeats 4000000 in
set_option maxRecDepth 100000 in
/-- copy(row, src) -/
theorem c_copy (l : Launch) (dC : Nat → ClassId) (dI : Nat → Nat → Nat) (a0 a1 a2 a3 : Nat) (cB cT : ClassId) (LP : List Nat) (gb : Option Nat) (md ct : Nat) (tb : Nat → Option Nat) (nm tk : Nat → Nat) (oc en : Nat) (fs la : Option Nat) (g : Nat → Int32) (st ln : Nat → Nat) (bf af : Nat → Option Nat) (sz : Nat) (z : sf_Z) (cs fr : List Nat) (hI : sf_CI LP gb md ct tb nm tk oc en fs la g st ln bf af cs fr) (hR : sf_CR LP nm tk ln st g cs fr ct oc z) (row src : Int32) : Met l yX2_copy wsX2_copy ({ frames := 5, cells := 0, slots := 0, locals := 150 } : Room) (sf_Pre (dC, dI) vwCl [(cB, .byte), (cT, .object "ByteShelf$Row")] [.ref a0, .int row, .int src] (sf_w a0 a1 a2 a3 cB cT LP gb md ct tb nm tk oc en fs la g st ln bf af) sz) (va_Qi (fun (r : Int32) (u : sf_Sx) => r = (zs_copy z row src).1 ∧ sf_OKu u (zs_copy z row src).2) (sf_E (dC, dI) vwCl (va_A (sf_w a0 a1 a2 a3 cB cT LP gb md ct tb nm tk oc en fs la g st ln bf af) sz) (fun (u : sf_Sx) => sf_w a0 a1 a2 a3 cB cT u.1 u.2.1 u.2.2.1 u.2.2.2.1 u.2.2.2.2.1 u.2.2.2.2.2.1 u.2.2.2.2.2.2.1 u.2.2.2.2.2.2.2.1 u.2.2.2.2.2.2.2.2.1 u.2.2.2.2.2.2.2.2.2.1 u.2.2.2.2.2.2.2.2.2.2.1 u.2.2.2.2.2.2.2.2.2.2.2.1 u.2.2.2.2.2.2.2.2.2.2.2.2.1 u.2.2.2.2.2.2.2.2.2.2.2.2.2.1 u.2.2.2.2.2.2.2.2.2.2.2.2.2.2.1 u.2.2.2.2.2.2.2.2.2.2.2.2.2.2.2)) (va_A (sf_w a0 a1 a2 a3 cB cT LP gb md ct tb nm tk oc en fs la g st ln bf af) sz)) 0 0 (va_A (sf_w a0 a1 a2 a3 cB cT LP gb md ct tb nm tk oc en fs la g st ln bf af) sz) := by
  refine Met.ofW (cc := cX2_copy) (maxL := 5) (ret := (some .int)) (by decide) rfl ?_
  intro p e s m args below meth c s₁ B hml hv
  obtain ⟨rfl, hsz, hP, hK, hD0, hN⟩ := hv
  have hx := B.exec
  have hb := B.bytes
  have hr := B.returns
  have hts := atoms_spec (ws := wsX2_copy) B.pre
  have hown : s.vm.findClass RX2 = some m.cls := findClass_of_methodNamed B.named
  have hlocks := B.notSynchronized
  subst hsz
  have hD := hD0.self (sz := s.heap.size)
  generalize hAe : va_A (sf_w a0 a1 a2 a3 cB cT LP gb md ct tb nm tk oc en fs la g st ln bf af) s.heap.size = A at hD ⊢
  have hA : ∀ q : Nat, s.heap.size ≤ q → A q := fun q h => by rw [← hAe]; exact Or.inr h
  have hS : va_S A s.heap s.heap [] := va_S.rf
  have hl := lv_entry ([.ref a0, .int row, .int src]) (n := 5) (Nat.le_of_ble_eq_true rfl)
  rw [lg_entry_eq]
  generalize (lg_sl ([.ref a0, .int row, .int src]) ++ List.replicate (5 - (lg_sl ([.ref a0, .int row, .int src])).length) Slot.unset).toArray = ls at hl ⊢
  have hl : lv_has ls 5 [(0, .ref a0), (1, .int row), (2, .int src)] := hl
  refine lv_aload_n hx hb dX2_copy_0 rfl (lv_at hl 0 rfl) ?_
  refine lv_iload_n hx hb dX2_copy_1 rfl (lv_at hl 1 rfl) ?_
  refine va_csq (va_Run.run (sf_runV (b := a0) (As := [.int row]) (rest := []) ⟨hx, hb, hml, hown, hts⟩ sf_has (c_find l dC dI a0 a1 a2 a3 cB cT LP gb md ct tb nm tk oc en fs la g st ln bf af _ _ (sf_CI_find hI).1 (sf_CI_find hI).2.1 (sf_CI_find hI).2.2) k_X2_59 ⟨sf_blind, va_recv hK hP (ci := 2) (q0 := 0) rfl rfl, sf_preU hP hK hD hN⟩ rfl hl.1 (Nat.le_of_ble_eq_true rfl) ⟨(Nat.le_of_ble_eq_true rfl), (Nat.le_of_ble_eq_true rfl)⟩ ⟨rfl, rfl⟩ ⟨Nat.zero_le _, Nat.zero_le _⟩ dX2_copy_2)) (fun r_2 h_2 => ?_)
  rcases h_2 with h_2 | h_2
  · obtain ⟨k_2, a_2, q1_2, q2_2, q3_2, q4_2, q5_2, q6_2⟩ := h_2
    subst q2_2
    subst q6_2
    obtain ⟨f1_2, f2_2, f3_2, f4_2, f5_2, f6_2, f7_2⟩ := sf_zr_some hI hR q1_2 q3_2 q5_2
    have hl : lv_has ls 5 [(0, .ref a0), (1, .int (nI k_2)), (2, .int src)] := hl
    refine lv_astore_n (lv' := [(3, .ref a_2), (0, .ref a0), (1, .int (nI k_2)), (2, .int src)]) hx hb dX2_copy_5 rfl hl (by decide) rfl (fun ls hl => ?_)
    refine lv_aload_n hx hb dX2_copy_6 rfl (lv_at hl 1 rfl) ?_
    refine lv_iload_n hx hb dX2_copy_7 rfl (lv_at hl 3 rfl) ?_
    refine va_csq (va_Run.run (sf_runV (b := a0) (As := [.int src]) (rest := []) ⟨hx, hb, hml, hown, hts⟩ sf_has (c_find l dC dI a0 a1 a2 a3 cB cT LP gb md ct tb nm tk oc en fs la g st ln bf af _ _ (sf_CI_find hI).1 (sf_CI_find hI).2.1 (sf_CI_find hI).2.2) k_X2_59 ⟨sf_blind, va_recv hK hP (ci := 2) (q0 := 0) rfl rfl, sf_preU hP hK hD hN⟩ rfl hl.1 (Nat.le_of_ble_eq_true rfl) ⟨(Nat.le_of_ble_eq_true rfl), (Nat.le_of_ble_eq_true rfl)⟩ ⟨rfl, rfl⟩ ⟨Nat.zero_le _, Nat.zero_le _⟩ dX2_copy_8)) (fun r_8 h_8 => ?_)
    rcases h_8 with h_8 | h_8
    · obtain ⟨k_8, a_8, q1_8, q2_8, q3_8, q4_8, q5_8, q6_8⟩ := h_8
      subst q2_8
      subst q6_8
      obtain ⟨f1_8, f2_8, f3_8, f4_8, f5_8, f6_8, f7_8⟩ := sf_zr_some hI hR q1_8 q3_8 q5_8
      have hl : lv_has ls 5 [(3, .ref a_2), (0, .ref a0), (1, .int (nI k_2)), (2, .int (nI k_8))] := hl
      refine lv_astore (lv' := [(4, .ref a_8), (3, .ref a_2), (0, .ref a0), (1, .int (nI k_2)), (2, .int (nI k_8))]) hx hb dX2_copy_11 hl (by decide) rfl (fun ls hl => ?_)
      refine lv_aload_n hx hb dX2_copy_13 rfl (lv_at hl 1 rfl) ?_
      refine lv_ifnull hx hb dX2_copy_14 ?_
      refine lv_aload hx hb dX2_copy_17 (lv_at hl 0 rfl) ?_
      refine lv_ifnonnull (tgt := 24) hx hb dX2_copy_19 (by decide) ?_
      refine lv_aload_n hx hb dX2_copy_24 rfl (lv_at hl 2 rfl) ?_
      refine va_get (D := (dC, dI)) (ci := 2) (v := .ref a1) (C := RX2) (T := TX2) (N := 5) hx hb hts sf_inX2 hown hK hP 0 rfl rfl 0 (by decide) (hts _ (sf_mem fl_X2_10 rfl)) (fun _ h9 => h9) rfl dX2_copy_25 ?_
      refine lv_aload_n hx hb dX2_copy_28 rfl (lv_at hl 1 rfl) ?_
      refine lv_aload hx hb dX2_copy_29 (lv_at hl 0 rfl) ?_
      refine sf_rget (D := (dC, dI)) (ci := 1) (v := .int (nI (ln a_8))) (C := RX1) (T := TX1) (N := 6) hx hb hts sf_inX1 hown hK hP q4_8 rfl rfl 3 (by decide) (hts _ (sf_mem fl_X2_88 rfl)) (fun _ h9 => h9) rfl dX2_copy_31 ?_
      refine sf_ci (sf_runV (b := a1) (As := [.ref a_2, .int (nI (ln a_8))]) (rest := []) ⟨hx, hb, hml, hown, hts⟩ sf_has (c_setLength l dC dI a0 a1 a2 a3 cB cT LP gb md ct tb nm tk oc en fs la g st ln bf af _ cs hI.1 a_2 f2_2 (ln a_8) f6_8) k_X2_70 ⟨sf_blind, va_recv hK hP (ci := 0) (q0 := 1) rfl rfl, sf_preU hP hK hD hN⟩ rfl hl.1 (Nat.le_of_ble_eq_true rfl) ⟨(Nat.le_of_ble_eq_true rfl), (Nat.le_of_ble_eq_true rfl)⟩ ⟨rfl, rfl⟩ ⟨Nat.zero_le _, Nat.zero_le _⟩ dX2_copy_34) hD hS hA (fun r_34 u_34 H locs h_34 hP hD hS => ?_)
      rcases h_34 with ⟨rfl, s1, s2, rfl⟩ | ⟨rfl, s1, s2⟩
      · have hP : va_P (dC, dI) vwCl (sf_w a0 a1 a2 a3 cB cT LP gb md ct tb nm tk oc en fs la g st ln bf af) H := hP
        have hD : va_D A (sf_w a0 a1 a2 a3 cB cT LP gb md ct tb nm tk oc en fs la g st ln bf af) := hD
        refine sf_if_ne (tgt := 43) hx hb (by decide) dX2_copy_37 (by decide) (fun c_37 => absurd c_37 (by decide)) (fun _ => ?_)
        refine lv_bipush (v := -2) hx hb dX2_copy_40 (by decide) ?_
        exact W.iret (v := -2) hx hb hr (fun t ht hW => ⟨⟨_, (LP, gb, md, ct, tb, nm, tk, oc, en, fs, la, g, st, ln, bf, af), rfl, by rw [zs_cpy_3 f1_2 f1_8 (by rw [f4_2, f4_8, hR.2.2.2.2.2]; exact ⟨s1, s2⟩)]; exact ⟨rfl, cs, fr, hI, hR⟩, by rw [ht]; exact hP, hD⟩, hS.F ht⟩) hS.2.2 dX2_copy_42
      · obtain ⟨cs2, oc2, en2, fs2, la2, g2, st2, bf2, af2, rfl, e1, e2, e3, e4, e5, e6, e7⟩ := s2
        have hP : va_P (dC, dI) vwCl (sf_w a0 a1 a2 a3 cB cT LP gb md ct tb nm tk oc2 en2 fs2 la2 g2 st2 (va_up ln a_2 (ln a_8)) bf2 af2) H := hP
        have hD : va_D A (sf_w a0 a1 a2 a3 cB cT LP gb md ct tb nm tk oc2 en2 fs2 la2 g2 st2 (va_up ln a_2 (ln a_8)) bf2 af2) := hD
        have hlen : va_up ln a_2 (ln a_8) a_8 = ln a_8 := sf_up_same
        have m1 := (sf_MI_st e4 ((e2 a_2).mpr f2_2)).2.2.1
        rw [va_up_self] at m1
        have m2 := (sf_MI_st e4 ((e2 a_8).mpr f2_8)).2.2.1
        rw [hlen] at m2
        refine sf_if_ne (tgt := 43) hx hb (by decide) dX2_copy_37 (by decide) (fun _ => ?_) (fun c_37 => absurd c_37 (by decide))
        refine lv_aload_n hx hb dX2_copy_43 rfl (lv_at hl 2 rfl) ?_
        refine va_get (D := (dC, dI)) (ci := 2) (v := .ref a1) (C := RX2) (T := TX2) (N := 5) hx hb hts sf_inX2 hown hK hP 0 rfl rfl 0 (by decide) (hts _ (sf_mem fl_X2_10 rfl)) (fun _ h9 => h9) rfl dX2_copy_44 ?_
        refine va_get (D := (dC, dI)) (ci := 0) (v := .ref a2) (C := RX0) (T := TX0) (N := 5) hx hb hts sf_inX0 hown hK hP 1 rfl rfl 0 (by decide) (hts _ (sf_mem fl_X2_77 rfl)) (fun _ h9 => h9) rfl dX2_copy_47 ?_
        refine lv_aload hx hb dX2_copy_50 (lv_at hl 0 rfl) ?_
        refine sf_rget (D := (dC, dI)) (ci := 1) (v := .int (nI (st2 a_8))) (C := RX1) (T := TX1) (N := 6) hx hb hts sf_inX1 hown hK hP q4_8 rfl rfl 2 (by decide) (hts _ (sf_mem fl_X2_81 rfl)) (fun _ h9 => h9) rfl dX2_copy_52 ?_
        refine lv_aload_n hx hb dX2_copy_55 rfl (lv_at hl 2 rfl) ?_
        refine va_get (D := (dC, dI)) (ci := 2) (v := .ref a1) (C := RX2) (T := TX2) (N := 5) hx hb hts sf_inX2 hown hK hP 0 rfl rfl 0 (by decide) (hts _ (sf_mem fl_X2_10 rfl)) (fun _ h9 => h9) rfl dX2_copy_56 ?_
        refine va_get (D := (dC, dI)) (ci := 0) (v := .ref a2) (C := RX0) (T := TX0) (N := 5) hx hb hts sf_inX0 hown hK hP 1 rfl rfl 0 (by decide) (hts _ (sf_mem fl_X2_77 rfl)) (fun _ h9 => h9) rfl dX2_copy_59 ?_
        refine lv_aload_n hx hb dX2_copy_62 rfl (lv_at hl 1 rfl) ?_
        refine sf_rget (D := (dC, dI)) (ci := 1) (v := .int (nI (st2 a_2))) (C := RX1) (T := TX1) (N := 6) hx hb hts sf_inX1 hown hK hP q4_2 rfl rfl 2 (by decide) (hts _ (sf_mem fl_X2_81 rfl)) (fun _ h9 => h9) rfl dX2_copy_63 ?_
        refine lv_aload hx hb dX2_copy_66 (lv_at hl 0 rfl) ?_
        refine sf_rget (D := (dC, dI)) (ci := 1) (v := .int (nI (ln a_8))) (C := RX1) (T := TX1) (N := 6) hx hb hts sf_inX1 hown hK hP q4_8 rfl rfl 3 (by decide) (hts _ (sf_mem fl_X2_88 rfl)) (fun _ h9 => h9) (congrArg (fun z => some (Value.int (nI z))) hlen) dX2_copy_68 ?_
        refine sf_copy hx hb (hml.trans hl.1.symm) hown hts sf_has ml_X2_91 hK hP hD hS 2 0 rfl rfl (by decide) (by omega) (by omega) e4.2.2.2.2.2.2.2.2.2 (Nat.le_of_ble_eq_true rfl) (Nat.le_of_ble_eq_true rfl) dX2_copy_71 (fun H locs hP hD hS => ?_)
        have hP : va_P (dC, dI) vwCl (sf_w a0 a1 a2 a3 cB cT LP gb md ct tb nm tk oc2 en2 fs2 la2 (va_cpy g2 g2 (st2 a_8) (st2 a_2) (ln a_8)) st2 (va_up ln a_2 (ln a_8)) bf2 af2) H := hP
        have hD : va_D A (sf_w a0 a1 a2 a3 cB cT LP gb md ct tb nm tk oc2 en2 fs2 la2 (va_cpy g2 g2 (st2 a_8) (st2 a_2) (ln a_8)) st2 (va_up ln a_2 (ln a_8)) bf2 af2) := hD
        refine lv_aload hx hb dX2_copy_74 (lv_at hl 0 rfl) ?_
        refine sf_rget (D := (dC, dI)) (ci := 1) (v := .int (nI (ln a_8))) (C := RX1) (T := TX1) (N := 6) hx hb hts sf_inX1 hown hK hP q4_8 rfl rfl 3 (by decide) (hts _ (sf_mem fl_X2_88 rfl)) (fun _ h9 => h9) (congrArg (fun z => some (Value.int (nI z))) hlen) dX2_copy_76 ?_
        exact W.iret (v := nI (ln a_8)) hx hb hr (fun t ht hW => ⟨⟨_, (LP, gb, md, ct, tb, nm, tk, oc2, en2, fs2, la2, (va_cpy g2 g2 (st2 a_8) (st2 a_2) (ln a_8)), st2, (va_up ln a_2 (ln a_8)), bf2, af2), rfl, by rw [zs_cpy_4 f1_2 f1_8 (by rw [f4_2, f4_8, hR.2.2.2.2.2]; exact s1), f4_8]; exact ⟨rfl, sf_OK_copy hI hR f3_2 f2_2 f2_8 f5_8 e1 e2 e3 e4 e5 e6 e7⟩, by rw [ht]; exact hP, hD⟩, hS.F ht⟩) hS.2.2 dX2_copy_79
    · obtain ⟨q1_8, q2_8⟩ := h_8
      subst q1_8
      have f1_8 := sf_zr_none hI hR q2_8
      refine lv_astoreN (lv' := [(4, .null), (3, .ref a_2), (0, .ref a0), (1, .int (nI k_2)), (2, .int src)]) hx hb dX2_copy_11 hl (by decide) rfl (fun ls hl => ?_)
      refine lv_aload_n hx hb dX2_copy_13 rfl (lv_at hl 1 rfl) ?_
      refine lv_ifnull hx hb dX2_copy_14 ?_
      refine lv_aloadN hx hb dX2_copy_17 (lv_at hl 0 rfl) ?_
      refine lv_ifnonnullN hx hb dX2_copy_19 ?_
      refine lv_iconst (v := -1) hx hb dX2_copy_22 (by decide) ?_
      exact W.iret (v := -1) hx hb hr (fun t ht hW => ⟨⟨_, (LP, gb, md, ct, tb, nm, tk, oc, en, fs, la, g, st, ln, bf, af), rfl, by rw [zs_cpy_2 f1_8]; exact ⟨rfl, cs, fr, hI, hR⟩, by rw [ht]; exact hP, hD⟩, hS.F ht⟩) hS.2.2 dX2_copy_23
  · obtain ⟨q1_2, q2_2⟩ := h_2
    subst q1_2
    have f1_2 := sf_zr_none hI hR q2_2
    refine lv_astore_nN (lv' := [(3, .null), (0, .ref a0), (1, .int row), (2, .int src)]) hx hb dX2_copy_5 rfl hl (by decide) rfl (fun ls hl => ?_)
    refine lv_aload_n hx hb dX2_copy_6 rfl (lv_at hl 1 rfl) ?_
    refine lv_iload_n hx hb dX2_copy_7 rfl (lv_at hl 3 rfl) ?_
    refine va_csq (va_Run.run (sf_runV (b := a0) (As := [.int src]) (rest := []) ⟨hx, hb, hml, hown, hts⟩ sf_has (c_find l dC dI a0 a1 a2 a3 cB cT LP gb md ct tb nm tk oc en fs la g st ln bf af _ _ (sf_CI_find hI).1 (sf_CI_find hI).2.1 (sf_CI_find hI).2.2) k_X2_59 ⟨sf_blind, va_recv hK hP (ci := 2) (q0 := 0) rfl rfl, sf_preU hP hK hD hN⟩ rfl hl.1 (Nat.le_of_ble_eq_true rfl) ⟨(Nat.le_of_ble_eq_true rfl), (Nat.le_of_ble_eq_true rfl)⟩ ⟨rfl, rfl⟩ ⟨Nat.zero_le _, Nat.zero_le _⟩ dX2_copy_8)) (fun r_8 h_8 => ?_)
    rcases h_8 with h_8 | h_8
    · obtain ⟨k_8, a_8, q1_8, q2_8, q3_8, q4_8, q5_8, q6_8⟩ := h_8
      subst q2_8
      subst q6_8
      obtain ⟨f1_8, f2_8, f3_8, f4_8, f5_8, f6_8, f7_8⟩ := sf_zr_some hI hR q1_8 q3_8 q5_8
      have hl : lv_has ls 5 [(3, .null), (0, .ref a0), (1, .int row), (2, .int (nI k_8))] := hl
      refine lv_astore (lv' := [(4, .ref a_8), (3, .null), (0, .ref a0), (1, .int row), (2, .int (nI k_8))]) hx hb dX2_copy_11 hl (by decide) rfl (fun ls hl => ?_)
      refine lv_aload_nN hx hb dX2_copy_13 rfl (lv_at hl 1 rfl) ?_
      refine lv_ifnullN (tgt := 22) hx hb dX2_copy_14 (by decide) ?_
      refine lv_iconst (v := -1) hx hb dX2_copy_22 (by decide) ?_
      exact W.iret (v := -1) hx hb hr (fun t ht hW => ⟨⟨_, (LP, gb, md, ct, tb, nm, tk, oc, en, fs, la, g, st, ln, bf, af), rfl, by rw [zs_cpy_1 f1_2]; exact ⟨rfl, cs, fr, hI, hR⟩, by rw [ht]; exact hP, hD⟩, hS.F ht⟩) hS.2.2 dX2_copy_23
    · obtain ⟨q1_8, q2_8⟩ := h_8
      subst q1_8
      have f1_8 := sf_zr_none hI hR q2_8
      refine lv_astoreN (lv' := [(4, .null), (3, .null), (0, .ref a0), (1, .int row), (2, .int src)]) hx hb dX2_copy_11 hl (by decide) rfl (fun ls hl => ?_)
      refine lv_aload_nN hx hb dX2_copy_13 rfl (lv_at hl 1 rfl) ?_
      refine lv_ifnullN (tgt := 22) hx hb dX2_copy_14 (by decide) ?_
      refine lv_iconst (v := -1) hx hb dX2_copy_22 (by decide) ?_
      exact W.iret (v := -1) hx hb hr (fun t ht hW => ⟨⟨_, (LP, gb, md, ct, tb, nm, tk, oc, en, fs, la, g, st, ln, bf, af), rfl, by rw [zs_cpy_1 f1_2]; exact ⟨rfl, cs, fr, hI, hR⟩, by rw [ht]; exact hP, hD⟩, hS.F ht⟩) hS.2.2 dX2_copy_23
set_option maxHeartbeats 4000000 in
set_option maxRecDepth 100000 in
/-- give(row) -/
theorem c_give (l : Launch) (dC : Nat → ClassId) (dI : Nat → Nat → Nat) (a0 a1 a2 a3 : Nat) (cB cT : ClassId) (LP : List Nat) (gb : Option Nat) (md ct : Nat) (tb : Nat → Option Nat) (nm tk : Nat → Nat) (oc en : Nat) (fs la : Option Nat) (g : Nat → Int32) (st ln : Nat → Nat) (bf af : Nat → Option Nat) (sz : Nat) (z : sf_Z) (cs fr : List Nat) (hI : sf_CI LP gb md ct tb nm tk oc en fs la g st ln bf af cs fr) (hR : sf_CR LP nm tk ln st g cs fr ct oc z) (row : Int32) : Met l yX2_give wsX2_give ({ frames := 2, cells := 0, slots := 0, locals := 60 } : Room) (sf_Pre (dC, dI) vwCl [(cB, .byte), (cT, .object "ByteShelf$Row")] [.ref a0, .int row] (sf_w a0 a1 a2 a3 cB cT LP gb md ct tb nm tk oc en fs la g st ln bf af) sz) (va_Qi (fun (r : Int32) (u : sf_Sx) => r = (zs_give z row).1 ∧ sf_OKu u (zs_give z row).2) (sf_E (dC, dI) vwCl (va_A (sf_w a0 a1 a2 a3 cB cT LP gb md ct tb nm tk oc en fs la g st ln bf af) sz) (fun (u : sf_Sx) => sf_w a0 a1 a2 a3 cB cT u.1 u.2.1 u.2.2.1 u.2.2.2.1 u.2.2.2.2.1 u.2.2.2.2.2.1 u.2.2.2.2.2.2.1 u.2.2.2.2.2.2.2.1 u.2.2.2.2.2.2.2.2.1 u.2.2.2.2.2.2.2.2.2.1 u.2.2.2.2.2.2.2.2.2.2.1 u.2.2.2.2.2.2.2.2.2.2.2.1 u.2.2.2.2.2.2.2.2.2.2.2.2.1 u.2.2.2.2.2.2.2.2.2.2.2.2.2.1 u.2.2.2.2.2.2.2.2.2.2.2.2.2.2.1 u.2.2.2.2.2.2.2.2.2.2.2.2.2.2.2)) (va_A (sf_w a0 a1 a2 a3 cB cT LP gb md ct tb nm tk oc en fs la g st ln bf af) sz)) 0 0 (va_A (sf_w a0 a1 a2 a3 cB cT LP gb md ct tb nm tk oc en fs la g st ln bf af) sz) := by
  refine Met.ofW (cc := cX2_give) (maxL := 3) (ret := (some .boolean)) (by decide) rfl ?_
  intro p e s m args below meth c s₁ B hml hv
  obtain ⟨rfl, hsz, hP, hK, hD0, hN⟩ := hv
  have hx := B.exec
  have hb := B.bytes
  have hr := B.returns
  have hts := atoms_spec (ws := wsX2_give) B.pre
  have hown : s.vm.findClass RX2 = some m.cls := findClass_of_methodNamed B.named
  have hlocks := B.notSynchronized
  subst hsz
  have hD := hD0.self (sz := s.heap.size)
  generalize hAe : va_A (sf_w a0 a1 a2 a3 cB cT LP gb md ct tb nm tk oc en fs la g st ln bf af) s.heap.size = A at hD ⊢
  have hA : ∀ q : Nat, s.heap.size ≤ q → A q := fun q h => by rw [← hAe]; exact Or.inr h
  have hS : va_S A s.heap s.heap [] := va_S.rf
  have hl := lv_entry ([.ref a0, .int row]) (n := 3) (Nat.le_of_ble_eq_true rfl)
  rw [lg_entry_eq]
  generalize (lg_sl ([.ref a0, .int row]) ++ List.replicate (3 - (lg_sl ([.ref a0, .int row])).length) Slot.unset).toArray = ls at hl ⊢
  have hl : lv_has ls 3 [(0, .ref a0), (1, .int row)] := hl
  refine lv_aload_n hx hb dX2_give_0 rfl (lv_at hl 0 rfl) ?_
  refine lv_iload_n hx hb dX2_give_1 rfl (lv_at hl 1 rfl) ?_
  refine va_csq (va_Run.run (sf_runV (b := a0) (As := [.int row]) (rest := []) ⟨hx, hb, hml, hown, hts⟩ sf_has (c_find l dC dI a0 a1 a2 a3 cB cT LP gb md ct tb nm tk oc en fs la g st ln bf af _ _ (sf_CI_find hI).1 (sf_CI_find hI).2.1 (sf_CI_find hI).2.2) k_X2_59 ⟨sf_blind, va_recv hK hP (ci := 2) (q0 := 0) rfl rfl, sf_preU hP hK hD hN⟩ rfl hl.1 (Nat.le_of_ble_eq_true rfl) ⟨(Nat.le_of_ble_eq_true rfl), (Nat.le_of_ble_eq_true rfl)⟩ ⟨rfl, rfl⟩ ⟨Nat.zero_le _, Nat.zero_le _⟩ dX2_give_2)) (fun r_2 h_2 => ?_)
  rcases h_2 with h_2 | h_2
  · obtain ⟨k_2, a_2, q1_2, q2_2, q3_2, q4_2, q5_2, q6_2⟩ := h_2
    subst q2_2
    subst q6_2
    obtain ⟨f1_2, f2_2, f3_2, f4_2, f5_2, f6_2, f7_2⟩ := sf_zr_some hI hR q1_2 q3_2 q5_2
    have hl : lv_has ls 3 [(0, .ref a0), (1, .int (nI k_2))] := hl
    refine lv_astore_n (lv' := [(2, .ref a_2), (0, .ref a0), (1, .int (nI k_2))]) hx hb dX2_give_5 rfl hl (by decide) rfl (fun ls hl => ?_)
    refine lv_aload_n hx hb dX2_give_6 rfl (lv_at hl 0 rfl) ?_
    refine lv_ifnonnull (tgt := 12) hx hb dX2_give_7 (by decide) ?_
    refine lv_aload_n hx hb dX2_give_12 rfl (lv_at hl 1 rfl) ?_
    refine va_get (D := (dC, dI)) (ci := 2) (v := .ref a1) (C := RX2) (T := TX2) (N := 5) hx hb hts sf_inX2 hown hK hP 0 rfl rfl 0 (by decide) (hts _ (sf_mem fl_X2_10 rfl)) (fun _ h9 => h9) rfl dX2_give_13 ?_
    refine lv_aload_n hx hb dX2_give_16 rfl (lv_at hl 0 rfl) ?_
    obtain ⟨l1, r1, rfl⟩ := List.append_of_mem f2_2
    have hct : 1 ≤ ct := by rw [hI.2.2.2.2.2.2.2.2.2.2]; simp; omega
    refine sf_cv (sf_runV (b := a1) (As := [.ref a_2]) (rest := []) ⟨hx, hb, hml, hown, hts⟩ sf_has (c_lift l dC dI a0 a1 a2 a3 cB cT LP gb md ct tb nm tk oc en fs la g st ln bf af _ l1 r1 a_2 hI.1) k_X2_63 ⟨sf_blind, va_recv hK hP (ci := 0) (q0 := 1) rfl rfl, sf_preU hP hK hD hN⟩ rfl hl.1 (Nat.le_of_ble_eq_true rfl) ⟨(Nat.le_of_ble_eq_true rfl), (Nat.le_of_ble_eq_true rfl)⟩ ⟨rfl, rfl⟩ ⟨Nat.zero_le _, Nat.zero_le _⟩ dX2_give_17) hD hS hA (fun u_17 H locs h_17 hP hD hS => ?_)
    have hP : va_P (dC, dI) vwCl (sf_w a0 a1 a2 a3 cB cT LP gb md ct tb nm tk (oc - sf_P (ln a_2)) en (sf_pk (bf a_2) (af a_2) fs) (sf_pk (af a_2) (bf a_2) la) g st ln (sf_unA bf (af a_2) (bf a_2)) (sf_unA af (bf a_2) (af a_2))) H := hP
    have hD : va_D A (sf_w a0 a1 a2 a3 cB cT LP gb md ct tb nm tk (oc - sf_P (ln a_2)) en (sf_pk (bf a_2) (af a_2) fs) (sf_pk (af a_2) (bf a_2) la) g st ln (sf_unA bf (af a_2) (bf a_2)) (sf_unA af (bf a_2) (af a_2))) := hD
    refine lv_aload_n hx hb dX2_give_20 rfl (lv_at hl 0 rfl) ?_
    refine lv_iconst (v := nI 0) hx hb dX2_give_21 (by decide) ?_
    refine sf_rput (D := (dC, dI)) (ci := 1) (v := .int (nI 0)) (ty := .boolean) (C := RX1) (T := TX1) (N := 6) hx hb hts sf_inX1 tyX1 tyX1_ok nmX1 hown hK hP hD hS q4_2 rfl rfl 1 (by decide) (hts _ (sf_mem fl_X2_52 rfl)) (fun _ h9 => h9) rfl (by decide +kernel) rfl rfl (Nat.le_of_ble_eq_true rfl) (sf_rw_tk 0) dX2_give_22 (fun H locs hP hD hS => ?_)
    have hP : va_P (dC, dI) vwCl (sf_w a0 a1 a2 a3 cB cT LP gb md ct tb nm (va_up tk a_2 0) (oc - sf_P (ln a_2)) en (sf_pk (bf a_2) (af a_2) fs) (sf_pk (af a_2) (bf a_2) la) g st ln (sf_unA bf (af a_2) (bf a_2)) (sf_unA af (bf a_2) (af a_2))) H := hP
    have hD : va_D A (sf_w a0 a1 a2 a3 cB cT LP gb md ct tb nm (va_up tk a_2 0) (oc - sf_P (ln a_2)) en (sf_pk (bf a_2) (af a_2) fs) (sf_pk (af a_2) (bf a_2) la) g st ln (sf_unA bf (af a_2) (bf a_2)) (sf_unA af (bf a_2) (af a_2))) := hD
    refine lv_aload_n hx hb dX2_give_25 rfl (lv_at hl 0 rfl) ?_
    refine lv_aload_n hx hb dX2_give_26 rfl (lv_at hl 1 rfl) ?_
    refine va_get (D := (dC, dI)) (ci := 2) (v := va_rf gb) (C := RX2) (T := TX2) (N := 5) hx hb hts sf_inX2 hown hK hP 0 rfl rfl 2 (by decide) (hts _ (sf_mem fl_X2_22 rfl)) (fun _ h9 => h9) rfl dX2_give_27 ?_
    refine sf_rput (D := (dC, dI)) (ci := 1) (v := va_rf gb) (ty := .object "ByteShelf$Row") (C := RX1) (T := TX1) (N := 6) hx hb hts sf_inX1 tyX1 tyX1_ok nmX1 hown hK hP hD hS q4_2 rfl rfl 5 (by decide) (hts _ (sf_mem fl_X2_67 rfl)) (fun _ h9 => h9) rfl (by decide +kernel) (sf_nq _) (sf_fq _) (Nat.le_of_ble_eq_true rfl) (sf_rw_af gb) dX2_give_30 (fun H locs hP hD hS => ?_)
    have hP : va_P (dC, dI) vwCl (sf_w a0 a1 a2 a3 cB cT LP gb md ct tb nm (va_up tk a_2 0) (oc - sf_P (ln a_2)) en (sf_pk (bf a_2) (af a_2) fs) (sf_pk (af a_2) (bf a_2) la) g st ln (sf_unA bf (af a_2) (bf a_2)) (va_up (sf_unA af (bf a_2) (af a_2)) a_2 gb)) H := hP
    have hD : va_D A (sf_w a0 a1 a2 a3 cB cT LP gb md ct tb nm (va_up tk a_2 0) (oc - sf_P (ln a_2)) en (sf_pk (bf a_2) (af a_2) fs) (sf_pk (af a_2) (bf a_2) la) g st ln (sf_unA bf (af a_2) (bf a_2)) (va_up (sf_unA af (bf a_2) (af a_2)) a_2 gb)) := hD
    refine lv_aload_n hx hb dX2_give_33 rfl (lv_at hl 1 rfl) ?_
    refine lv_aload_n hx hb dX2_give_34 rfl (lv_at hl 0 rfl) ?_
    refine va_put (D := (dC, dI)) (ci := 2) (v := .ref a_2) (ty := .object "ByteShelf$Row") (C := RX2) (T := TX2) (N := 5) hx hb hts sf_inX2 tyX2 tyX2_ok nmX2 hown hK hP hD hS 0 rfl rfl 2 (by decide) (hts _ (sf_mem fl_X2_22 rfl)) (fun _ h9 => h9) rfl (by decide +kernel) rfl rfl (Nat.le_of_ble_eq_true rfl) dX2_give_35 (fun H locs hP hD hS => ?_)
    have hP : va_P (dC, dI) vwCl (sf_w a0 a1 a2 a3 cB cT LP (some a_2) md ct tb nm (va_up tk a_2 0) (oc - sf_P (ln a_2)) en (sf_pk (bf a_2) (af a_2) fs) (sf_pk (af a_2) (bf a_2) la) g st ln (sf_unA bf (af a_2) (bf a_2)) (va_up (sf_unA af (bf a_2) (af a_2)) a_2 gb)) H := hP
    have hD : va_D A (sf_w a0 a1 a2 a3 cB cT LP (some a_2) md ct tb nm (va_up tk a_2 0) (oc - sf_P (ln a_2)) en (sf_pk (bf a_2) (af a_2) fs) (sf_pk (af a_2) (bf a_2) la) g st ln (sf_unA bf (af a_2) (bf a_2)) (va_up (sf_unA af (bf a_2) (af a_2)) a_2 gb)) := hD
    refine lv_aload_n hx hb dX2_give_38 rfl (lv_at hl 1 rfl) ?_
    refine lv_dup hx hb dX2_give_39 rfl ?_
    refine va_get (D := (dC, dI)) (ci := 2) (v := .int (nI ct)) (C := RX2) (T := TX2) (N := 5) hx hb hts sf_inX2 hown hK hP 0 rfl rfl 4 (by decide) (hts _ (sf_mem fl_X2_30 rfl)) (fun _ h9 => h9) rfl dX2_give_40 ?_
    refine lv_iconst (v := nI 1) hx hb dX2_give_43 (by decide) ?_
    refine sf_isub hx hb (by omega) dX2_give_44 ?_
    refine va_put (D := (dC, dI)) (ci := 2) (v := .int (nI (ct - 1))) (ty := .int) (C := RX2) (T := TX2) (N := 5) hx hb hts sf_inX2 tyX2 tyX2_ok nmX2 hown hK hP hD hS 0 rfl rfl 4 (by decide) (hts _ (sf_mem fl_X2_30 rfl)) (fun _ h9 => h9) rfl (by decide +kernel) rfl rfl (Nat.le_of_ble_eq_true rfl) dX2_give_45 (fun H locs hP hD hS => ?_)
    have hP : va_P (dC, dI) vwCl (sf_w a0 a1 a2 a3 cB cT LP (some a_2) md (ct - 1) tb nm (va_up tk a_2 0) (oc - sf_P (ln a_2)) en (sf_pk (bf a_2) (af a_2) fs) (sf_pk (af a_2) (bf a_2) la) g st ln (sf_unA bf (af a_2) (bf a_2)) (va_up (sf_unA af (bf a_2) (af a_2)) a_2 gb)) H := hP
    have hD : va_D A (sf_w a0 a1 a2 a3 cB cT LP (some a_2) md (ct - 1) tb nm (va_up tk a_2 0) (oc - sf_P (ln a_2)) en (sf_pk (bf a_2) (af a_2) fs) (sf_pk (af a_2) (bf a_2) la) g st ln (sf_unA bf (af a_2) (bf a_2)) (va_up (sf_unA af (bf a_2) (af a_2)) a_2 gb)) := hD
    refine lv_iconst (v := nI 1) hx hb dX2_give_48 (by decide) ?_
    exact W.zret (v := nI 1) hx hb hr (by decide) (fun t ht hW => ⟨⟨_, (LP, (some a_2), md, ct - 1, tb, nm, (va_up tk a_2 0), (oc - sf_P (ln a_2)), en, (sf_pk (bf a_2) (af a_2) fs), (sf_pk (af a_2) (bf a_2) la), g, st, ln, (sf_unA bf (af a_2) (bf a_2)), (va_up (sf_unA af (bf a_2) (af a_2)) a_2 gb)), rfl, by rw [zs_give_2 f1_2]; exact ⟨rfl, sf_OK_give hI hR f3_2⟩, by rw [ht]; exact hP, hD⟩, hS.F ht⟩) hS.2.2 dX2_give_49
  · obtain ⟨q1_2, q2_2⟩ := h_2
    subst q1_2
    have f1_2 := sf_zr_none hI hR q2_2
    refine lv_astore_nN (lv' := [(2, .null), (0, .ref a0), (1, .int row)]) hx hb dX2_give_5 rfl hl (by decide) rfl (fun ls hl => ?_)
    refine lv_aload_nN hx hb dX2_give_6 rfl (lv_at hl 0 rfl) ?_
    refine lv_ifnonnullN hx hb dX2_give_7 ?_
    refine lv_iconst (v := nI 0) hx hb dX2_give_10 (by decide) ?_
    exact W.zret (v := nI 0) hx hb hr (by decide) (fun t ht hW => ⟨⟨_, (LP, gb, md, ct, tb, nm, tk, oc, en, fs, la, g, st, ln, bf, af), rfl, by rw [zs_give_1 f1_2]; exact ⟨rfl, cs, fr, hI, hR⟩, by rw [ht]; exact hP, hD⟩, hS.F ht⟩) hS.2.2 dX2_give_11
end
section
/-! rows are made and taken: Row(), nextRow, take -/
theorem co_O_init : Cond.code objectInit ⟨#[0xb1]⟩ 1 none ∈ lw_tbl := sf_tb 15 rfl
theorem sf_rw_nm {nm tk st ln : Nat → Nat} {bf af : Nat → Option Nat} {a : Nat} (b : Nat) : va_up (sf_row nm tk st ln bf af) a (.inr (1, [.int (nI b), .int (nI (tk a)), .int (nI (st a)), .int (nI (ln a)), va_rf (bf a), va_rf (af a)])) = sf_row (va_up nm a b) tk st ln bf af := by
  funext x
  by_cases h : x = a <;> simp [va_up, sf_row, h]
theorem sf_rw_new {nm tk st ln : Nat → Nat} {bf af : Nat → Option Nat} {q : Nat} : va_up (sf_row nm tk st ln bf af) q (.inr (1, [.int 0, .int 0, .int 0, .int 0, .null, .null])) = sf_row (va_up nm q 0) (va_up tk q 0) (va_up st q 0) (va_up ln q 0) (va_up bf q none) (va_up af q none) := by
  funext x
  by_cases h : x = q
  · simp [va_up, sf_row, h, nI_0, va_rf]
  · simp [va_up, sf_row, h]
theorem sf_new {a0 a1 a2 a3 q : Nat} {cB cT : ClassId} {LP : List Nat} {gb : Option Nat} {md ct : Nat} {tb : Nat → Option Nat} {nm tk : Nat → Nat} {oc en : Nat} {fs la : Option Nat} {g : Nat → Int32} {st ln : Nat → Nat} {bf af : Nat → Option Nat} (hq : q ∉ LP) : sf_w a0 a1 a2 a3 cB cT LP gb md ct tb nm tk oc en fs la g st ln bf af ++ [(q, .inr (1, [.int 0, .int 0, .int 0, .int 0, .null, .null]))] = sf_w a0 a1 a2 a3 cB cT (LP ++ [q]) gb md ct tb (va_up nm q 0) (va_up tk q 0) oc en fs la g (va_up st q 0) (va_up ln q 0) (va_up bf q none) (va_up af q none) := by
  unfold sf_w
  rw [List.append_assoc, va_pl_push hq, sf_rw_new]
section SFF
variable {p : Program} {l : Launch} {e : Env} {R : Room} {s : State} {m : MethodId} {args : Array Value} {below : List Frame} {meth : Method} {c : Code} {H : Heap} {locs : List Loc} {cells slots : Nat} {Q : State → Prop}
variable {cc : ByteArray} {pc : Nat} {ls : Array Slot} {rest : List Value} {D : va_G} {cl : List vw_C} {A : Nat → Prop} {a : Nat} {tys : List (ClassId × FieldType)} {H0 : Heap} {X : va_W} {LP : List Nat} {f f' : Nat → va_E}
theorem sf_rputF (hexec : p.tables.exec = Jvm.exec) (hb : c.code = cc) {own ref C : String} {T : u_T} {N ci index : Nat} {Ts : List Cond} (hts : ∀ w ∈ Ts, w.before args s = true) (hin : ∀ w ∈ u_ws C T N, w ∈ Ts) (ty0 : Nat → FieldType) (hty : ∀ k, k < N → parseFieldDescriptor (T k).2.2.1 = some (ty0 k)) (hnm : ∀ a, a < N → ∀ b, b < N → a ≠ b → (T a).2.1 ≠ (T b).2.1) (hown : s.vm.findClass own = some m.cls) (hK : va_K D cl tys s) (hP : va_P D cl (X ++ va_pl LP f) H) (hD : va_D A (X ++ va_pl LP f)) (hS0 : va_S A H0 H locs) (ha : a ∈ LP) {fs : List Value} (hf : f a = .inr (ci, fs)) (hc : cl[ci]? = some (C, T, N)) (k : Nat) (hk : k < N) (hlink : (Cond.fieldLink own index ref (T k).2.1 (T k).2.2.1).before args s = true) (hsame : ∀ x, s.fieldFound? (T k).1 (T k).2.1 (T k).2.2.1 = some x → s.fieldFound? ref (T k).2.1 (T k).2.2.1 = some x) (hfin : (T k).2.2.2 = true) (hin2 : meth.name = "<init>") (hdecl : (T k).1 = own) {ty : FieldType} {v : Value} (hd : parseFieldDescriptor (T k).2.2.1 = some ty) (hn : narrow ty v = v) (hfit : fits ty v = true) (hl : k < fs.length) (hf' : va_up f a (.inr (ci, fs.set k v)) = f')
    (hdg : decode cc pc = .ok (.putfield index, 3)) (kk : ∀ (H1 : Heap) (locs1 : List Loc), va_P D cl (X ++ va_pl LP f') H1 → va_D A (X ++ va_pl LP f') → va_S A H0 H1 locs1 → W p l e R s m args below meth c H1 locs1 cells slots Q (F0 m (pc + 3) ls rest)) : W p l e R s m args below meth c H locs cells slots Q (F0 m pc ls (v :: .ref a :: rest)) := by
  obtain ⟨q0, hq⟩ := va_pl_get (X := X) (f := f) ha
  have hset := va_pl_set (e := .inr (ci, fs.set k v)) hD ha hq
  rw [hf'] at hset
  rw [hf] at hq
  refine va_putF hexec hb hts hin ty0 hty hnm hown hK hP hD hS0 q0 hq hc k hk hlink hsame hfin hin2 hdecl hd hn hfit hl hdg (fun H1 locs1 h1 h2 h3 => ?_)
  rw [hset] at h1 h2
  exact kk H1 locs1 h1 h2 h3
end SFF
theorem sf_MI_new {LP cs : List Nat} {oc en q : Nat} {fs la : Option Nat} {g : Nat → Int32} {st ln : Nat → Nat} {bf af : Nat → Option Nat} (h : sf_MI LP cs oc en fs la g st ln bf af) (hq : q ∉ LP) : sf_MI (LP ++ [q]) cs oc en fs la g (va_up st q 0) (va_up ln q 0) (va_up bf q none) (va_up af q none) := by
  obtain ⟨m1, m2, m3, m4, m5, m6, m7, m8, m9, m10⟩ := h
  have hne : ∀ x, x ∈ cs → x ≠ q := fun x hx e => hq (e ▸ m2 x hx)
  refine ⟨m1, fun x hx => List.mem_append_left _ (m2 x hx), m3, m4, sf_lnk_congr m5 (fun x hx => va_up_ne _ _ (hne x hx)) (fun x hx => va_up_ne _ _ (hne x hx)), sf_lay_congr m6 (fun x hx => ⟨va_up_ne _ _ (hne x hx), by rw [va_up_ne _ _ (hne x hx)]; exact Nat.le_refl _⟩), m7, ?_, fun x hx => by rw [va_up_ne _ _ (hne x hx)]; exact m9 x hx, m10⟩
  rw [m8]
  exact (sf_sum_congr (fun x hx => by rw [va_up_ne _ _ (hne x hx)])).symm
section SFT
variable {LP : List Nat} {gb : Option Nat} {md ct : Nat} {tb : Nat → Option Nat} {nm tk : Nat → Nat} {oc en : Nat} {fs la : Option Nat} {g : Nat → Int32} {st ln : Nat → Nat} {bf af : Nat → Option Nat} {cs fr : List Nat} {z : sf_Z}
/-- the row on top of those given back -/
theorem sf_top {a : Nat} (hI : sf_CI LP (some a) md ct tb nm tk oc en fs la g st ln bf af cs fr) : ∃ t, fr = a :: t ∧ sf_stk af (af a) t ∧ a ∈ LP ∧ a ∉ cs ∧ LP[nm a]? = some a := by
  have hcf := fun {x : Nat} (h1 : x ∈ cs) (h2 : x ∈ fr) => sf_cs_fr hI h1 h2
  obtain ⟨h1, h2, h3, h4, h5, h6, h7, h8, h9, h10, h11⟩ := hI
  cases fr with
  | nil => cases h10
  | cons b t =>
    obtain ⟨e, hs⟩ := h10
    cases e
    have haL := (h7 a List.mem_cons_self).2
    obtain ⟨k, hk⟩ := List.getElem?_of_mem haL
    exact ⟨t, rfl, hs, haL, fun q => hcf q List.mem_cons_self, by rw [h5 k a hk]; exact hk⟩
theorem sf_no_top (hI : sf_CI LP none md ct tb nm tk oc en fs la g st ln bf af cs fr) : fr = [] := by
  cases fr with
  | nil => rfl
  | cons b t => exact absurd hI.2.2.2.2.2.2.2.2.2.1.1 (by intro q; cases q)
theorem sf_OK_take_1 {a n en' : Nat} {t : List Nat} {g' : Nat → Int32} {st' : Nat → Nat} (hI : sf_CI LP (some a) md ct tb nm tk oc en fs la g st ln bf af cs (a :: t)) (hR : sf_CR LP nm tk ln st g cs (a :: t) ct oc z) (hs : sf_stk af (af a) t) (hac : a ∉ cs) (hk : LP[nm a]? = some a)
    (p1 : sf_MI LP (cs ++ [a]) (oc + sf_P n) en' (sf_pk la (some a) fs) (some a) g' st' (va_up ln a n) (va_up bf a la) (sf_apA af la a)) (p2 : ∀ x, x ∈ cs → ∀ i, i < ln x → g' (st' x + i) = g (st x + i)) (p3 : ∀ i, i < n → g' (st' a + i) = 0) :
    sf_OK LP (af a) md (ct + 1) tb nm (va_up tk a 1) (oc + sf_P n) en' (sf_pk la (some a) fs) (some a) g' st' (va_up ln a n) (va_up bf a la) (sf_apA af la a) (zMd z, t.map nm, va_up (zTk z) (nm a) 1, va_up (zLn z) (nm a) n, va_up (zBy z) (nm a) (fun _ => 0), zCt z + 1, zOc z + sf_P n) := by
  obtain ⟨h1, h2, h3, h4, h5, h6, h7, h8, h9, h10, h11⟩ := hI
  obtain ⟨z1, z2, z3, z4, z5, z6⟩ := hR
  rw [List.nodup_cons] at h9
  rw [z1]
  refine sf_OK_take h1 h2 h3 h4 h5 h6 (fun x hx => h7 x (List.mem_cons_of_mem _ hx)) (fun x hx => ?_) h9.2 hs h11 hk hac h9.1 (fun k2 a2 hk2 _ => z3 k2 a2 hk2) z4 z5 z6 p1 p2 p3
  rcases h8 x hx with q | q
  · exact Or.inl q
  · rcases List.mem_cons.mp q with q | q
    · exact Or.inr (Or.inr q)
    · exact Or.inr (Or.inl q)
theorem sf_OK_take_2 {q n en' : Nat} {g' : Nat → Int32} {st' : Nat → Nat} (hI : sf_CI LP none md ct tb nm tk oc en fs la g st ln bf af cs []) (hR : sf_CR LP nm tk ln st g cs [] ct oc z) (hq : q ∉ LP) (hmd : md < 20000)
    (p1 : sf_MI (LP ++ [q]) (cs ++ [q]) (oc + sf_P n) en' (sf_pk la (some q) fs) (some q) g' st' (va_up (va_up ln q 0) q n) (va_up (va_up bf q none) q la) (sf_apA (va_up af q none) la q)) (p2 : ∀ x, x ∈ cs → ∀ i, i < va_up ln q 0 x → g' (st' x + i) = g (va_up st q 0 x + i)) (p3 : ∀ i, i < n → g' (st' q + i) = 0) :
    sf_OK (LP ++ [q]) none (md + 1) (ct + 1) (va_up tb md (some q)) (va_up nm q md) (va_up (va_up tk q 0) q 1) (oc + sf_P n) en' (sf_pk la (some q) fs) (some q) g' st' (va_up (va_up ln q 0) q n) (va_up (va_up bf q none) q la) (sf_apA (va_up af q none) la q) (zMd z + 1, [], va_up (zTk z) (zMd z) 1, va_up (zLn z) (zMd z) n, va_up (zBy z) (zMd z) (fun _ => 0), zCt z + 1, zOc z + sf_P n) := by
  obtain ⟨h1, h2, h3, h4, h5, h6, h7, h8, h9, h10, h11⟩ := hI
  obtain ⟨z1, z2, z3, z4, z5, z6⟩ := hR
  have hM := sf_MI_new h1 hq
  have hqc : q ∉ cs := fun e => hq (h1.2.1 q e)
  have hne : ∀ x, x ∈ cs → x ≠ q := fun x hx e => hqc (e ▸ hx)
  have hl : (LP ++ [q]).length = md + 1 := by rw [h2]; simp
  have hkq : (LP ++ [q])[md]? = some q := by rw [h2, List.getElem?_append_right (Nat.le_refl _), Nat.sub_self]; rfl
  have hold : ∀ k a : Nat, (LP ++ [q])[k]? = some a → a ≠ q → LP[k]? = some a := by
    intro k a hk ha
    by_cases e : k < LP.length
    · rw [List.getElem?_append_left e] at hk; exact hk
    · rw [List.getElem?_append_right (by omega)] at hk
      cases e2 : k - LP.length with
      | zero => rw [e2] at hk; exact absurd (Option.some.inj hk).symm ha
      | succ j => rw [e2] at hk; simp at hk
  rw [show zMd z + 1 = (LP ++ [q]).length by rw [z1]; simp, z1, ← h2]
  refine sf_OK_take (fr' := []) hM hl.symm (by omega) (fun k => ?_) (fun k a hk => ?_) (fun a ha => by rw [va_up_ne _ _ (hne a ha)]; exact h6 a ha) (fun a ha => absurd ha List.not_mem_nil) (fun x hx => ?_) List.nodup_nil rfl h11 hkq hqc List.not_mem_nil (fun k2 a2 hk2 ha2 => ?_) (fun k2 a2 hk2 ha2 => ?_) z5 z6 p1 p2 p3
  · by_cases e : k = md
    · rw [e, va_up_self, hkq]
    · rw [va_up_ne _ _ e, h4]
      by_cases e2 : k < LP.length
      · rw [List.getElem?_append_left e2]
      · rw [List.getElem?_eq_none (by omega), List.getElem?_eq_none (by rw [hl]; omega)]
  · by_cases e : a = q
    · subst e
      rw [va_up_self]
      by_cases e2 : k < LP.length
      · rw [List.getElem?_append_left e2] at hk
        exact absurd (List.mem_of_getElem? hk) hq
      · have e3 := (List.getElem?_eq_some_iff.mp hk).1
        rw [hl] at e3
        omega
    · rw [va_up_ne _ _ e]
      exact h5 k a (hold k a hk e)
  · rcases List.mem_append.mp hx with e | e
    · rcases h8 x e with e | e
      · exact Or.inl e
      · exact absurd e List.not_mem_nil
    · exact Or.inr (Or.inr (List.mem_singleton.mp e))
  · rw [va_up_ne _ _ ha2]
    exact z3 k2 a2 (hold k2 a2 hk2 ha2)
  · have := z4 k2 a2 (hold k2 a2 hk2 (hne a2 ha2)) ha2
    rw [va_up_ne _ _ (hne a2 ha2), va_up_ne _ _ (hne a2 ha2)]
    exact this
end SFT
theorem zs_take_1 {z : sf_Z} {n : Int32} (h : zi n 16385 = none) : zs_take z n = (-1, z) := by unfold zs_take; rw [h]
theorem zs_take_2 {z : sf_Z} {k : Nat} (hk : k ≤ 16384) (h : 400000 < zOc z + sf_P k) : zs_take z (nI k) = (-2, z) := by unfold zs_take; rw [zi_some (by omega) (by omega)]; dsimp only; rw [if_pos h]
theorem zs_take_3 {z : sf_Z} {k a : Nat} {t : List Nat} (hk : k ≤ 16384) (h : zOc z + sf_P k ≤ 400000) (hf : zFr z = a :: t) : zs_take z (nI k) = (nI a, zMd z, t, va_up (zTk z) a 1, va_up (zLn z) a k, va_up (zBy z) a (fun _ => 0), zCt z + 1, zOc z + sf_P k) := by unfold zs_take; rw [zi_some (by omega) (by omega)]; dsimp only; rw [if_neg (by omega), hf]
theorem zs_take_4 {z : sf_Z} {k : Nat} (hk : k ≤ 16384) (h : zOc z + sf_P k ≤ 400000) (hf : zFr z = []) (hm : zMd z = 20000) : zs_take z (nI k) = (-2, z) := by unfold zs_take; rw [zi_some (by omega) (by omega)]; dsimp only; rw [if_neg (by omega), hf]; dsimp only; rw [if_pos hm]
theorem zs_take_5 {z : sf_Z} {k : Nat} (hk : k ≤ 16384) (h : zOc z + sf_P k ≤ 400000) (hf : zFr z = []) (hm : zMd z ≠ 20000) : zs_take z (nI k) = (nI (zMd z), zMd z + 1, [], va_up (zTk z) (zMd z) 1, va_up (zLn z) (zMd z) k, va_up (zBy z) (zMd z) (fun _ => 0), zCt z + 1, zOc z + sf_P k) := by unfold zs_take; rw [zi_some (by omega) (by omega)]; dsimp only; rw [if_neg (by omega), hf]; dsimp only; rw [if_neg hm]
set_option maxHeartbeats 4000000 in
set_option maxRecDepth 100000 in
/-- Row(n) -/
theorem c_Row_init (l : Launch) (dC : Nat → ClassId) (dI : Nat → Nat → Nat) (a0 a1 a2 a3 : Nat) (cB cT : ClassId) (LP : List Nat) (gb : Option Nat) (md ct : Nat) (tb : Nat → Option Nat) (nm tk : Nat → Nat) (oc en : Nat) (fs la : Option Nat) (g : Nat → Int32) (st ln : Nat → Nat) (bf af : Nat → Option Nat) (sz : Nat) (a : Nat) (ha : a ∈ LP) (n : Nat) : Met l yX1_init wsX1_init ({ frames := 1, cells := 0, slots := 0, locals := 30 } : Room) (sf_Pre (dC, dI) vwCl [(cB, .byte), (cT, .object "ByteShelf$Row")] [.ref a, .int (nI n)] (sf_w a0 a1 a2 a3 cB cT LP gb md ct tb nm tk oc en fs la g st ln bf af) sz) (va_Qv (fun _ => True) (sf_E (dC, dI) vwCl (va_A (sf_w a0 a1 a2 a3 cB cT LP gb md ct tb nm tk oc en fs la g st ln bf af) sz) (fun (u : Unit) => sf_w a0 a1 a2 a3 cB cT LP gb md ct tb (va_up nm a n) tk oc en fs la g st ln bf af)) (va_A (sf_w a0 a1 a2 a3 cB cT LP gb md ct tb nm tk oc en fs la g st ln bf af) sz)) 0 0 (va_A (sf_w a0 a1 a2 a3 cB cT LP gb md ct tb nm tk oc en fs la g st ln bf af) sz) := by
  refine Met.ofW (cc := cX1_init) (maxL := 2) (ret := none) (by decide) rfl ?_
  intro p e s m args below meth c s₁ B hml hv
  obtain ⟨rfl, hsz, hP, hK, hD0, hN⟩ := hv
  have hx := B.exec
  have hb := B.bytes
  have hr := B.returns
  have hts := atoms_spec (ws := wsX1_init) B.pre
  have hown : s.vm.findClass RX1 = some m.cls := findClass_of_methodNamed B.named
  have hlocks := B.notSynchronized
  subst hsz
  have hD := hD0.self (sz := s.heap.size)
  generalize hAe : va_A (sf_w a0 a1 a2 a3 cB cT LP gb md ct tb nm tk oc en fs la g st ln bf af) s.heap.size = A at hD ⊢
  have hA : ∀ q : Nat, s.heap.size ≤ q → A q := fun q h => by rw [← hAe]; exact Or.inr h
  have hS : va_S A s.heap s.heap [] := va_S.rf
  have hl := lv_entry ([.ref a, .int (nI n)]) (n := 2) (Nat.le_of_ble_eq_true rfl)
  rw [lg_entry_eq]
  generalize (lg_sl ([.ref a, .int (nI n)]) ++ List.replicate (2 - (lg_sl ([.ref a, .int (nI n)])).length) Slot.unset).toArray = ls at hl ⊢
  have hl : lv_has ls 2 [(0, .ref a), (1, .int (nI n))] := hl
  have hin : meth.name = "<init>" := (name_of_methodNamed B.named B.method).1
  refine lv_aload_n hx hb dX1_init_0 rfl (lv_at hl 0 rfl) ?_
  refine W.objInit hx hb hown (hts _ (sf_mem ml_X1_1 rfl)) (hts _ (sf_mem im_O_init rfl)) (hts _ (sf_mem co_O_init rfl)) rfl (by rw [hml]; exact hl.1) rfl dX1_init_1 (Nat.le_of_ble_eq_true rfl) (Nat.le_of_ble_eq_true rfl) ?_
  refine W.eq (g2 := F0 m 4 ls []) rfl ?_
  refine lv_aload_n hx hb dX1_init_4 rfl (lv_at hl 0 rfl) ?_
  refine lv_iload_n hx hb dX1_init_5 rfl (lv_at hl 1 rfl) ?_
  refine sf_rputF (D := (dC, dI)) (ci := 1) (v := .int (nI n)) (ty := .int) (C := RX1) (T := TX1) (N := 6) hx hb hts sf_inX1 tyX1 tyX1_ok nmX1 hown hK hP hD hS ha rfl rfl 0 (by decide) (hts _ (sf_mem fl_X1_7 rfl)) (fun _ h9 => h9) rfl hin rfl (by decide +kernel) rfl rfl (Nat.le_of_ble_eq_true rfl) (sf_rw_nm n) dX1_init_6 (fun H locs hP hD hS => ?_)
  have hP : va_P (dC, dI) vwCl (sf_w a0 a1 a2 a3 cB cT LP gb md ct tb (va_up nm a n) tk oc en fs la g st ln bf af) H := hP
  have hD : va_D A (sf_w a0 a1 a2 a3 cB cT LP gb md ct tb (va_up nm a n) tk oc en fs la g st ln bf af) := hD
  exact W.vret hx hb hr (fun t ht hW => ⟨⟨(), rfl, trivial, by rw [ht]; exact hP, hD⟩, hS.F ht⟩) hS.2.2 dX1_init_9
set_option maxHeartbeats 4000000 in
set_option maxRecDepth 100000 in
/-- nextRow() -/
theorem c_nextRow (l : Launch) (dC : Nat → ClassId) (dI : Nat → Nat → Nat) (a0 a1 a2 a3 : Nat) (cB cT : ClassId) (LP : List Nat) (gb : Option Nat) (md ct : Nat) (tb : Nat → Option Nat) (nm tk : Nat → Nat) (oc en : Nat) (fs la : Option Nat) (g : Nat → Int32) (st ln : Nat → Nat) (bf af : Nat → Option Nat) (sz : Nat) (hgb : ∀ z, gb = some z → z ∈ LP) (hmd : md ≤ 20000) : Met l yX2_nextRow wsX2_nextRow ({ frames := 2, cells := 1, slots := 6, locals := 60 } : Room) (sf_Pre (dC, dI) vwCl [(cB, .byte), (cT, .object "ByteShelf$Row")] [.ref a0] (sf_w a0 a1 a2 a3 cB cT LP gb md ct tb nm tk oc en fs la g st ln bf af) sz) (va_Qq (fun (r : Option Nat) (u : sf_Sx) => (∃ a, gb = some a ∧ r = some a ∧ u = (LP, af a, md, ct, tb, nm, tk, oc, en, fs, la, g, st, ln, bf, af)) ∨ (gb = none ∧ md = 20000 ∧ r = none ∧ u = (LP, gb, md, ct, tb, nm, tk, oc, en, fs, la, g, st, ln, bf, af)) ∨ (gb = none ∧ md < 20000 ∧ ∃ q, q ∉ LP ∧ r = some q ∧ u = ((LP ++ [q]), gb, (md + 1), ct, (va_up tb md (some q)), (va_up nm q md), (va_up tk q 0), oc, en, fs, la, g, (va_up st q 0), (va_up ln q 0), (va_up bf q none), (va_up af q none)))) (sf_E (dC, dI) vwCl (va_A (sf_w a0 a1 a2 a3 cB cT LP gb md ct tb nm tk oc en fs la g st ln bf af) sz) (fun (u : sf_Sx) => sf_w a0 a1 a2 a3 cB cT u.1 u.2.1 u.2.2.1 u.2.2.2.1 u.2.2.2.2.1 u.2.2.2.2.2.1 u.2.2.2.2.2.2.1 u.2.2.2.2.2.2.2.1 u.2.2.2.2.2.2.2.2.1 u.2.2.2.2.2.2.2.2.2.1 u.2.2.2.2.2.2.2.2.2.2.1 u.2.2.2.2.2.2.2.2.2.2.2.1 u.2.2.2.2.2.2.2.2.2.2.2.2.1 u.2.2.2.2.2.2.2.2.2.2.2.2.2.1 u.2.2.2.2.2.2.2.2.2.2.2.2.2.2.1 u.2.2.2.2.2.2.2.2.2.2.2.2.2.2.2)) (va_A (sf_w a0 a1 a2 a3 cB cT LP gb md ct tb nm tk oc en fs la g st ln bf af) sz)) 1 6 (va_A (sf_w a0 a1 a2 a3 cB cT LP gb md ct tb nm tk oc en fs la g st ln bf af) sz) := by
  refine Met.ofW (cc := cX2_nextRow) (maxL := 2) (ret := (some (.object "ByteShelf$Row"))) (by decide) rfl ?_
  intro p e s m args below meth c s₁ B hml hv
  obtain ⟨rfl, hsz, hP, hK, hD0, hN⟩ := hv
  have hx := B.exec
  have hb := B.bytes
  have hr := B.returns
  have hts := atoms_spec (ws := wsX2_nextRow) B.pre
  have hown : s.vm.findClass RX2 = some m.cls := findClass_of_methodNamed B.named
  have hlocks := B.notSynchronized
  subst hsz
  have hD := hD0.self (sz := s.heap.size)
  generalize hAe : va_A (sf_w a0 a1 a2 a3 cB cT LP gb md ct tb nm tk oc en fs la g st ln bf af) s.heap.size = A at hD ⊢
  have hA : ∀ q : Nat, s.heap.size ≤ q → A q := fun q h => by rw [← hAe]; exact Or.inr h
  have hS : va_S A s.heap s.heap [] := va_S.rf
  have hl := lv_entry ([.ref a0]) (n := 2) (Nat.le_of_ble_eq_true rfl)
  rw [lg_entry_eq]
  generalize (lg_sl ([.ref a0]) ++ List.replicate (2 - (lg_sl ([.ref a0])).length) Slot.unset).toArray = ls at hl ⊢
  have hl : lv_has ls 2 [(0, .ref a0)] := hl
  refine lv_aload_n hx hb dX2_nextRow_0 rfl (lv_at hl 0 rfl) ?_
  refine va_get (D := (dC, dI)) (ci := 2) (v := va_rf gb) (C := RX2) (T := TX2) (N := 5) hx hb hts sf_inX2 hown hK hP 0 rfl rfl 2 (by decide) (hts _ (sf_mem fl_X2_22 rfl)) (fun _ h9 => h9) rfl dX2_nextRow_1 ?_
  refine sf_ifnull (tgt := 22) hx hb dX2_nextRow_4 (by decide) (fun e_4 => ?_) (fun z_4 e_4 => ?_)
  · subst e_4
    have hl : lv_has ls 2 [(0, .ref a0)] := hl
    refine lv_aload_n hx hb dX2_nextRow_22 rfl (lv_at hl 0 rfl) ?_
    refine va_get (D := (dC, dI)) (ci := 2) (v := .int (nI md)) (C := RX2) (T := TX2) (N := 5) hx hb hts sf_inX2 hown hK hP 0 rfl rfl 3 (by decide) (hts _ (sf_mem fl_X2_26 rfl)) (fun _ h9 => h9) rfl dX2_nextRow_23 ?_
    refine lv_sipush (v := nI 20000) hx hb dX2_nextRow_26 (by decide) ?_
    refine sf_icmp_lt (tgt := 34) hx hb (by omega) (by omega) dX2_nextRow_29 (by decide) (fun c_29 => ?_) (fun c_29 => ?_)
    · refine va_new (ci := 1) (fs := [.int 0, .int 0, .int 0, .int 0, .null, .null]) (C := RX1) (T := TX1) (N := 6) hx hb hts sf_inX1 tyX1 tyX1_ok hown (hts _ (sf_mem cl_X2_16 rfl)) (hts _ (sf_mem it_X1 rfl)) (hts _ (sf_mem in_X1 rfl)) hK hP hD hS hA rfl (fun j hj => by rcases (show j = 0 ∨ j = 1 ∨ j = 2 ∨ j = 3 ∨ j = 4 ∨ j = 5 by omega) with rfl | rfl | rfl | rfl | rfl | rfl <;> rfl) (Nat.le_of_ble_eq_true rfl) (Nat.le_of_ble_eq_true rfl) dX2_nextRow_34 (fun q H hP hD hS => ?_)
      have hq : q ∉ LP := va_pl_fresh2 hD
      rw [sf_new hq] at hP hD
      have hqL : q ∈ LP ++ [q] := by simp
      have hP : va_P (dC, dI) vwCl (sf_w a0 a1 a2 a3 cB cT (LP ++ [q]) none md ct tb (va_up nm q 0) (va_up tk q 0) oc en fs la g (va_up st q 0) (va_up ln q 0) (va_up bf q none) (va_up af q none)) H := hP
      have hD : va_D A (sf_w a0 a1 a2 a3 cB cT (LP ++ [q]) none md ct tb (va_up nm q 0) (va_up tk q 0) oc en fs la g (va_up st q 0) (va_up ln q 0) (va_up bf q none) (va_up af q none)) := hD
      refine W.widen (k := 1) (n := 6) (Nat.le_of_ble_eq_true rfl) (Nat.le_of_ble_eq_true rfl) ?_
      refine lv_dup hx hb dX2_nextRow_37 rfl ?_
      refine lv_aload_n hx hb dX2_nextRow_38 rfl (lv_at hl 0 rfl) ?_
      refine va_get (D := (dC, dI)) (ci := 2) (v := .int (nI md)) (C := RX2) (T := TX2) (N := 5) hx hb hts sf_inX2 hown hK hP 0 rfl rfl 3 (by decide) (hts _ (sf_mem fl_X2_26 rfl)) (fun _ h9 => h9) rfl dX2_nextRow_39 ?_
      refine sf_cv (sf_runI (b := q) (As := [.int (nI md)]) (rest := [.ref q]) ⟨hx, hb, hml, hown, hts⟩ sf_has (c_Row_init l dC dI a0 a1 a2 a3 cB cT (LP ++ [q]) none md ct tb (va_up nm q 0) (va_up tk q 0) oc en fs la g (va_up st q 0) (va_up ln q 0) (va_up bf q none) (va_up af q none) _ q hqL md) k_X2_109 ⟨sf_blind, sf_preU hP hK hD hN⟩ rfl hl.1 (Nat.le_of_ble_eq_true rfl) ⟨(Nat.le_of_ble_eq_true rfl), (Nat.le_of_ble_eq_true rfl)⟩ ⟨rfl, rfl⟩ ⟨(Nat.le_of_ble_eq_true rfl), (Nat.le_of_ble_eq_true rfl)⟩ dX2_nextRow_42) hD hS hA (fun u_42 H locs h_42 hP hD hS => ?_)
      rw [bx_uu] at hP hD
      have hP : va_P (dC, dI) vwCl (sf_w a0 a1 a2 a3 cB cT (LP ++ [q]) none md ct tb (va_up nm q md) (va_up tk q 0) oc en fs la g (va_up st q 0) (va_up ln q 0) (va_up bf q none) (va_up af q none)) H := hP
      have hD : va_D A (sf_w a0 a1 a2 a3 cB cT (LP ++ [q]) none md ct tb (va_up nm q md) (va_up tk q 0) oc en fs la g (va_up st q 0) (va_up ln q 0) (va_up bf q none) (va_up af q none)) := hD
      refine lv_astore_n (lv' := [(1, .ref q), (0, .ref a0)]) hx hb dX2_nextRow_45 rfl hl (by decide) rfl (fun ls hl => ?_)
      refine lv_aload_n hx hb dX2_nextRow_46 rfl (lv_at hl 1 rfl) ?_
      refine va_get (D := (dC, dI)) (ci := 2) (v := .ref a3) (C := RX2) (T := TX2) (N := 5) hx hb hts sf_inX2 hown hK hP 0 rfl rfl 1 (by decide) (hts _ (sf_mem fl_X2_18 rfl)) (fun _ h9 => h9) rfl dX2_nextRow_47 ?_
      refine lv_aload_n hx hb dX2_nextRow_50 rfl (lv_at hl 1 rfl) ?_
      refine va_get (D := (dC, dI)) (ci := 2) (v := .int (nI md)) (C := RX2) (T := TX2) (N := 5) hx hb hts sf_inX2 hown hK hP 0 rfl rfl 3 (by decide) (hts _ (sf_mem fl_X2_26 rfl)) (fun _ h9 => h9) rfl dX2_nextRow_51 ?_
      refine lv_aload_n hx hb dX2_nextRow_54 rfl (lv_at hl 0 rfl) ?_
      obtain ⟨kq, hkq⟩ := va_pl_get (X := [(a0, .inr (2, [.ref a1, .ref a3, va_rf none, .int (nI md), .int (nI ct)])), (a1, .inr (0, [.ref a2, .int (nI oc), .int (nI en), va_rf fs, va_rf la])), (a2, .inl (cB, 400000, .inl g)), (a3, .inl (cT, 20000, .inr (.inr (.inr (.inr tb)))))]) (f := sf_row (va_up nm q md) (va_up tk q 0) (va_up st q 0) (va_up ln q 0) (va_up bf q none) (va_up af q none)) hqL
      refine va_astq (r := (RX1, TX1, 6)) hx hb hK hP hD hS 3 1 kq 1 rfl rfl hkq rfl (vp_in_nI (by omega) (by omega)) dX2_nextRow_55 (fun H locs hP hD hS => ?_)
      rw [nI_clamp (by omega)] at hP hD
      have hP : va_P (dC, dI) vwCl (sf_w a0 a1 a2 a3 cB cT (LP ++ [q]) none md ct (va_up tb md (some q)) (va_up nm q md) (va_up tk q 0) oc en fs la g (va_up st q 0) (va_up ln q 0) (va_up bf q none) (va_up af q none)) H := hP
      have hD : va_D A (sf_w a0 a1 a2 a3 cB cT (LP ++ [q]) none md ct (va_up tb md (some q)) (va_up nm q md) (va_up tk q 0) oc en fs la g (va_up st q 0) (va_up ln q 0) (va_up bf q none) (va_up af q none)) := hD
      refine lv_aload_n hx hb dX2_nextRow_56 rfl (lv_at hl 1 rfl) ?_
      refine lv_dup hx hb dX2_nextRow_57 rfl ?_
      refine va_get (D := (dC, dI)) (ci := 2) (v := .int (nI md)) (C := RX2) (T := TX2) (N := 5) hx hb hts sf_inX2 hown hK hP 0 rfl rfl 3 (by decide) (hts _ (sf_mem fl_X2_26 rfl)) (fun _ h9 => h9) rfl dX2_nextRow_58 ?_
      refine lv_iconst (v := nI 1) hx hb dX2_nextRow_61 (by decide) ?_
      refine sf_iadd hx hb dX2_nextRow_62 ?_
      refine va_put (D := (dC, dI)) (ci := 2) (v := .int (nI (md + 1))) (ty := .int) (C := RX2) (T := TX2) (N := 5) hx hb hts sf_inX2 tyX2 tyX2_ok nmX2 hown hK hP hD hS 0 rfl rfl 3 (by decide) (hts _ (sf_mem fl_X2_26 rfl)) (fun _ h9 => h9) rfl (by decide +kernel) rfl rfl (Nat.le_of_ble_eq_true rfl) dX2_nextRow_63 (fun H locs hP hD hS => ?_)
      have hP : va_P (dC, dI) vwCl (sf_w a0 a1 a2 a3 cB cT (LP ++ [q]) none (md + 1) ct (va_up tb md (some q)) (va_up nm q md) (va_up tk q 0) oc en fs la g (va_up st q 0) (va_up ln q 0) (va_up bf q none) (va_up af q none)) H := hP
      have hD : va_D A (sf_w a0 a1 a2 a3 cB cT (LP ++ [q]) none (md + 1) ct (va_up tb md (some q)) (va_up nm q md) (va_up tk q 0) oc en fs la g (va_up st q 0) (va_up ln q 0) (va_up bf q none) (va_up af q none)) := hD
      refine lv_aload_n hx hb dX2_nextRow_66 rfl (lv_at hl 0 rfl) ?_
      exact W.aret (v := va_rf (some q)) hx hb hr (Or.inl ⟨_, rfl⟩) (va_rf_or _) (fun t ht hW => ⟨⟨_, ((LP ++ [q]), none, md + 1, ct, (va_up tb md (some q)), (va_up nm q md), (va_up tk q 0), oc, en, fs, la, g, (va_up st q 0), (va_up ln q 0), (va_up bf q none), (va_up af q none)), rfl, Or.inr (Or.inr ⟨rfl, by omega, q, hq, rfl, rfl⟩), by rw [ht]; exact hP, hD⟩, hS.F ht⟩) hS.2.2 dX2_nextRow_67
    · refine lv_null hx hb dX2_nextRow_32 ?_
      refine W.widen (k := 1) (n := 6) (Nat.zero_le _) (Nat.zero_le _) ?_
      exact W.aret (v := va_rf none) hx hb hr (Or.inl ⟨_, rfl⟩) (va_rf_or _) (fun t ht hW => ⟨⟨_, (LP, none, md, ct, tb, nm, tk, oc, en, fs, la, g, st, ln, bf, af), rfl, Or.inr (Or.inl ⟨rfl, by omega, rfl, rfl⟩), by rw [ht]; exact hP, hD⟩, hS.F ht⟩) hS.2.2 dX2_nextRow_33
  · subst e_4
    have hl : lv_has ls 2 [(0, .ref a0)] := hl
    refine lv_aload_n hx hb dX2_nextRow_7 rfl (lv_at hl 0 rfl) ?_
    refine va_get (D := (dC, dI)) (ci := 2) (v := .ref z_4) (C := RX2) (T := TX2) (N := 5) hx hb hts sf_inX2 hown hK hP 0 rfl rfl 2 (by decide) (hts _ (sf_mem fl_X2_22 rfl)) (fun _ h9 => h9) rfl dX2_nextRow_8 ?_
    refine lv_astore_n (lv' := [(1, .ref z_4), (0, .ref a0)]) hx hb dX2_nextRow_11 rfl hl (by decide) rfl (fun ls hl => ?_)
    refine lv_aload_n hx hb dX2_nextRow_12 rfl (lv_at hl 1 rfl) ?_
    refine lv_aload_n hx hb dX2_nextRow_13 rfl (lv_at hl 0 rfl) ?_
    refine sf_rget (D := (dC, dI)) (ci := 1) (v := va_rf (af z_4)) (C := RX1) (T := TX1) (N := 6) hx hb hts sf_inX1 hown hK hP (hgb _ rfl) rfl rfl 5 (by decide) (hts _ (sf_mem fl_X2_67 rfl)) (fun _ h9 => h9) rfl dX2_nextRow_14 ?_
    refine va_put (D := (dC, dI)) (ci := 2) (v := va_rf (af z_4)) (ty := .object "ByteShelf$Row") (C := RX2) (T := TX2) (N := 5) hx hb hts sf_inX2 tyX2 tyX2_ok nmX2 hown hK hP hD hS 0 rfl rfl 2 (by decide) (hts _ (sf_mem fl_X2_22 rfl)) (fun _ h9 => h9) rfl (by decide +kernel) (sf_nq _) (sf_fq _) (Nat.le_of_ble_eq_true rfl) dX2_nextRow_17 (fun H locs hP hD hS => ?_)
    have hP : va_P (dC, dI) vwCl (sf_w a0 a1 a2 a3 cB cT LP (af z_4) md ct tb nm tk oc en fs la g st ln bf af) H := hP
    have hD : va_D A (sf_w a0 a1 a2 a3 cB cT LP (af z_4) md ct tb nm tk oc en fs la g st ln bf af) := hD
    refine lv_aload_n hx hb dX2_nextRow_20 rfl (lv_at hl 0 rfl) ?_
    refine W.widen (k := 1) (n := 6) (Nat.zero_le _) (Nat.zero_le _) ?_
    exact W.aret (v := va_rf (some z_4)) hx hb hr (Or.inl ⟨_, rfl⟩) (va_rf_or _) (fun t ht hW => ⟨⟨_, (LP, af z_4, md, ct, tb, nm, tk, oc, en, fs, la, g, st, ln, bf, af), rfl, Or.inl ⟨z_4, rfl, rfl, rfl⟩, by rw [ht]; exact hP, hD⟩, hS.F ht⟩) hS.2.2 dX2_nextRow_21
theorem sf_gb {LP : List Nat} {gb : Option Nat} {md ct : Nat} {tb : Nat → Option Nat} {nm tk : Nat → Nat} {oc en : Nat} {fs la : Option Nat} {g : Nat → Int32} {st ln : Nat → Nat} {bf af : Nat → Option Nat} {cs fr : List Nat} (hI : sf_CI LP gb md ct tb nm tk oc en fs la g st ln bf af cs fr) : ∀ z, gb = some z → z ∈ LP := by
  intro z hz
  subst hz
  obtain ⟨t, -, -, h, -⟩ := sf_top hI
  exact h
set_option maxHeartbeats 4000000 in
set_option maxRecDepth 100000 in
/-- take(n) -/
theorem c_take (l : Launch) (dC : Nat → ClassId) (dI : Nat → Nat → Nat) (a0 a1 a2 a3 : Nat) (cB cT : ClassId) (LP : List Nat) (gb : Option Nat) (md ct : Nat) (tb : Nat → Option Nat) (nm tk : Nat → Nat) (oc en : Nat) (fs la : Option Nat) (g : Nat → Int32) (st ln : Nat → Nat) (bf af : Nat → Option Nat) (sz : Nat) (z : sf_Z) (cs fr : List Nat) (hI : sf_CI LP gb md ct tb nm tk oc en fs la g st ln bf af cs fr) (hR : sf_CR LP nm tk ln st g cs fr ct oc z) (n : Int32) : Met l yX2_take wsX2_take ({ frames := 4, cells := 1, slots := 6, locals := 120 } : Room) (sf_Pre (dC, dI) vwCl [(cB, .byte), (cT, .object "ByteShelf$Row")] [.ref a0, .int n] (sf_w a0 a1 a2 a3 cB cT LP gb md ct tb nm tk oc en fs la g st ln bf af) sz) (va_Qi (fun (r : Int32) (u : sf_Sx) => r = (zs_take z n).1 ∧ sf_OKu u (zs_take z n).2) (sf_E (dC, dI) vwCl (va_A (sf_w a0 a1 a2 a3 cB cT LP gb md ct tb nm tk oc en fs la g st ln bf af) sz) (fun (u : sf_Sx) => sf_w a0 a1 a2 a3 cB cT u.1 u.2.1 u.2.2.1 u.2.2.2.1 u.2.2.2.2.1 u.2.2.2.2.2.1 u.2.2.2.2.2.2.1 u.2.2.2.2.2.2.2.1 u.2.2.2.2.2.2.2.2.1 u.2.2.2.2.2.2.2.2.2.1 u.2.2.2.2.2.2.2.2.2.2.1 u.2.2.2.2.2.2.2.2.2.2.2.1 u.2.2.2.2.2.2.2.2.2.2.2.2.1 u.2.2.2.2.2.2.2.2.2.2.2.2.2.1 u.2.2.2.2.2.2.2.2.2.2.2.2.2.2.1 u.2.2.2.2.2.2.2.2.2.2.2.2.2.2.2)) (va_A (sf_w a0 a1 a2 a3 cB cT LP gb md ct tb nm tk oc en fs la g st ln bf af) sz)) 1 6 (va_A (sf_w a0 a1 a2 a3 cB cT LP gb md ct tb nm tk oc en fs la g st ln bf af) sz) := by
  refine Met.ofW (cc := cX2_take) (maxL := 3) (ret := (some .int)) (by decide) rfl ?_
  intro p e s m args below meth c s₁ B hml hv
  obtain ⟨rfl, hsz, hP, hK, hD0, hN⟩ := hv
  have hx := B.exec
  have hb := B.bytes
  have hr := B.returns
  have hts := atoms_spec (ws := wsX2_take) B.pre
  have hown : s.vm.findClass RX2 = some m.cls := findClass_of_methodNamed B.named
  have hlocks := B.notSynchronized
  subst hsz
  have hD := hD0.self (sz := s.heap.size)
  generalize hAe : va_A (sf_w a0 a1 a2 a3 cB cT LP gb md ct tb nm tk oc en fs la g st ln bf af) s.heap.size = A at hD ⊢
  have hA : ∀ q : Nat, s.heap.size ≤ q → A q := fun q h => by rw [← hAe]; exact Or.inr h
  have hS : va_S A s.heap s.heap [] := va_S.rf
  have hl := lv_entry ([.ref a0, .int n]) (n := 3) (Nat.le_of_ble_eq_true rfl)
  rw [lg_entry_eq]
  generalize (lg_sl ([.ref a0, .int n]) ++ List.replicate (3 - (lg_sl ([.ref a0, .int n])).length) Slot.unset).toArray = ls at hl ⊢
  have hl : lv_has ls 3 [(0, .ref a0), (1, .int n)] := hl
  obtain ⟨hoc1, hen⟩ := sf_MI_oc hI.1
  have hz6 := hR.2.2.2.2.2
  refine lv_iload_n hx hb dX2_take_0 rfl (lv_at hl 1 rfl) ?_
  refine vp_callSi (va_Run.run (sf_runS (As := [.int n]) (rest := []) ⟨hx, hb, hml, hown, hts⟩ sf_has (c_isLength l n) k_X2_33 ⟨sf_blindT, sf_preT⟩ rfl hl.1 (Nat.le_of_ble_eq_true rfl) ⟨(Nat.le_of_ble_eq_true rfl), (Nat.le_of_ble_eq_true rfl)⟩ ⟨rfl, rfl⟩ ⟨Nat.zero_le _, Nat.zero_le _⟩ dX2_take_1)) (fun r_1 h_1 => ?_)
  rcases h_1 with ⟨rfl, h_1⟩ | ⟨rfl, h_1⟩
  · obtain ⟨k, hk, rfl⟩ := h_1
    have hl : lv_has ls 3 [(0, .ref a0), (1, .int (nI k))] := hl
    have hPk := sf_P_le hk
    refine sf_if_ne (tgt := 9) hx hb (by decide) dX2_take_4 (by decide) (fun _ => ?_) (fun c_4 => absurd c_4 (by decide))
    refine lv_aload_n hx hb dX2_take_9 rfl (lv_at hl 0 rfl) ?_
    refine va_get (D := (dC, dI)) (ci := 2) (v := .ref a1) (C := RX2) (T := TX2) (N := 5) hx hb hts sf_inX2 hown hK hP 0 rfl rfl 0 (by decide) (hts _ (sf_mem fl_X2_10 rfl)) (fun _ h9 => h9) rfl dX2_take_10 ?_
    refine lv_iload_n hx hb dX2_take_13 rfl (lv_at hl 1 rfl) ?_
    refine vp_callSi (va_Run.run (sf_runS (As := [.int (nI k)]) (rest := [.ref a1]) ⟨hx, hb, hml, hown, hts⟩ sf_has (c_placesFor l k hk) k_X2_37 ⟨sf_blindT, sf_preT⟩ rfl hl.1 (Nat.le_of_ble_eq_true rfl) ⟨(Nat.le_of_ble_eq_true rfl), (Nat.le_of_ble_eq_true rfl)⟩ ⟨rfl, rfl⟩ ⟨Nat.zero_le _, Nat.zero_le _⟩ dX2_take_14)) (fun r_14 h_14 => ?_)
    subst h_14
    refine vp_callSi (va_Run.run (sf_runV (b := a1) (As := [.int (nI (sf_P k))]) (rest := []) ⟨hx, hb, hml, hown, hts⟩ sf_has (c_hasRoomFor l dC dI a0 a1 a2 a3 cB cT LP gb md ct tb nm tk oc en fs la g st ln bf af _ (sf_P k) (by omega) (by omega)) k_X2_41 ⟨sf_blind, va_recv hK hP (ci := 0) (q0 := 1) rfl rfl, sf_preU hP hK hD hN⟩ rfl hl.1 (Nat.le_of_ble_eq_true rfl) ⟨(Nat.le_of_ble_eq_true rfl), (Nat.le_of_ble_eq_true rfl)⟩ ⟨rfl, rfl⟩ ⟨Nat.zero_le _, Nat.zero_le _⟩ dX2_take_17)) (fun r_17 h_17 => ?_)
    rcases h_17 with ⟨rfl, h_17⟩ | ⟨rfl, h_17⟩
    · refine sf_if_ne (tgt := 26) hx hb (by decide) dX2_take_20 (by decide) (fun _ => ?_) (fun c_20 => absurd c_20 (by decide))
      refine lv_aload_n hx hb dX2_take_26 rfl (lv_at hl 0 rfl) ?_
      refine sf_cq (sf_runV (b := a0) (As := []) (rest := []) ⟨hx, hb, hml, hown, hts⟩ sf_has (c_nextRow l dC dI a0 a1 a2 a3 cB cT LP gb md ct tb nm tk oc en fs la g st ln bf af _ (sf_gb hI) hI.2.2.1) k_X2_44 ⟨sf_blind, va_recv hK hP (ci := 2) (q0 := 0) rfl rfl, sf_preU hP hK hD hN⟩ rfl hl.1 (Nat.le_of_ble_eq_true rfl) ⟨(Nat.le_of_ble_eq_true rfl), (Nat.le_of_ble_eq_true rfl)⟩ ⟨rfl, rfl⟩ ⟨(Nat.le_of_ble_eq_true rfl), (Nat.le_of_ble_eq_true rfl)⟩ dX2_take_27) hD hS hA (fun r_27 u_27 H locs h_27 hP hD hS => ?_)
      rcases h_27 with ⟨a, rfl, rfl, rfl⟩ | ⟨rfl, h20, rfl, rfl⟩ | ⟨rfl, h20, q, hq, rfl, rfl⟩
      · obtain ⟨tl, rfl, hstk, haL, hac, hka⟩ := sf_top hI
        have hP : va_P (dC, dI) vwCl (sf_w a0 a1 a2 a3 cB cT LP (af a) md ct tb nm tk oc en fs la g st ln bf af) H := hP
        have hD : va_D A (sf_w a0 a1 a2 a3 cB cT LP (af a) md ct tb nm tk oc en fs la g st ln bf af) := hD
        have hM2 := hI.1
        refine lv_astore_n (lv' := [(2, .ref a), (0, .ref a0), (1, .int (nI k))]) hx hb dX2_take_30 rfl hl (by decide) rfl (fun ls hl => ?_)
        refine lv_aload_n hx hb dX2_take_31 rfl (lv_at hl 0 rfl) ?_
        refine lv_ifnonnull (tgt := 38) hx hb dX2_take_32 (by decide) ?_
        refine lv_aload_n hx hb dX2_take_38 rfl (lv_at hl 1 rfl) ?_
        refine va_get (D := (dC, dI)) (ci := 2) (v := .ref a1) (C := RX2) (T := TX2) (N := 5) hx hb hts sf_inX2 hown hK hP 0 rfl rfl 0 (by decide) (hts _ (sf_mem fl_X2_10 rfl)) (fun _ h9 => h9) rfl dX2_take_39 ?_
        refine lv_aload_n hx hb dX2_take_42 rfl (lv_at hl 0 rfl) ?_
        refine lv_iload_n hx hb dX2_take_43 rfl (lv_at hl 2 rfl) ?_
        refine sf_cv (sf_runV (b := a1) (As := [.ref a, .int (nI k)]) (rest := []) ⟨hx, hb, hml, hown, hts⟩ sf_has (c_lay l dC dI a0 a1 a2 a3 cB cT LP (af a) md ct tb nm tk oc en fs la g st ln bf af _ cs hM2 a haL hac k hk h_17) k_X2_48 ⟨sf_blind, va_recv hK hP (ci := 0) (q0 := 1) rfl rfl, sf_preU hP hK hD hN⟩ rfl hl.1 (Nat.le_of_ble_eq_true rfl) ⟨(Nat.le_of_ble_eq_true rfl), (Nat.le_of_ble_eq_true rfl)⟩ ⟨rfl, rfl⟩ ⟨(Nat.le_of_ble_eq_true rfl), (Nat.le_of_ble_eq_true rfl)⟩ dX2_take_44) hD hS hA (fun u_44 H locs h_44 hP hD hS => ?_)
        obtain ⟨en2, g2, st2⟩ := u_44
        obtain ⟨p1, p2, p3⟩ := h_44
        dsimp only at p1 p2 p3
        have hP : va_P (dC, dI) vwCl (sf_w a0 a1 a2 a3 cB cT LP (af a) md ct tb nm tk (oc + sf_P k) en2 (sf_pk la (some a) fs) (some a) g2 st2 (va_up ln a k) (va_up bf a la) (sf_apA af la a)) H := hP
        have hD : va_D A (sf_w a0 a1 a2 a3 cB cT LP (af a) md ct tb nm tk (oc + sf_P k) en2 (sf_pk la (some a) fs) (some a) g2 st2 (va_up ln a k) (va_up bf a la) (sf_apA af la a)) := hD
        refine lv_aload_n hx hb dX2_take_47 rfl (lv_at hl 0 rfl) ?_
        refine lv_iconst (v := nI 1) hx hb dX2_take_48 (by decide) ?_
        refine sf_rput (D := (dC, dI)) (ci := 1) (v := .int (nI 1)) (ty := .boolean) (C := RX1) (T := TX1) (N := 6) hx hb hts sf_inX1 tyX1 tyX1_ok nmX1 hown hK hP hD hS haL rfl rfl 1 (by decide) (hts _ (sf_mem fl_X2_52 rfl)) (fun _ h9 => h9) rfl (by decide +kernel) rfl rfl (Nat.le_of_ble_eq_true rfl) (sf_rw_tk 1) dX2_take_49 (fun H locs hP hD hS => ?_)
        have hP : va_P (dC, dI) vwCl (sf_w a0 a1 a2 a3 cB cT LP (af a) md ct tb nm (va_up tk a 1) (oc + sf_P k) en2 (sf_pk la (some a) fs) (some a) g2 st2 (va_up ln a k) (va_up bf a la) (sf_apA af la a)) H := hP
        have hD : va_D A (sf_w a0 a1 a2 a3 cB cT LP (af a) md ct tb nm (va_up tk a 1) (oc + sf_P k) en2 (sf_pk la (some a) fs) (some a) g2 st2 (va_up ln a k) (va_up bf a la) (sf_apA af la a)) := hD
        refine lv_aload_n hx hb dX2_take_52 rfl (lv_at hl 1 rfl) ?_
        refine lv_dup hx hb dX2_take_53 rfl ?_
        refine va_get (D := (dC, dI)) (ci := 2) (v := .int (nI ct)) (C := RX2) (T := TX2) (N := 5) hx hb hts sf_inX2 hown hK hP 0 rfl rfl 4 (by decide) (hts _ (sf_mem fl_X2_30 rfl)) (fun _ h9 => h9) rfl dX2_take_54 ?_
        refine lv_iconst (v := nI 1) hx hb dX2_take_57 (by decide) ?_
        refine sf_iadd hx hb dX2_take_58 ?_
        refine va_put (D := (dC, dI)) (ci := 2) (v := .int (nI (ct + 1))) (ty := .int) (C := RX2) (T := TX2) (N := 5) hx hb hts sf_inX2 tyX2 tyX2_ok nmX2 hown hK hP hD hS 0 rfl rfl 4 (by decide) (hts _ (sf_mem fl_X2_30 rfl)) (fun _ h9 => h9) rfl (by decide +kernel) rfl rfl (Nat.le_of_ble_eq_true rfl) dX2_take_59 (fun H locs hP hD hS => ?_)
        have hP : va_P (dC, dI) vwCl (sf_w a0 a1 a2 a3 cB cT LP (af a) md (ct + 1) tb nm (va_up tk a 1) (oc + sf_P k) en2 (sf_pk la (some a) fs) (some a) g2 st2 (va_up ln a k) (va_up bf a la) (sf_apA af la a)) H := hP
        have hD : va_D A (sf_w a0 a1 a2 a3 cB cT LP (af a) md (ct + 1) tb nm (va_up tk a 1) (oc + sf_P k) en2 (sf_pk la (some a) fs) (some a) g2 st2 (va_up ln a k) (va_up bf a la) (sf_apA af la a)) := hD
        refine lv_aload_n hx hb dX2_take_62 rfl (lv_at hl 0 rfl) ?_
        refine sf_rget (D := (dC, dI)) (ci := 1) (v := .int (nI (nm a))) (C := RX1) (T := TX1) (N := 6) hx hb hts sf_inX1 hown hK hP haL rfl rfl 0 (by decide) (hts _ (sf_mem fl_X2_56 rfl)) (fun _ h9 => h9) rfl dX2_take_63 ?_
        exact W.iret (v := nI (nm a)) hx hb hr (fun t ht hW => ⟨⟨_, (LP, (af a), md, ct + 1, tb, nm, (va_up tk a 1), (oc + sf_P k), en2, (sf_pk la (some a) fs), (some a), g2, st2, (va_up ln a k), (va_up bf a la), (sf_apA af la a)), rfl, by rw [zs_take_3 hk (by omega) hR.2.1]; exact ⟨rfl, sf_OK_take_1 hI hR hstk hac hka p1 p2 p3⟩, by rw [ht]; exact hP, hD⟩, hS.F ht⟩) hS.2.2 dX2_take_66
      · have hP : va_P (dC, dI) vwCl (sf_w a0 a1 a2 a3 cB cT LP none md ct tb nm tk oc en fs la g st ln bf af) H := hP
        have hD : va_D A (sf_w a0 a1 a2 a3 cB cT LP none md ct tb nm tk oc en fs la g st ln bf af) := hD
        refine lv_astore_nN (lv' := [(2, .null), (0, .ref a0), (1, .int (nI k))]) hx hb dX2_take_30 rfl hl (by decide) rfl (fun ls hl => ?_)
        refine lv_aload_nN hx hb dX2_take_31 rfl (lv_at hl 0 rfl) ?_
        refine lv_ifnonnullN hx hb dX2_take_32 ?_
        refine lv_bipush (v := -2) hx hb dX2_take_35 (by decide) ?_
        exact W.iret (v := -2) hx hb hr (fun t ht hW => ⟨⟨_, (LP, none, md, ct, tb, nm, tk, oc, en, fs, la, g, st, ln, bf, af), rfl, by rw [zs_take_4 hk (by omega) (by rw [hR.2.1, sf_no_top hI]; rfl) (by rw [hR.1, ← hI.2.1]; exact h20)]; exact ⟨rfl, cs, fr, hI, hR⟩, by rw [ht]; exact hP, hD⟩, hS.F ht⟩) hS.2.2 dX2_take_37
      · have hfr := sf_no_top hI
        subst hfr
        have hqL : q ∈ LP ++ [q] := by simp
        have hP : va_P (dC, dI) vwCl (sf_w a0 a1 a2 a3 cB cT (LP ++ [q]) none (md + 1) ct (va_up tb md (some q)) (va_up nm q md) (va_up tk q 0) oc en fs la g (va_up st q 0) (va_up ln q 0) (va_up bf q none) (va_up af q none)) H := hP
        have hD : va_D A (sf_w a0 a1 a2 a3 cB cT (LP ++ [q]) none (md + 1) ct (va_up tb md (some q)) (va_up nm q md) (va_up tk q 0) oc en fs la g (va_up st q 0) (va_up ln q 0) (va_up bf q none) (va_up af q none)) := hD
        have hM2 := sf_MI_new hI.1 hq
        have hac : q ∉ cs := fun e => hq (hI.1.2.1 q e)
        refine lv_astore_n (lv' := [(2, .ref q), (0, .ref a0), (1, .int (nI k))]) hx hb dX2_take_30 rfl hl (by decide) rfl (fun ls hl => ?_)
        refine lv_aload_n hx hb dX2_take_31 rfl (lv_at hl 0 rfl) ?_
        refine lv_ifnonnull (tgt := 38) hx hb dX2_take_32 (by decide) ?_
        refine lv_aload_n hx hb dX2_take_38 rfl (lv_at hl 1 rfl) ?_
        refine va_get (D := (dC, dI)) (ci := 2) (v := .ref a1) (C := RX2) (T := TX2) (N := 5) hx hb hts sf_inX2 hown hK hP 0 rfl rfl 0 (by decide) (hts _ (sf_mem fl_X2_10 rfl)) (fun _ h9 => h9) rfl dX2_take_39 ?_
        refine lv_aload_n hx hb dX2_take_42 rfl (lv_at hl 0 rfl) ?_
        refine lv_iload_n hx hb dX2_take_43 rfl (lv_at hl 2 rfl) ?_
        refine sf_cv (sf_runV (b := a1) (As := [.ref q, .int (nI k)]) (rest := []) ⟨hx, hb, hml, hown, hts⟩ sf_has (c_lay l dC dI a0 a1 a2 a3 cB cT (LP ++ [q]) none (md + 1) ct (va_up tb md (some q)) (va_up nm q md) (va_up tk q 0) oc en fs la g (va_up st q 0) (va_up ln q 0) (va_up bf q none) (va_up af q none) _ cs hM2 q hqL hac k hk h_17) k_X2_48 ⟨sf_blind, va_recv hK hP (ci := 0) (q0 := 1) rfl rfl, sf_preU hP hK hD hN⟩ rfl hl.1 (Nat.le_of_ble_eq_true rfl) ⟨(Nat.le_of_ble_eq_true rfl), (Nat.le_of_ble_eq_true rfl)⟩ ⟨rfl, rfl⟩ ⟨(Nat.le_of_ble_eq_true rfl), (Nat.le_of_ble_eq_true rfl)⟩ dX2_take_44) hD hS hA (fun u_44 H locs h_44 hP hD hS => ?_)
        obtain ⟨en2, g2, st2⟩ := u_44
        obtain ⟨p1, p2, p3⟩ := h_44
        dsimp only at p1 p2 p3
        have hP : va_P (dC, dI) vwCl (sf_w a0 a1 a2 a3 cB cT (LP ++ [q]) none (md + 1) ct (va_up tb md (some q)) (va_up nm q md) (va_up tk q 0) (oc + sf_P k) en2 (sf_pk la (some q) fs) (some q) g2 st2 (va_up (va_up ln q 0) q k) (va_up (va_up bf q none) q la) (sf_apA (va_up af q none) la q)) H := hP
        have hD : va_D A (sf_w a0 a1 a2 a3 cB cT (LP ++ [q]) none (md + 1) ct (va_up tb md (some q)) (va_up nm q md) (va_up tk q 0) (oc + sf_P k) en2 (sf_pk la (some q) fs) (some q) g2 st2 (va_up (va_up ln q 0) q k) (va_up (va_up bf q none) q la) (sf_apA (va_up af q none) la q)) := hD
        refine lv_aload_n hx hb dX2_take_47 rfl (lv_at hl 0 rfl) ?_
        refine lv_iconst (v := nI 1) hx hb dX2_take_48 (by decide) ?_
        refine sf_rput (D := (dC, dI)) (ci := 1) (v := .int (nI 1)) (ty := .boolean) (C := RX1) (T := TX1) (N := 6) hx hb hts sf_inX1 tyX1 tyX1_ok nmX1 hown hK hP hD hS hqL rfl rfl 1 (by decide) (hts _ (sf_mem fl_X2_52 rfl)) (fun _ h9 => h9) rfl (by decide +kernel) rfl rfl (Nat.le_of_ble_eq_true rfl) (sf_rw_tk 1) dX2_take_49 (fun H locs hP hD hS => ?_)
        have hP : va_P (dC, dI) vwCl (sf_w a0 a1 a2 a3 cB cT (LP ++ [q]) none (md + 1) ct (va_up tb md (some q)) (va_up nm q md) (va_up (va_up tk q 0) q 1) (oc + sf_P k) en2 (sf_pk la (some q) fs) (some q) g2 st2 (va_up (va_up ln q 0) q k) (va_up (va_up bf q none) q la) (sf_apA (va_up af q none) la q)) H := hP
        have hD : va_D A (sf_w a0 a1 a2 a3 cB cT (LP ++ [q]) none (md + 1) ct (va_up tb md (some q)) (va_up nm q md) (va_up (va_up tk q 0) q 1) (oc + sf_P k) en2 (sf_pk la (some q) fs) (some q) g2 st2 (va_up (va_up ln q 0) q k) (va_up (va_up bf q none) q la) (sf_apA (va_up af q none) la q)) := hD
        refine lv_aload_n hx hb dX2_take_52 rfl (lv_at hl 1 rfl) ?_
        refine lv_dup hx hb dX2_take_53 rfl ?_
        refine va_get (D := (dC, dI)) (ci := 2) (v := .int (nI ct)) (C := RX2) (T := TX2) (N := 5) hx hb hts sf_inX2 hown hK hP 0 rfl rfl 4 (by decide) (hts _ (sf_mem fl_X2_30 rfl)) (fun _ h9 => h9) rfl dX2_take_54 ?_
        refine lv_iconst (v := nI 1) hx hb dX2_take_57 (by decide) ?_
        refine sf_iadd hx hb dX2_take_58 ?_
        refine va_put (D := (dC, dI)) (ci := 2) (v := .int (nI (ct + 1))) (ty := .int) (C := RX2) (T := TX2) (N := 5) hx hb hts sf_inX2 tyX2 tyX2_ok nmX2 hown hK hP hD hS 0 rfl rfl 4 (by decide) (hts _ (sf_mem fl_X2_30 rfl)) (fun _ h9 => h9) rfl (by decide +kernel) rfl rfl (Nat.le_of_ble_eq_true rfl) dX2_take_59 (fun H locs hP hD hS => ?_)
        have hP : va_P (dC, dI) vwCl (sf_w a0 a1 a2 a3 cB cT (LP ++ [q]) none (md + 1) (ct + 1) (va_up tb md (some q)) (va_up nm q md) (va_up (va_up tk q 0) q 1) (oc + sf_P k) en2 (sf_pk la (some q) fs) (some q) g2 st2 (va_up (va_up ln q 0) q k) (va_up (va_up bf q none) q la) (sf_apA (va_up af q none) la q)) H := hP
        have hD : va_D A (sf_w a0 a1 a2 a3 cB cT (LP ++ [q]) none (md + 1) (ct + 1) (va_up tb md (some q)) (va_up nm q md) (va_up (va_up tk q 0) q 1) (oc + sf_P k) en2 (sf_pk la (some q) fs) (some q) g2 st2 (va_up (va_up ln q 0) q k) (va_up (va_up bf q none) q la) (sf_apA (va_up af q none) la q)) := hD
        refine lv_aload_n hx hb dX2_take_62 rfl (lv_at hl 0 rfl) ?_
        refine sf_rget (D := (dC, dI)) (ci := 1) (v := .int (nI ((va_up nm q md) q))) (C := RX1) (T := TX1) (N := 6) hx hb hts sf_inX1 hown hK hP hqL rfl rfl 0 (by decide) (hts _ (sf_mem fl_X2_56 rfl)) (fun _ h9 => h9) rfl dX2_take_63 ?_
        rw [va_up_self]
        exact W.iret (v := nI md) hx hb hr (fun t ht hW => ⟨⟨_, ((LP ++ [q]), none, (md + 1), ct + 1, (va_up tb md (some q)), (va_up nm q md), (va_up (va_up tk q 0) q 1), (oc + sf_P k), en2, (sf_pk la (some q) fs), (some q), g2, st2, (va_up (va_up ln q 0) q k), (va_up (va_up bf q none) q la), (sf_apA (va_up af q none) la q)), rfl, by rw [zs_take_5 hk (by omega) hR.2.1 (by rw [hR.1, ← hI.2.1]; omega)]; exact ⟨by rw [hR.1, ← hI.2.1], sf_OK_take_2 hI hR hq h20 p1 p2 p3⟩, by rw [ht]; exact hP, hD⟩, hS.F ht⟩) hS.2.2 dX2_take_66
    · refine sf_if_ne (tgt := 26) hx hb (by decide) dX2_take_20 (by decide) (fun c_20 => absurd c_20 (by decide)) (fun _ => ?_)
      refine lv_bipush (v := -2) hx hb dX2_take_23 (by decide) ?_
      refine W.widen (k := 1) (n := 6) (Nat.zero_le _) (Nat.zero_le _) ?_
      exact W.iret (v := -2) hx hb hr (fun t ht hW => ⟨⟨_, (LP, gb, md, ct, tb, nm, tk, oc, en, fs, la, g, st, ln, bf, af), rfl, by rw [zs_take_2 hk (by omega)]; exact ⟨rfl, cs, fr, hI, hR⟩, by rw [ht]; exact hP, hD⟩, hS.F ht⟩) hS.2.2 dX2_take_25
  · have hzn : zi n 16385 = none := zi_none (by omega) (fun k hk => h_1 k (by omega))
    refine sf_if_ne (tgt := 9) hx hb (by decide) dX2_take_4 (by decide) (fun c_4 => absurd c_4 (by decide)) (fun _ => ?_)
    refine lv_iconst (v := -1) hx hb dX2_take_7 (by decide) ?_
    refine W.widen (k := 1) (n := 6) (Nat.zero_le _) (Nat.zero_le _) ?_
    exact W.iret (v := -1) hx hb hr (fun t ht hW => ⟨⟨_, (LP, gb, md, ct, tb, nm, tk, oc, en, fs, la, g, st, ln, bf, af), rfl, by rw [zs_take_1 hzn]; exact ⟨rfl, cs, fr, hI, hR⟩, by rw [ht]; exact hP, hD⟩, hS.F ht⟩) hS.2.2 dX2_take_8
end
section
/-! the constructors -/
def sf_PreO (D : va_G) (cl : List vw_C) (tys : List (ClassId × FieldType)) (av : List Value) (ws : va_W) (sz : Nat) : Array Value → State → Prop := va_Pc av (fun U => U.heap.size = sz ∧ va_P D cl ws U.heap ∧ va_K D cl tys U ∧ va_D (fun _ => True) ws ∧ sf_N U ∧ va_AO "ByteShelf$Row" U)
theorem sf_blindO {D : va_G} {cl : List vw_C} {tys : List (ClassId × FieldType)} {av : List Value} {ws : va_W} {sz : Nat} : FrameBlind (sf_PreO D cl tys av ws sz) := fun a U g mk q => by
  obtain ⟨q0, q1, qP, qK, qD, qN, qO⟩ := q
  exact ⟨q0, q1, qP, va_K.moved (u := U) (U := U.calling g mk a) (Vm.Alike.refl U.vm) qK, qD, va_Nw.same (u := U) (U := U.calling g mk a) rfl rfl qN, va_AO.moved (u := U) (U := U.calling g mk a) (Vm.Alike.refl U.vm) qO⟩
theorem sf_preO {D : va_G} {cl : List vw_C} {tys : List (ClassId × FieldType)} {av : List Value} {ws : va_W} {H : Heap} {s : State} {A : Nat → Prop} (hP : va_P D cl ws H) (hK : va_K D cl tys s) (hD : va_D A ws) (hN : sf_N s) (hO : va_AO "ByteShelf$Row" s) : ∀ U : State, U.heap = H → s.WarmedH U.vm → sf_PreO D cl tys av ws H.size av.toArray U :=
  fun U hU hW => ⟨rfl, by rw [hU], by rw [hU]; exact hP, va_K.moved hW.alike hK, hD.weaken (fun _ _ _ _ => trivial), va_Nw.warmM hW hN, va_AO.moved hW.alike hO⟩
def sf_z0 : sf_Z := (0, [], (fun _ => 0), (fun _ => 0), (fun _ _ => 0), 0, 0)
theorem sf_OK_0 : sf_OKu ([], none, 0, 0, (fun _ => none), (fun _ => 0), (fun _ => 0), 0, 0, none, none, (fun _ => 0), (fun _ => 0), (fun _ => 0), (fun _ => none), (fun _ => none)) sf_z0 := by
  refine ⟨[], [], ⟨⟨List.nodup_nil, fun a h => absurd h List.not_mem_nil, rfl, rfl, sf_lnk_nil, Nat.le_refl _, Nat.zero_le _, rfl, fun a h => absurd h List.not_mem_nil, sb_fit0⟩, rfl, Nat.zero_le _, fun _ => rfl, fun k a h => by simp at h, fun a h => absurd h List.not_mem_nil, fun a h => absurd h List.not_mem_nil, fun a h => absurd h List.not_mem_nil, List.nodup_nil, rfl, rfl⟩, rfl, rfl, fun k a h => by simp at h, fun k a h => by simp at h, rfl, rfl⟩
set_option maxHeartbeats 4000000 in
set_option maxRecDepth 100000 in
/-- Memory() -/
theorem c_Memory_init (l : Launch) (dC : Nat → ClassId) (dI : Nat → Nat → Nat) (a0 a1 sz : Nat) (v0 v1 v2 v3 v4 : Value) : Met l yX0_init wsX0_init ({ frames := 1, cells := 1, slots := 400000, locals := 30 } : Room) (sf_Pre (dC, dI) vwCl [] [.ref a1] [(a0, .inr (2, [v0, v1, v2, v3, v4])), (a1, .inr (0, [.null, .int 0, .int 0, .null, .null]))] sz) (va_Qv (fun _ : Nat × ClassId => True) (fun u t => va_P (dC, dI) vwCl [(a0, .inr (2, [v0, v1, v2, v3, v4])), (a1, .inr (0, [.ref u.1, .int (nI 0), .int (nI 0), .null, .null])), (u.1, .inl (u.2, 400000, .inl (fun _ => 0)))] t.heap ∧ va_K (dC, dI) vwCl [(u.2, .byte)] t ∧ va_D (va_A [(a0, .inr (2, [v0, v1, v2, v3, v4])), (a1, .inr (0, [.null, .int 0, .int 0, .null, .null]))] sz) [(a0, .inr (2, [v0, v1, v2, v3, v4])), (a1, .inr (0, [.ref u.1, .int (nI 0), .int (nI 0), .null, .null])), (u.1, .inl (u.2, 400000, .inl (fun _ => 0)))]) (va_A [(a0, .inr (2, [v0, v1, v2, v3, v4])), (a1, .inr (0, [.null, .int 0, .int 0, .null, .null]))] sz)) 1 400000 (va_A [(a0, .inr (2, [v0, v1, v2, v3, v4])), (a1, .inr (0, [.null, .int 0, .int 0, .null, .null]))] sz) := by
  refine Met.ofW (cc := cX0_init) (maxL := 1) (ret := none) (by decide) rfl ?_
  intro p e s m args below meth c s₁ B hml hv
  obtain ⟨rfl, hsz, hP, hK, hD0, hN⟩ := hv
  have hx := B.exec
  have hb := B.bytes
  have hr := B.returns
  have hts := atoms_spec (ws := wsX0_init) B.pre
  have hown : s.vm.findClass RX0 = some m.cls := findClass_of_methodNamed B.named
  have hlocks := B.notSynchronized
  subst hsz
  have hD := hD0.self (sz := s.heap.size)
  generalize hAe : va_A ([(a0, .inr (2, [v0, v1, v2, v3, v4])), (a1, .inr (0, [.null, .int 0, .int 0, .null, .null]))]) s.heap.size = A at hD ⊢
  have hA : ∀ q : Nat, s.heap.size ≤ q → A q := fun q h => by rw [← hAe]; exact Or.inr h
  have hS : va_S A s.heap s.heap [] := va_S.rf
  have hl := lv_entry ([.ref a1]) (n := 1) (Nat.le_of_ble_eq_true rfl)
  rw [lg_entry_eq]
  generalize (lg_sl ([.ref a1]) ++ List.replicate (1 - (lg_sl ([.ref a1])).length) Slot.unset).toArray = ls at hl ⊢
  have hl : lv_has ls 1 [(0, .ref a1)] := hl
  have hin : meth.name = "<init>" := (name_of_methodNamed B.named B.method).1
  refine lv_aload_n hx hb dX0_init_0 rfl (lv_at hl 0 rfl) ?_
  refine W.objInit hx hb hown (hts _ (sf_mem ml_X0_3 rfl)) (hts _ (sf_mem im_O_init rfl)) (hts _ (sf_mem co_O_init rfl)) rfl (by rw [hml]; exact hl.1) rfl dX0_init_1 (Nat.le_of_ble_eq_true rfl) (Nat.le_of_ble_eq_true rfl) ?_
  refine W.eq (g2 := F0 m 4 ls []) rfl ?_
  refine lv_aload_n hx hb dX0_init_4 rfl (lv_at hl 0 rfl) ?_
  refine lv_ldc (v := nI 400000) hx hb hown (hts _ (sf_mem cn_X0_9 rfl)) dX0_init_5 ?_
  refine va_newa (atype := .byte) (ty := .byte) (N' := 400000) (a0 := (400000, .inl (fun _ => 0))) hx hb (hts _ (sf_mem ac_byte rfl)) rfl hK hP hD hS hA (fun _ => rfl) (nI_pos (by decide)) (nI_clamp (by decide)) (by decide) (Nat.le_of_ble_eq_true rfl) (Nat.le_of_ble_eq_true rfl) dX0_init_7 (fun q cq H hK hP hD hS => ?_)
  have hP : va_P (dC, dI) vwCl ([(a0, .inr (2, [v0, v1, v2, v3, v4])), (a1, .inr (0, [.null, .int 0, .int 0, .null, .null])), (q, .inl (cq, 400000, .inl (fun _ => 0)))]) H := hP
  have hD : va_D A ([(a0, .inr (2, [v0, v1, v2, v3, v4])), (a1, .inr (0, [.null, .int 0, .int 0, .null, .null])), (q, .inl (cq, 400000, .inl (fun _ => 0)))]) := hD
  refine va_putF (D := (dC, dI)) (ci := 0) (v := .ref q) (ty := .array .byte) (C := RX0) (T := TX0) (N := 5) hx hb hts sf_inX0 tyX0 tyX0_ok nmX0 hown hK hP hD hS 1 rfl rfl 0 (by decide) (hts _ (sf_mem fl_X0_10 rfl)) (fun _ h9 => h9) rfl hin rfl (by decide +kernel) rfl rfl (Nat.le_of_ble_eq_true rfl) dX0_init_9 (fun H locs hP hD hS => ?_)
  have hP : va_P (dC, dI) vwCl ([(a0, .inr (2, [v0, v1, v2, v3, v4])), (a1, .inr (0, [.ref q, .int 0, .int 0, .null, .null])), (q, .inl (cq, 400000, .inl (fun _ => 0)))]) H := hP
  have hD : va_D A ([(a0, .inr (2, [v0, v1, v2, v3, v4])), (a1, .inr (0, [.ref q, .int 0, .int 0, .null, .null])), (q, .inl (cq, 400000, .inl (fun _ => 0)))]) := hD
  refine lv_aload_n hx hb dX0_init_12 rfl (lv_at hl 0 rfl) ?_
  refine lv_iconst (v := nI 0) hx hb dX0_init_13 (by decide) ?_
  refine va_put (D := (dC, dI)) (ci := 0) (v := .int (nI 0)) (ty := .int) (C := RX0) (T := TX0) (N := 5) hx hb hts sf_inX0 tyX0 tyX0_ok nmX0 hown hK hP hD hS 1 rfl rfl 1 (by decide) (hts _ (sf_mem fl_X0_16 rfl)) (fun _ h9 => h9) rfl (by decide +kernel) rfl rfl (Nat.le_of_ble_eq_true rfl) dX0_init_14 (fun H locs hP hD hS => ?_)
  have hP : va_P (dC, dI) vwCl ([(a0, .inr (2, [v0, v1, v2, v3, v4])), (a1, .inr (0, [.ref q, .int (nI 0), .int 0, .null, .null])), (q, .inl (cq, 400000, .inl (fun _ => 0)))]) H := hP
  have hD : va_D A ([(a0, .inr (2, [v0, v1, v2, v3, v4])), (a1, .inr (0, [.ref q, .int (nI 0), .int 0, .null, .null])), (q, .inl (cq, 400000, .inl (fun _ => 0)))]) := hD
  refine lv_aload_n hx hb dX0_init_17 rfl (lv_at hl 0 rfl) ?_
  refine lv_iconst (v := nI 0) hx hb dX0_init_18 (by decide) ?_
  refine va_put (D := (dC, dI)) (ci := 0) (v := .int (nI 0)) (ty := .int) (C := RX0) (T := TX0) (N := 5) hx hb hts sf_inX0 tyX0 tyX0_ok nmX0 hown hK hP hD hS 1 rfl rfl 2 (by decide) (hts _ (sf_mem fl_X0_20 rfl)) (fun _ h9 => h9) rfl (by decide +kernel) rfl rfl (Nat.le_of_ble_eq_true rfl) dX0_init_19 (fun H locs hP hD hS => ?_)
  have hP : va_P (dC, dI) vwCl ([(a0, .inr (2, [v0, v1, v2, v3, v4])), (a1, .inr (0, [.ref q, .int (nI 0), .int (nI 0), .null, .null])), (q, .inl (cq, 400000, .inl (fun _ => 0)))]) H := hP
  have hD : va_D A ([(a0, .inr (2, [v0, v1, v2, v3, v4])), (a1, .inr (0, [.ref q, .int (nI 0), .int (nI 0), .null, .null])), (q, .inl (cq, 400000, .inl (fun _ => 0)))]) := hD
  refine lv_aload_n hx hb dX0_init_22 rfl (lv_at hl 0 rfl) ?_
  refine lv_null hx hb dX0_init_23 ?_
  refine va_put (D := (dC, dI)) (ci := 0) (v := .null) (ty := .object "ByteShelf$Row") (C := RX0) (T := TX0) (N := 5) hx hb hts sf_inX0 tyX0 tyX0_ok nmX0 hown hK hP hD hS 1 rfl rfl 3 (by decide) (hts _ (sf_mem fl_X0_23 rfl)) (fun _ h9 => h9) rfl (by decide +kernel) rfl rfl (Nat.le_of_ble_eq_true rfl) dX0_init_24 (fun H locs hP hD hS => ?_)
  have hP : va_P (dC, dI) vwCl ([(a0, .inr (2, [v0, v1, v2, v3, v4])), (a1, .inr (0, [.ref q, .int (nI 0), .int (nI 0), .null, .null])), (q, .inl (cq, 400000, .inl (fun _ => 0)))]) H := hP
  have hD : va_D A ([(a0, .inr (2, [v0, v1, v2, v3, v4])), (a1, .inr (0, [.ref q, .int (nI 0), .int (nI 0), .null, .null])), (q, .inl (cq, 400000, .inl (fun _ => 0)))]) := hD
  refine lv_aload_n hx hb dX0_init_27 rfl (lv_at hl 0 rfl) ?_
  refine lv_null hx hb dX0_init_28 ?_
  refine va_put (D := (dC, dI)) (ci := 0) (v := .null) (ty := .object "ByteShelf$Row") (C := RX0) (T := TX0) (N := 5) hx hb hts sf_inX0 tyX0 tyX0_ok nmX0 hown hK hP hD hS 1 rfl rfl 4 (by decide) (hts _ (sf_mem fl_X0_27 rfl)) (fun _ h9 => h9) rfl (by decide +kernel) rfl rfl (Nat.le_of_ble_eq_true rfl) dX0_init_29 (fun H locs hP hD hS => ?_)
  have hP : va_P (dC, dI) vwCl ([(a0, .inr (2, [v0, v1, v2, v3, v4])), (a1, .inr (0, [.ref q, .int (nI 0), .int (nI 0), .null, .null])), (q, .inl (cq, 400000, .inl (fun _ => 0)))]) H := hP
  have hD : va_D A ([(a0, .inr (2, [v0, v1, v2, v3, v4])), (a1, .inr (0, [.ref q, .int (nI 0), .int (nI 0), .null, .null])), (q, .inl (cq, 400000, .inl (fun _ => 0)))]) := hD
  exact W.vret hx hb hr (fun t ht hW => ⟨⟨(q, cq), rfl, trivial, by rw [ht]; exact hP, va_K.moved hW.alike hK, hD⟩, hS.F ht⟩) hS.2.2 dX0_init_32
set_option maxHeartbeats 4000000 in
set_option maxRecDepth 100000 in
/-- ByteShelf() -/
theorem c_ByteShelf_init (l : Launch) (dC : Nat → ClassId) (dI : Nat → Nat → Nat) (a0 sz : Nat) : Met l yX2_init wsX2_init ({ frames := 2, cells := 3, slots := 420005, locals := 60 } : Room) (sf_PreO (dC, dI) vwCl [] [.ref a0] [(a0, .inr (2, [.null, .null, .null, .int 0, .int 0]))] sz) (va_Qv (fun _ : Nat × Nat × Nat × ClassId × ClassId => True) (fun u t => va_P (dC, dI) vwCl (sf_w a0 u.1 u.2.1 u.2.2.1 u.2.2.2.1 u.2.2.2.2 [] none 0 0 (fun _ => none) (fun _ => 0) (fun _ => 0) 0 0 none none (fun _ => 0) (fun _ => 0) (fun _ => 0) (fun _ => none) (fun _ => none)) t.heap ∧ va_K (dC, dI) vwCl [(u.2.2.2.1, .byte), (u.2.2.2.2, .object "ByteShelf$Row")] t ∧ va_D (va_A [(a0, .inr (2, [.null, .null, .null, .int 0, .int 0]))] sz) (sf_w a0 u.1 u.2.1 u.2.2.1 u.2.2.2.1 u.2.2.2.2 [] none 0 0 (fun _ => none) (fun _ => 0) (fun _ => 0) 0 0 none none (fun _ => 0) (fun _ => 0) (fun _ => 0) (fun _ => none) (fun _ => none))) (va_A [(a0, .inr (2, [.null, .null, .null, .int 0, .int 0]))] sz)) 3 420005 (va_A [(a0, .inr (2, [.null, .null, .null, .int 0, .int 0]))] sz) := by
  refine Met.ofW (cc := cX2_init) (maxL := 1) (ret := none) (by decide) rfl ?_
  intro p e s m args below meth c s₁ B hml hv
  obtain ⟨rfl, hsz, hP, hK, hD0, hN, hO⟩ := hv
  have hx := B.exec
  have hb := B.bytes
  have hr := B.returns
  have hts := atoms_spec (ws := wsX2_init) B.pre
  have hown : s.vm.findClass RX2 = some m.cls := findClass_of_methodNamed B.named
  have hlocks := B.notSynchronized
  subst hsz
  have hD := hD0.self (sz := s.heap.size)
  generalize hAe : va_A ([(a0, .inr (2, [.null, .null, .null, .int 0, .int 0]))]) s.heap.size = A at hD ⊢
  have hA : ∀ q : Nat, s.heap.size ≤ q → A q := fun q h => by rw [← hAe]; exact Or.inr h
  have hS : va_S A s.heap s.heap [] := va_S.rf
  have hl := lv_entry ([.ref a0]) (n := 1) (Nat.le_of_ble_eq_true rfl)
  rw [lg_entry_eq]
  generalize (lg_sl ([.ref a0]) ++ List.replicate (1 - (lg_sl ([.ref a0])).length) Slot.unset).toArray = ls at hl ⊢
  have hl : lv_has ls 1 [(0, .ref a0)] := hl
  have hin : meth.name = "<init>" := (name_of_methodNamed B.named B.method).1
  refine lv_aload_n hx hb dX2_init_0 rfl (lv_at hl 0 rfl) ?_
  refine W.objInit hx hb hown (hts _ (sf_mem ml_X2_1 rfl)) (hts _ (sf_mem im_O_init rfl)) (hts _ (sf_mem co_O_init rfl)) rfl (by rw [hml]; exact hl.1) rfl dX2_init_1 (Nat.le_of_ble_eq_true rfl) (Nat.le_of_ble_eq_true rfl) ?_
  refine W.eq (g2 := F0 m 4 ls []) rfl ?_
  refine lv_aload_n hx hb dX2_init_4 rfl (lv_at hl 0 rfl) ?_
  refine va_new (ci := 0) (fs := [.null, .int 0, .int 0, .null, .null]) (C := RX0) (T := TX0) (N := 5) hx hb hts sf_inX0 tyX0 tyX0_ok hown (hts _ (sf_mem cl_X2_7 rfl)) (hts _ (sf_mem it_X0 rfl)) (hts _ (sf_mem in_X0 rfl)) hK hP hD hS hA rfl (fun j hj => by rcases (show j = 0 ∨ j = 1 ∨ j = 2 ∨ j = 3 ∨ j = 4 by omega) with rfl | rfl | rfl | rfl | rfl <;> rfl) (Nat.le_of_ble_eq_true rfl) (Nat.le_of_ble_eq_true rfl) dX2_init_5 (fun a1 H hP hD hS => ?_)
  have hP : va_P (dC, dI) vwCl ([(a0, .inr (2, [.null, .null, .null, .int 0, .int 0])), (a1, .inr (0, [.null, .int 0, .int 0, .null, .null]))]) H := hP
  have hD : va_D A ([(a0, .inr (2, [.null, .null, .null, .int 0, .int 0])), (a1, .inr (0, [.null, .int 0, .int 0, .null, .null]))]) := hD
  refine W.widen (k := 1) (n := 5) (Nat.le_of_ble_eq_true rfl) (Nat.le_of_ble_eq_true rfl) ?_
  refine lv_dup hx hb dX2_init_8 rfl ?_
  have hF := sf_in hD hS hA
  refine va_callv (sf_runI (b := a1) (As := []) (rest := [.ref a1, .ref a0]) ⟨hx, hb, hml, hown, hts⟩ sf_has (c_Memory_init l dC dI a0 a1 _ .null .null .null (.int 0) (.int 0)) k_X2_9 ⟨sf_blind, sf_preU hP hK hD hN⟩ rfl hl.1 (Nat.le_of_ble_eq_true rfl) ⟨(Nat.le_of_ble_eq_true rfl), (Nat.le_of_ble_eq_true rfl)⟩ ⟨rfl, rfl⟩ ⟨(Nat.le_of_ble_eq_true rfl), (Nat.le_of_ble_eq_true rfl)⟩ dX2_init_9) hS (fun q _ h => hF q h) hF (fun u t H locs ht hvm hw hB hz1 hk1 hS => ?_)
  obtain ⟨a2, cB⟩ := u
  obtain ⟨hP, hK1, hD1⟩ := hB
  rw [ht] at hP
  have hK := va_K.moved hvm.symm hK1
  have hD := hD1.weaken (fun k q _ h => hF q.1 h)
  dsimp only at hP hD hK
  have hP : va_P (dC, dI) vwCl ([(a0, .inr (2, [.null, .null, .null, .int 0, .int 0])), (a1, .inr (0, [.ref a2, .int (nI 0), .int (nI 0), .null, .null])), (a2, .inl (cB, 400000, .inl (fun _ => 0)))]) H := hP
  have hD : va_D A ([(a0, .inr (2, [.null, .null, .null, .int 0, .int 0])), (a1, .inr (0, [.ref a2, .int (nI 0), .int (nI 0), .null, .null])), (a2, .inl (cB, 400000, .inl (fun _ => 0)))]) := hD
  refine W.widen (k := 2) (n := 400005) (Nat.le_of_ble_eq_true rfl) (Nat.le_of_ble_eq_true rfl) ?_
  refine va_putF (D := (dC, dI)) (ci := 2) (v := .ref a1) (ty := .object "ByteShelf$Memory") (C := RX2) (T := TX2) (N := 5) hx hb hts sf_inX2 tyX2 tyX2_ok nmX2 hown hK hP hD hS 0 rfl rfl 0 (by decide) (hts _ (sf_mem fl_X2_10 rfl)) (fun _ h9 => h9) rfl hin rfl (by decide +kernel) rfl rfl (Nat.le_of_ble_eq_true rfl) dX2_init_12 (fun H locs hP hD hS => ?_)
  have hP : va_P (dC, dI) vwCl ([(a0, .inr (2, [.ref a1, .null, .null, .int 0, .int 0])), (a1, .inr (0, [.ref a2, .int (nI 0), .int (nI 0), .null, .null])), (a2, .inl (cB, 400000, .inl (fun _ => 0)))]) H := hP
  have hD : va_D A ([(a0, .inr (2, [.ref a1, .null, .null, .int 0, .int 0])), (a1, .inr (0, [.ref a2, .int (nI 0), .int (nI 0), .null, .null])), (a2, .inl (cB, 400000, .inl (fun _ => 0)))]) := hD
  refine lv_aload_n hx hb dX2_init_15 rfl (lv_at hl 0 rfl) ?_
  refine lv_sipush (v := nI 20000) hx hb dX2_init_16 (by decide) ?_
  refine va_newq (N' := 20000) (C := RX1) hx hb hown (hts _ (sf_mem cl_X2_16 rfl)) hO hK hP hD hS hA (nI_pos (by decide)) (nI_clamp (by decide)) (by decide) (Nat.le_of_ble_eq_true rfl) (Nat.le_of_ble_eq_true rfl) dX2_init_19 (fun a3 cT H hK hP hD hS => ?_)
  have hP : va_P (dC, dI) vwCl ([(a0, .inr (2, [.ref a1, .null, .null, .int 0, .int 0])), (a1, .inr (0, [.ref a2, .int (nI 0), .int (nI 0), .null, .null])), (a2, .inl (cB, 400000, .inl (fun _ => 0))), (a3, .inl (cT, 20000, .inr (.inr (.inr (.inr (fun _ => none))))))]) H := hP
  have hD : va_D A ([(a0, .inr (2, [.ref a1, .null, .null, .int 0, .int 0])), (a1, .inr (0, [.ref a2, .int (nI 0), .int (nI 0), .null, .null])), (a2, .inl (cB, 400000, .inl (fun _ => 0))), (a3, .inl (cT, 20000, .inr (.inr (.inr (.inr (fun _ => none))))))]) := hD
  refine W.widen (k := 3) (n := 420005) (Nat.le_of_ble_eq_true rfl) (Nat.le_of_ble_eq_true rfl) ?_
  refine va_putF (D := (dC, dI)) (ci := 2) (v := .ref a3) (ty := .array (.object "ByteShelf$Row")) (C := RX2) (T := TX2) (N := 5) hx hb hts sf_inX2 tyX2 tyX2_ok nmX2 hown hK hP hD hS 0 rfl rfl 1 (by decide) (hts _ (sf_mem fl_X2_18 rfl)) (fun _ h9 => h9) rfl hin rfl (by decide +kernel) rfl rfl (Nat.le_of_ble_eq_true rfl) dX2_init_22 (fun H locs hP hD hS => ?_)
  have hP : va_P (dC, dI) vwCl ([(a0, .inr (2, [.ref a1, .ref a3, .null, .int 0, .int 0])), (a1, .inr (0, [.ref a2, .int (nI 0), .int (nI 0), .null, .null])), (a2, .inl (cB, 400000, .inl (fun _ => 0))), (a3, .inl (cT, 20000, .inr (.inr (.inr (.inr (fun _ => none))))))]) H := hP
  have hD : va_D A ([(a0, .inr (2, [.ref a1, .ref a3, .null, .int 0, .int 0])), (a1, .inr (0, [.ref a2, .int (nI 0), .int (nI 0), .null, .null])), (a2, .inl (cB, 400000, .inl (fun _ => 0))), (a3, .inl (cT, 20000, .inr (.inr (.inr (.inr (fun _ => none))))))]) := hD
  refine lv_aload_n hx hb dX2_init_25 rfl (lv_at hl 0 rfl) ?_
  refine lv_null hx hb dX2_init_26 ?_
  refine va_put (D := (dC, dI)) (ci := 2) (v := .null) (ty := .object "ByteShelf$Row") (C := RX2) (T := TX2) (N := 5) hx hb hts sf_inX2 tyX2 tyX2_ok nmX2 hown hK hP hD hS 0 rfl rfl 2 (by decide) (hts _ (sf_mem fl_X2_22 rfl)) (fun _ h9 => h9) rfl (by decide +kernel) rfl rfl (Nat.le_of_ble_eq_true rfl) dX2_init_27 (fun H locs hP hD hS => ?_)
  have hP : va_P (dC, dI) vwCl ([(a0, .inr (2, [.ref a1, .ref a3, .null, .int 0, .int 0])), (a1, .inr (0, [.ref a2, .int (nI 0), .int (nI 0), .null, .null])), (a2, .inl (cB, 400000, .inl (fun _ => 0))), (a3, .inl (cT, 20000, .inr (.inr (.inr (.inr (fun _ => none))))))]) H := hP
  have hD : va_D A ([(a0, .inr (2, [.ref a1, .ref a3, .null, .int 0, .int 0])), (a1, .inr (0, [.ref a2, .int (nI 0), .int (nI 0), .null, .null])), (a2, .inl (cB, 400000, .inl (fun _ => 0))), (a3, .inl (cT, 20000, .inr (.inr (.inr (.inr (fun _ => none))))))]) := hD
  refine lv_aload_n hx hb dX2_init_30 rfl (lv_at hl 0 rfl) ?_
  refine lv_iconst (v := nI 0) hx hb dX2_init_31 (by decide) ?_
  refine va_put (D := (dC, dI)) (ci := 2) (v := .int (nI 0)) (ty := .int) (C := RX2) (T := TX2) (N := 5) hx hb hts sf_inX2 tyX2 tyX2_ok nmX2 hown hK hP hD hS 0 rfl rfl 3 (by decide) (hts _ (sf_mem fl_X2_26 rfl)) (fun _ h9 => h9) rfl (by decide +kernel) rfl rfl (Nat.le_of_ble_eq_true rfl) dX2_init_32 (fun H locs hP hD hS => ?_)
  have hP : va_P (dC, dI) vwCl ([(a0, .inr (2, [.ref a1, .ref a3, .null, .int (nI 0), .int 0])), (a1, .inr (0, [.ref a2, .int (nI 0), .int (nI 0), .null, .null])), (a2, .inl (cB, 400000, .inl (fun _ => 0))), (a3, .inl (cT, 20000, .inr (.inr (.inr (.inr (fun _ => none))))))]) H := hP
  have hD : va_D A ([(a0, .inr (2, [.ref a1, .ref a3, .null, .int (nI 0), .int 0])), (a1, .inr (0, [.ref a2, .int (nI 0), .int (nI 0), .null, .null])), (a2, .inl (cB, 400000, .inl (fun _ => 0))), (a3, .inl (cT, 20000, .inr (.inr (.inr (.inr (fun _ => none))))))]) := hD
  refine lv_aload_n hx hb dX2_init_35 rfl (lv_at hl 0 rfl) ?_
  refine lv_iconst (v := nI 0) hx hb dX2_init_36 (by decide) ?_
  refine va_put (D := (dC, dI)) (ci := 2) (v := .int (nI 0)) (ty := .int) (C := RX2) (T := TX2) (N := 5) hx hb hts sf_inX2 tyX2 tyX2_ok nmX2 hown hK hP hD hS 0 rfl rfl 4 (by decide) (hts _ (sf_mem fl_X2_30 rfl)) (fun _ h9 => h9) rfl (by decide +kernel) rfl rfl (Nat.le_of_ble_eq_true rfl) dX2_init_37 (fun H locs hP hD hS => ?_)
  have hP : va_P (dC, dI) vwCl ([(a0, .inr (2, [.ref a1, .ref a3, .null, .int (nI 0), .int (nI 0)])), (a1, .inr (0, [.ref a2, .int (nI 0), .int (nI 0), .null, .null])), (a2, .inl (cB, 400000, .inl (fun _ => 0))), (a3, .inl (cT, 20000, .inr (.inr (.inr (.inr (fun _ => none))))))]) H := hP
  have hD : va_D A ([(a0, .inr (2, [.ref a1, .ref a3, .null, .int (nI 0), .int (nI 0)])), (a1, .inr (0, [.ref a2, .int (nI 0), .int (nI 0), .null, .null])), (a2, .inl (cB, 400000, .inl (fun _ => 0))), (a3, .inl (cT, 20000, .inr (.inr (.inr (.inr (fun _ => none))))))]) := hD
  exact W.vret hx hb hr (fun t ht hW => ⟨⟨(a1, a2, a3, cB, cT), rfl, trivial, by rw [ht]; exact hP, va_K.moved hW.alike hK, hD⟩, hS.F ht⟩) hS.2.2 dX2_init_40
end
section
/-! the world of the reference, and what it stands for -/
abbrev mw_w (b0 b1 b2 b3 b4 : Nat) (d1 d2 d3 d4 : ClassId) (us nu bm tn : Nat) (g za : Nat → Int32) (ss bk : Nat → Nat) : va_W :=
  [(b0, .inr (3, [.ref b1, .int (nI us), .ref b2, .ref b3, .int (nI nu), .ref b4, .int (nI bm), .int (nI tn)])), (b1, .inl (d1, 400000, .inl g)), (b2, .inl (d2, 20000, .inl (fun k => nI (ss k)))), (b3, .inl (d3, 20000, .inl za)), (b4, .inl (d4, 20000, .inl (fun k => nI (bk k))))]
theorem mw_updN {f : Nat → Nat} {i v : Nat} : upd (fun k => nI (f k)) i (nI v) = fun k => nI (va_up f i v k) := by
  funext k
  by_cases h : k = i <;> simp [upd, va_up, h]
section MJ
variable {p : Program} {l : Launch} {e : Env} {R : Room} {s : State} {m : MethodId} {args : Array Value} {below : List Frame} {meth : Method} {c : Code} {H : Heap} {locs : List Loc} {cells slots : Nat} {Q : State → Prop} {pc : Nat} {ls : Array Slot} {st0 : List Value}
/-- paths that meet again -/
theorem sf_meet (pc2 : Nat) (I : Heap → List Loc → Array Slot → Prop) (tail : ∀ (H : Heap) (locs : List Loc) (ls : Array Slot), I H locs ls → W p l e R s m args below meth c H locs cells slots Q (F0 m pc2 ls [])) (body : (∀ (H : Heap) (locs : List Loc) (ls : Array Slot), I H locs ls → W p l e R s m args below meth c H locs cells slots Q (F0 m pc2 ls [])) → W p l e R s m args below meth c H locs cells slots Q (F0 m pc ls st0)) : W p l e R s m args below meth c H locs cells slots Q (F0 m pc ls st0) := body tail
end MJ
/-- the sum of f below n -/
def mw_sum (f : Nat → Nat) : Nat → Nat
  | 0 => 0
  | n + 1 => mw_sum f n + f n
theorem mw_sum_congr {f h : Nat → Nat} : ∀ {n : Nat}, (∀ k, k < n → f k = h k) → mw_sum f n = mw_sum h n
  | 0, _ => rfl
  | n + 1, q => by
    show mw_sum f n + f n = mw_sum h n + h n
    rw [mw_sum_congr (fun k hk => q k (by omega)), q n (by omega)]
theorem mw_sum_le {f h : Nat → Nat} : ∀ {n : Nat}, (∀ k, k < n → f k ≤ h k) → mw_sum f n ≤ mw_sum h n
  | 0, _ => Nat.le_refl _
  | n + 1, q => by
    show mw_sum f n + f n ≤ mw_sum h n + h n
    have := mw_sum_le (fun k hk => q k (by omega) : ∀ k, k < n → f k ≤ h k)
    have := q n (by omega)
    omega
theorem mw_sum_up {f : Nat → Nat} {k v : Nat} : ∀ {n : Nat}, k < n → mw_sum (va_up f k v) n + f k = mw_sum f n + v
  | n + 1, h => by
    show mw_sum (va_up f k v) n + va_up f k v n + f k = mw_sum f n + f n + v
    by_cases q : k = n
    · subst q
      rw [va_up_self, mw_sum_congr (h := f) (fun j hj => va_up_ne _ _ (by omega))]
      omega
    · rw [va_up_ne _ _ (by omega)]
      have := mw_sum_up (f := f) (v := v) (show k < n by omega)
      omega
/-- the layout: rows with bytes lie apart, below us; us is their bytes' number -/
def mw_L (us nu : Nat) (ln ss : Nat → Nat) : Prop := us = mw_sum ln nu ∧ (∀ k, k < nu → 0 < ln k → ss k + ln k ≤ us) ∧ ∀ j k, j < nu → k < nu → j ≠ k → 0 < ln j → 0 < ln k → ss j + ln j ≤ ss k ∨ ss k + ln k ≤ ss j
/-- the bytes behind a change at e by n - old -/
def mw_B (g g2 : Nat → Int32) (e us n old : Nat) : Prop := (n ≤ old ∧ ∀ p, g2 p = if e + n - old ≤ p ∧ p < us + n - old then g (p + (old - n)) else g p) ∨ (old ≤ n ∧ ∀ p, g2 p = if e + (n - old) ≤ p ∧ p < us + (n - old) then g (p - (n - old)) else if e ≤ p ∧ p < e + (n - old) then 0 else g p)
/-- the starts behind a shift -/
def mw_sh (nu n old b : Nat) (ln ss : Nat → Nat) : Nat → Nat := fun k => if k < nu ∧ 0 < ln k ∧ b < ss k then ss k + n - old else ss k
/-- a change of row k from ln k to n bytes -/
theorem mw_change {us nu n k : Nat} {ln ss : Nat → Nat} {g g2 : Nat → Int32} (hL : mw_L us nu ln ss) (hk : k < nu) (b : Nat) (hb : b = if ln k = 0 then us else ss k) (hB : mw_B g g2 (b + ln k) us n (ln k)) (hF : sb_Fit g) (hus : us ≤ 400000) :
    (∀ x, x < nu → 0 < ln x → b < va_up ss k b x → x ≠ k ∧ b + ln k ≤ ss x) ∧ mw_L (us + n - ln k) nu (va_up ln k n) (mw_sh nu n (ln k) b ln (va_up ss k b)) ∧ mw_sh nu n (ln k) b ln (va_up ss k b) k = b ∧
    (∀ j, j < nu → j ≠ k → ∀ i, i < ln j → g2 (mw_sh nu n (ln k) b ln (va_up ss k b) j + i) = g (ss j + i)) ∧ (∀ i, i < n → g2 (b + i) = if i < ln k then g (ss k + i) else 0) ∧ sb_Fit g2 := by
  obtain ⟨h1, h2, h3⟩ := hL
  have hbk : b + ln k ≤ us := by
    rw [hb]
    split
    · omega
    · exact h2 k hk (by omega)
  have hout : ∀ x, x < nu → x ≠ k → 0 < ln x → (b + ln k ≤ ss x ∧ ss x + ln x ≤ us) ∨ (ss x + ln x ≤ b) := by
    intro x hx hne hl
    have q := h2 x hx hl
    rw [hb]
    split
    · exact Or.inr q
    · rcases h3 x k hx hk hne hl (by omega) with e | e
      · exact Or.inr e
      · exact Or.inl ⟨e, q⟩
  have hshk : mw_sh nu n (ln k) b ln (va_up ss k b) k = b := by
    unfold mw_sh
    rw [va_up_self, if_neg (by omega)]
  have hshx : ∀ x, x < nu → x ≠ k → 0 < ln x → (b + ln k ≤ ss x ∧ mw_sh nu n (ln k) b ln (va_up ss k b) x = ss x + n - ln k) ∨ (ss x + ln x ≤ b ∧ mw_sh nu n (ln k) b ln (va_up ss k b) x = ss x) := by
    intro x hx hne hl
    unfold mw_sh
    rw [va_up_ne _ _ hne]
    rcases hout x hx hne hl with ⟨e, -⟩ | e
    · by_cases q : b < ss x
      · rw [if_pos ⟨hx, hl, q⟩]; exact Or.inl ⟨e, rfl⟩
      · have e0 : ln k = 0 := by omega
        rw [hb, if_pos e0] at e
        have := h2 x hx hl
        omega
    · rw [if_neg (by omega)]; exact Or.inr ⟨e, rfl⟩
  have hsum := mw_sum_up (f := ln) (v := n) hk
  refine ⟨?_, ⟨?_, ?_, ?_⟩, hshk, ?_, ?_, ?_⟩
  · intro x hx hl hlt
    have hne : x ≠ k := fun q => by rw [q, va_up_self] at hlt; omega
    rw [va_up_ne _ _ hne] at hlt
    refine ⟨hne, ?_⟩
    rcases hout x hx hne hl with e | e
    · exact e.1
    · omega
  · omega
  · intro x hx hl
    by_cases q : x = k
    · subst q
      rw [hshk, va_up_self]
      omega
    · rw [va_up_ne _ _ q] at hl ⊢
      have q2 := h2 x hx hl
      rcases hshx x hx q hl with ⟨e, e2⟩ | ⟨e, e2⟩ <;> rw [e2] <;> omega
  · intro x y hx hy hne hlx hly
    by_cases qx : x = k
    · subst qx
      rw [va_up_ne _ _ (Ne.symm hne)] at hly
      rw [hshk, va_up_self, va_up_ne _ _ (Ne.symm hne)]
      rcases hshx y hy (Ne.symm hne) hly with ⟨e, e2⟩ | ⟨e, e2⟩ <;> rw [e2] <;> omega
    · by_cases qy : y = k
      · subst qy
        rw [va_up_ne _ _ hne] at hlx
        rw [hshk, va_up_self, va_up_ne _ _ hne]
        rcases hshx x hx hne hlx with ⟨e, e2⟩ | ⟨e, e2⟩ <;> rw [e2] <;> omega
      · rw [va_up_ne _ _ qx] at hlx
        rw [va_up_ne _ _ qy] at hly
        rw [va_up_ne _ _ qx, va_up_ne _ _ qy]
        have q := h3 x y hx hy hne hlx hly
        rcases hshx x hx qx hlx with ⟨e, e2⟩ | ⟨e, e2⟩ <;> rcases hshx y hy qy hly with ⟨e3, e4⟩ | ⟨e3, e4⟩ <;> rw [e2, e4] <;> omega
  · intro j hj hne i hi
    have q2 := h2 j hj (by omega)
    rcases hshx j hj hne (by omega) with ⟨e, e2⟩ | ⟨e, e2⟩
    · rw [e2]
      rcases hB with ⟨hn, hB⟩ | ⟨hn, hB⟩
      · rw [hB, if_pos (by omega)]
        congr 1
        omega
      · rw [hB, if_pos (by omega)]
        congr 1
        omega
    · rw [e2]
      rcases hB with ⟨hn, hB⟩ | ⟨hn, hB⟩
      · rw [hB, if_neg (by omega)]
      · rw [hB, if_neg (by omega), if_neg (by omega)]
  · intro i hi
    by_cases q : i < ln k
    · have hbs : b = ss k := by rw [hb, if_neg (by omega)]
      rw [if_pos q, ← hbs]
      rcases hB with ⟨hn, hB⟩ | ⟨hn, hB⟩
      · rw [hB, if_neg (by omega)]
      · rw [hB, if_neg (by omega), if_neg (by omega)]
    · rw [if_neg q]
      rcases hB with ⟨hn, hB⟩ | ⟨hn, hB⟩
      · omega
      · rw [hB, if_neg (by omega), if_pos (by omega)]
  · intro j
    rcases hB with ⟨hn, hB⟩ | ⟨hn, hB⟩
    · rw [hB]; split <;> exact hF _
    · rw [hB]
      split
      · exact hF _
      · split
        · decide
        · exact hF _
end
section
/-! the reference: isRow, placesOf, many, hasRoom, shift, change -/
set_option maxHeartbeats 4000000 in
set_option maxRecDepth 100000 in
theorem m_placesOf (l : Launch) (n : Nat) (hn : n ≤ 16384) : Met l yX3_placesOf wsX3_placesOf ({ frames := 0, cells := 0, slots := 0, locals := 0 } : Room) (sf_PreT [.int (nI n)]) (vp_Si (fun r => r = nI (sf_P n))) 0 0 (fun _ => False) := by
  refine Met.ofW (cc := cX3_placesOf) (maxL := 1) (ret := (some .int)) (by decide) rfl ?_
  intro p e s m args below meth c s₁ B hml hv
  obtain ⟨rfl, -⟩ := hv
  have hx := B.exec
  have hb := B.bytes
  have hr := B.returns
  have hts := atoms_spec (ws := wsX3_placesOf) B.pre
  have hown : s.vm.findClass RX3 = some m.cls := findClass_of_methodNamed B.named
  have hlocks := B.notSynchronized
  have hl := lv_entry ([.int (nI n)]) (n := 1) (Nat.le_of_ble_eq_true rfl)
  rw [lg_entry_eq]
  generalize (lg_sl ([.int (nI n)]) ++ List.replicate (1 - (lg_sl ([.int (nI n)])).length) Slot.unset).toArray = ls at hl ⊢
  have hl : lv_has ls 1 [(0, .int (nI n))] := hl
  refine lv_iload_n hx hb dX3_placesOf_0 rfl (lv_at hl 0 rfl) ?_
  refine lv_bipush (v := nI 7) hx hb dX3_placesOf_1 (by decide) ?_
  refine sf_iadd hx hb dX3_placesOf_3 ?_
  refine lv_bipush (v := nI 8) hx hb dX3_placesOf_4 (by decide) ?_
  refine sf_idiv hx hb (by omega) (by omega) (by omega) dX3_placesOf_6 ?_
  refine lv_bipush (v := nI 8) hx hb dX3_placesOf_7 (by decide) ?_
  refine sf_imul hx hb dX3_placesOf_9 ?_
  exact W.iret (v := nI ((n + 7) / 8 * 8)) hx hb hr (fun t ht hW => ⟨_, rfl, rfl, ht⟩) sf_noloc dX3_placesOf_10
set_option maxHeartbeats 4000000 in
set_option maxRecDepth 100000 in
/-- isRow(row) -/
theorem m_isRow (l : Launch) (dC : Nat → ClassId) (dI : Nat → Nat → Nat) (b0 b1 b2 b3 b4 : Nat) (d1 d2 d3 d4 : ClassId) (us nu bm tn : Nat) (g za : Nat → Int32) (ss bk : Nat → Nat) (sz : Nat) (row : Int32) (hnu : nu ≤ 20000) : Met l yX3_isRow wsX3_isRow ({ frames := 0, cells := 0, slots := 0, locals := 0 } : Room) (sf_Pre (dC, dI) vwCl [(d1, .byte), (d2, .int), (d3, .int), (d4, .int)] [.ref b0, .int row] (mw_w b0 b1 b2 b3 b4 d1 d2 d3 d4 us nu bm tn g za ss bk) sz) (vp_Si (fun r => (r = nI 1 ∧ ∃ k : Nat, k < nu ∧ row = nI k ∧ ¬ za k < 0) ∨ (r = nI 0 ∧ ∀ k : Nat, k < nu → row = nI k → za k < 0))) 0 0 (fun _ => False) := by
  refine Met.ofW (cc := cX3_isRow) (maxL := 2) (ret := (some .boolean)) (by decide) rfl ?_
  intro p e s m args below meth c s₁ B hml hv
  obtain ⟨rfl, hsz, hP, hK, hD0, hN⟩ := hv
  have hx := B.exec
  have hb := B.bytes
  have hr := B.returns
  have hts := atoms_spec (ws := wsX3_isRow) B.pre
  have hown : s.vm.findClass RX3 = some m.cls := findClass_of_methodNamed B.named
  have hlocks := B.notSynchronized
  subst hsz
  have hD := hD0.self (sz := s.heap.size)
  generalize hAe : va_A (mw_w b0 b1 b2 b3 b4 d1 d2 d3 d4 us nu bm tn g za ss bk) s.heap.size = A at hD ⊢
  have hA : ∀ q : Nat, s.heap.size ≤ q → A q := fun q h => by rw [← hAe]; exact Or.inr h
  have hS : va_S A s.heap s.heap [] := va_S.rf
  have hl := lv_entry ([.ref b0, .int row]) (n := 2) (Nat.le_of_ble_eq_true rfl)
  rw [lg_entry_eq]
  generalize (lg_sl ([.ref b0, .int row]) ++ List.replicate (2 - (lg_sl ([.ref b0, .int row])).length) Slot.unset).toArray = ls at hl ⊢
  have hl : lv_has ls 2 [(0, .ref b0), (1, .int row)] := hl
  refine lv_iload_n hx hb dX3_isRow_0 rfl (lv_at hl 1 rfl) ?_
  refine lv_if_lt (tgt := 25) hx hb dX3_isRow_1 (by decide) (fun c_1 => ?_) (fun c_1 => ?_)
  · have hno : ∀ k : Nat, k < nu → row = nI k → za k < 0 := fun k hk q => absurd (by rw [q] at c_1; exact c_1) (nI_pos (n := k) (by omega))
    refine lv_iconst (v := nI 0) hx hb dX3_isRow_25 (by decide) ?_
    exact W.zret (v := nI 0) hx hb hr (by decide) (fun t ht hW => ⟨_, rfl, Or.inr ⟨rfl, hno⟩, ht⟩) sf_noloc dX3_isRow_26
  · obtain ⟨k, hk0, rfl⟩ := nI_of c_1
    refine lv_iload_n hx hb dX3_isRow_4 rfl (lv_at hl 1 rfl) ?_
    refine lv_aload_n hx hb dX3_isRow_5 rfl (lv_at hl 0 rfl) ?_
    refine va_get (D := (dC, dI)) (ci := 3) (v := .int (nI nu)) (C := RX3) (T := TX3) (N := 8) hx hb hts sf_inX3 hown hK hP 0 rfl rfl 4 (by decide) (hts _ (sf_mem fl_X3_24 rfl)) (fun _ h9 => h9) rfl dX3_isRow_6 ?_
    refine sf_icmp_ge (tgt := 25) hx hb (by omega) (by omega) dX3_isRow_9 (by decide) (fun c_9 => ?_) (fun c_9 => ?_)
    · have hno : ∀ k2 : Nat, k2 < nu → nI k = nI k2 → za k2 < 0 := fun k2 hk q => by
        have := (nI_eq hk0 (by omega)).mp q
        omega
      refine lv_iconst (v := nI 0) hx hb dX3_isRow_25 (by decide) ?_
      exact W.zret (v := nI 0) hx hb hr (by decide) (fun t ht hW => ⟨_, rfl, Or.inr ⟨rfl, hno⟩, ht⟩) sf_noloc dX3_isRow_26
    · refine lv_aload_n hx hb dX3_isRow_12 rfl (lv_at hl 0 rfl) ?_
      refine va_get (D := (dC, dI)) (ci := 3) (v := .ref b3) (C := RX3) (T := TX3) (N := 8) hx hb hts sf_inX3 hown hK hP 0 rfl rfl 3 (by decide) (hts _ (sf_mem fl_X3_18 rfl)) (fun _ h9 => h9) rfl dX3_isRow_13 ?_
      refine lv_iload_n hx hb dX3_isRow_16 rfl (lv_at hl 1 rfl) ?_
      refine sf_iald hx hb hK hP 3 2 rfl rfl (by omega) (by decide) dX3_isRow_17 ?_
      refine lv_if_lt (tgt := 25) hx hb dX3_isRow_18 (by decide) (fun c_18 => ?_) (fun c_18 => ?_)
      · have hno : ∀ k2 : Nat, k2 < nu → nI k = nI k2 → za k2 < 0 := fun k2 hk q => by
          rw [← (nI_eq hk0 (by omega)).mp q]
          exact c_18
        refine lv_iconst (v := nI 0) hx hb dX3_isRow_25 (by decide) ?_
        exact W.zret (v := nI 0) hx hb hr (by decide) (fun t ht hW => ⟨_, rfl, Or.inr ⟨rfl, hno⟩, ht⟩) sf_noloc dX3_isRow_26
      · refine lv_iconst (v := nI 1) hx hb dX3_isRow_21 (by decide) ?_
        refine lv_goto (tgt := 26) hx hb dX3_isRow_22 (by decide) ?_
        exact W.zret (v := nI 1) hx hb hr (by decide) (fun t ht hW => ⟨_, rfl, Or.inl ⟨rfl, k, c_9, rfl, c_18⟩, ht⟩) sf_noloc dX3_isRow_26
set_option maxHeartbeats 4000000 in
set_option maxRecDepth 100000 in
/-- many() -/
theorem m_many (l : Launch) (dC : Nat → ClassId) (dI : Nat → Nat → Nat) (b0 b1 b2 b3 b4 : Nat) (d1 d2 d3 d4 : ClassId) (us nu bm tn : Nat) (g za : Nat → Int32) (ss bk : Nat → Nat) (sz : Nat) (hbm : bm ≤ nu) : Met l yX3_many wsX3_many ({ frames := 0, cells := 0, slots := 0, locals := 0 } : Room) (sf_Pre (dC, dI) vwCl [(d1, .byte), (d2, .int), (d3, .int), (d4, .int)] [.ref b0] (mw_w b0 b1 b2 b3 b4 d1 d2 d3 d4 us nu bm tn g za ss bk) sz) (vp_Si (fun r => r = nI (nu - bm))) 0 0 (fun _ => False) := by
  refine Met.ofW (cc := cX3_many) (maxL := 1) (ret := (some .int)) (by decide) rfl ?_
  intro p e s m args below meth c s₁ B hml hv
  obtain ⟨rfl, hsz, hP, hK, hD0, hN⟩ := hv
  have hx := B.exec
  have hb := B.bytes
  have hr := B.returns
  have hts := atoms_spec (ws := wsX3_many) B.pre
  have hown : s.vm.findClass RX3 = some m.cls := findClass_of_methodNamed B.named
  have hlocks := B.notSynchronized
  subst hsz
  have hD := hD0.self (sz := s.heap.size)
  generalize hAe : va_A (mw_w b0 b1 b2 b3 b4 d1 d2 d3 d4 us nu bm tn g za ss bk) s.heap.size = A at hD ⊢
  have hA : ∀ q : Nat, s.heap.size ≤ q → A q := fun q h => by rw [← hAe]; exact Or.inr h
  have hS : va_S A s.heap s.heap [] := va_S.rf
  have hl := lv_entry ([.ref b0]) (n := 1) (Nat.le_of_ble_eq_true rfl)
  rw [lg_entry_eq]
  generalize (lg_sl ([.ref b0]) ++ List.replicate (1 - (lg_sl ([.ref b0])).length) Slot.unset).toArray = ls at hl ⊢
  have hl : lv_has ls 1 [(0, .ref b0)] := hl
  refine lv_aload_n hx hb dX3_many_0 rfl (lv_at hl 0 rfl) ?_
  refine va_get (D := (dC, dI)) (ci := 3) (v := .int (nI nu)) (C := RX3) (T := TX3) (N := 8) hx hb hts sf_inX3 hown hK hP 0 rfl rfl 4 (by decide) (hts _ (sf_mem fl_X3_24 rfl)) (fun _ h9 => h9) rfl dX3_many_1 ?_
  refine lv_aload_n hx hb dX3_many_4 rfl (lv_at hl 0 rfl) ?_
  refine va_get (D := (dC, dI)) (ci := 3) (v := .int (nI bm)) (C := RX3) (T := TX3) (N := 8) hx hb hts sf_inX3 hown hK hP 0 rfl rfl 6 (by decide) (hts _ (sf_mem fl_X3_28 rfl)) (fun _ h9 => h9) rfl dX3_many_5 ?_
  refine sf_isub hx hb (by omega) dX3_many_8 ?_
  exact W.iret (v := nI (nu - bm)) hx hb hr (fun t ht hW => ⟨_, rfl, rfl, ht⟩) sf_noloc dX3_many_9
set_option maxHeartbeats 4000000 in
set_option maxRecDepth 100000 in
/-- hasRoom(row, n) -/
theorem m_hasRoom (l : Launch) (dC : Nat → ClassId) (dI : Nat → Nat → Nat) (b0 b1 b2 b3 b4 : Nat) (d1 d2 d3 d4 : ClassId) (us nu bm tn : Nat) (g za : Nat → Int32) (ss bk : Nat → Nat) (sz : Nat) (k n old : Nat) (hk : k < 20000) (hza : za k = nI old) (ho : old ≤ 16384) (hn : n ≤ 16384) (htn : tn ≤ 400000) : Met l yX3_hasRoom wsX3_hasRoom ({ frames := 1, cells := 0, slots := 0, locals := 30 } : Room) (sf_Pre (dC, dI) vwCl [(d1, .byte), (d2, .int), (d3, .int), (d4, .int)] [.ref b0, .int (nI k), .int (nI n)] (mw_w b0 b1 b2 b3 b4 d1 d2 d3 d4 us nu bm tn g za ss bk) sz) (vp_Si (fun r => (r = nI 1 ∧ (sf_P n ≤ sf_P old ∨ tn + sf_P n ≤ 400000)) ∨ (r = nI 0 ∧ sf_P old < sf_P n ∧ 400000 < tn + sf_P n))) 0 0 (fun _ => False) := by
  refine Met.ofW (cc := cX3_hasRoom) (maxL := 3) (ret := (some .boolean)) (by decide) rfl ?_
  intro p e s m args below meth c s₁ B hml hv
  obtain ⟨rfl, hsz, hP, hK, hD0, hN⟩ := hv
  have hx := B.exec
  have hb := B.bytes
  have hr := B.returns
  have hts := atoms_spec (ws := wsX3_hasRoom) B.pre
  have hown : s.vm.findClass RX3 = some m.cls := findClass_of_methodNamed B.named
  have hlocks := B.notSynchronized
  subst hsz
  have hD := hD0.self (sz := s.heap.size)
  generalize hAe : va_A (mw_w b0 b1 b2 b3 b4 d1 d2 d3 d4 us nu bm tn g za ss bk) s.heap.size = A at hD ⊢
  have hA : ∀ q : Nat, s.heap.size ≤ q → A q := fun q h => by rw [← hAe]; exact Or.inr h
  have hS : va_S A s.heap s.heap [] := va_S.rf
  have hl := lv_entry ([.ref b0, .int (nI k), .int (nI n)]) (n := 3) (Nat.le_of_ble_eq_true rfl)
  rw [lg_entry_eq]
  generalize (lg_sl ([.ref b0, .int (nI k), .int (nI n)]) ++ List.replicate (3 - (lg_sl ([.ref b0, .int (nI k), .int (nI n)])).length) Slot.unset).toArray = ls at hl ⊢
  have hl : lv_has ls 3 [(0, .ref b0), (1, .int (nI k)), (2, .int (nI n))] := hl
  have hP1 := sf_P_le hn
  have hP2 := sf_P_le ho
  refine lv_iload_n hx hb dX3_hasRoom_0 rfl (lv_at hl 2 rfl) ?_
  refine vp_callSi (va_Run.run (sf_runS (As := [.int (nI n)]) (rest := []) ⟨hx, hb, hml, hown, hts⟩ sf_has (m_placesOf l n (by omega)) k_X3_38 ⟨sf_blindT, sf_preT⟩ rfl hl.1 (Nat.le_of_ble_eq_true rfl) ⟨(Nat.le_of_ble_eq_true rfl), (Nat.le_of_ble_eq_true rfl)⟩ ⟨rfl, rfl⟩ ⟨Nat.zero_le _, Nat.zero_le _⟩ dX3_hasRoom_1)) (fun r_1 h_1 => ?_)
  subst h_1
  refine lv_aload_n hx hb dX3_hasRoom_4 rfl (lv_at hl 0 rfl) ?_
  refine va_get (D := (dC, dI)) (ci := 3) (v := .ref b3) (C := RX3) (T := TX3) (N := 8) hx hb hts sf_inX3 hown hK hP 0 rfl rfl 3 (by decide) (hts _ (sf_mem fl_X3_18 rfl)) (fun _ h9 => h9) rfl dX3_hasRoom_5 ?_
  refine lv_iload_n hx hb dX3_hasRoom_8 rfl (lv_at hl 1 rfl) ?_
  refine sf_iald hx hb hK hP 3 2 rfl rfl (by omega) (by decide) dX3_hasRoom_9 ?_
  rw [hza]
  refine vp_callSi (va_Run.run (sf_runS (As := [.int (nI old)]) (rest := [.int (nI (sf_P n))]) ⟨hx, hb, hml, hown, hts⟩ sf_has (m_placesOf l old (by omega)) k_X3_38 ⟨sf_blindT, sf_preT⟩ rfl hl.1 (Nat.le_of_ble_eq_true rfl) ⟨(Nat.le_of_ble_eq_true rfl), (Nat.le_of_ble_eq_true rfl)⟩ ⟨rfl, rfl⟩ ⟨Nat.zero_le _, Nat.zero_le _⟩ dX3_hasRoom_10)) (fun r_10 h_10 => ?_)
  subst h_10
  refine sf_icmp_le (tgt := 30) hx hb (by omega) (by omega) dX3_hasRoom_13 (by decide) (fun c_13 => ?_) (fun c_13 => ?_)
  · refine lv_iconst (v := nI 1) hx hb dX3_hasRoom_30 (by decide) ?_
    refine lv_goto (tgt := 35) hx hb dX3_hasRoom_31 (by decide) ?_
    exact W.zret (v := nI 1) hx hb hr (by decide) (fun t ht hW => ⟨_, rfl, Or.inl ⟨rfl, by omega⟩, ht⟩) sf_noloc dX3_hasRoom_35
  · refine lv_aload_n hx hb dX3_hasRoom_16 rfl (lv_at hl 0 rfl) ?_
    refine va_get (D := (dC, dI)) (ci := 3) (v := .int (nI tn)) (C := RX3) (T := TX3) (N := 8) hx hb hts sf_inX3 hown hK hP 0 rfl rfl 7 (by decide) (hts _ (sf_mem fl_X3_35 rfl)) (fun _ h9 => h9) rfl dX3_hasRoom_17 ?_
    refine lv_iload_n hx hb dX3_hasRoom_20 rfl (lv_at hl 2 rfl) ?_
    refine vp_callSi (va_Run.run (sf_runS (As := [.int (nI n)]) (rest := [.int (nI tn)]) ⟨hx, hb, hml, hown, hts⟩ sf_has (m_placesOf l n (by omega)) k_X3_38 ⟨sf_blindT, sf_preT⟩ rfl hl.1 (Nat.le_of_ble_eq_true rfl) ⟨(Nat.le_of_ble_eq_true rfl), (Nat.le_of_ble_eq_true rfl)⟩ ⟨rfl, rfl⟩ ⟨Nat.zero_le _, Nat.zero_le _⟩ dX3_hasRoom_21)) (fun r_21 h_21 => ?_)
    subst h_21
    refine sf_iadd hx hb dX3_hasRoom_24 ?_
    refine lv_ldc (v := nI 400000) hx hb hown (hts _ (sf_mem cn_X3_7 rfl)) dX3_hasRoom_25 ?_
    refine sf_icmp_gt (tgt := 34) hx hb (by omega) (by omega) dX3_hasRoom_27 (by decide) (fun c_27 => ?_) (fun c_27 => ?_)
    · refine lv_iconst (v := nI 0) hx hb dX3_hasRoom_34 (by decide) ?_
      exact W.zret (v := nI 0) hx hb hr (by decide) (fun t ht hW => ⟨_, rfl, Or.inr ⟨rfl, by omega, by omega⟩, ht⟩) sf_noloc dX3_hasRoom_35
    · refine lv_iconst (v := nI 1) hx hb dX3_hasRoom_30 (by decide) ?_
      refine lv_goto (tgt := 35) hx hb dX3_hasRoom_31 (by decide) ?_
      exact W.zret (v := nI 1) hx hb hr (by decide) (fun t ht hW => ⟨_, rfl, Or.inl ⟨rfl, by omega⟩, ht⟩) sf_noloc dX3_hasRoom_35
theorem mw_sh_0 {n old b : Nat} {ln ss : Nat → Nat} : mw_sh 0 n old b ln ss = ss := by
  funext k
  unfold mw_sh
  rw [if_neg (by omega)]
theorem mw_sh_at {n old b r : Nat} {ln ss : Nat → Nat} : mw_sh r n old b ln ss r = ss r := by
  unfold mw_sh
  rw [if_neg (by omega)]
theorem mw_sh_yes {n old b r : Nat} {ln ss : Nat → Nat} (h1 : 0 < ln r) (h2 : b < ss r) : va_up (mw_sh r n old b ln ss) r (ss r + n - old) = mw_sh (r + 1) n old b ln ss := by
  funext k
  by_cases q : k = r
  · subst q
    rw [va_up_self]
    unfold mw_sh
    rw [if_pos ⟨by omega, h1, h2⟩]
  · rw [va_up_ne _ _ q]
    unfold mw_sh
    by_cases e : k < r ∧ 0 < ln k ∧ b < ss k
    · rw [if_pos e, if_pos ⟨by omega, e.2⟩]
    · rw [if_neg e, if_neg (fun e2 => e ⟨by omega, e2.2⟩)]
theorem mw_sh_no {n old b r : Nat} {ln ss : Nat → Nat} (h : ¬ (0 < ln r ∧ b < ss r)) : va_up (mw_sh r n old b ln ss) r (ss r + 0) = mw_sh (r + 1) n old b ln ss := by
  funext k
  by_cases q : k = r
  · subst q
    rw [va_up_self]
    unfold mw_sh
    rw [if_neg (fun e => h e.2)]
    rfl
  · rw [va_up_ne _ _ q]
    unfold mw_sh
    by_cases e : k < r ∧ 0 < ln k ∧ b < ss k
    · rw [if_pos e, if_pos ⟨by omega, e.2⟩]
    · rw [if_neg e, if_neg (fun e2 => e ⟨by omega, e2.2⟩)]
set_option maxHeartbeats 4000000 in
set_option maxRecDepth 100000 in
/-- shift(b, n - old) -/
theorem m_shift (l : Launch) (dC : Nat → ClassId) (dI : Nat → Nat → Nat) (b0 b1 b2 b3 b4 : Nat) (d1 d2 d3 d4 : ClassId) (us nu bm tn : Nat) (g za : Nat → Int32) (ss bk : Nat → Nat) (sz : Nat) (b n old : Nat) (ln : Nat → Nat) (hnu : nu ≤ 20000) (hb0 : b ≤ 400000) (hz : ∀ r, r < nu → (za r ≤ 0 ↔ ln r = 0)) (hge : ∀ x, x < nu → 0 < ln x → b < ss x → old ≤ ss x) (hs : ∀ x, x < nu → 0 < ln x → ss x ≤ 400000) : Met l yX3_shift wsX3_shift ({ frames := 0, cells := 0, slots := 0, locals := 0 } : Room) (sf_Pre (dC, dI) vwCl [(d1, .byte), (d2, .int), (d3, .int), (d4, .int)] [.ref b0, .int (nI b), .int (nI n - nI old)] (mw_w b0 b1 b2 b3 b4 d1 d2 d3 d4 us nu bm tn g za ss bk) sz) (va_Qv (fun _ => True) (sf_E (dC, dI) vwCl (va_A (mw_w b0 b1 b2 b3 b4 d1 d2 d3 d4 us nu bm tn g za ss bk) sz) (fun (u : Unit) => mw_w b0 b1 b2 b3 b4 d1 d2 d3 d4 us nu bm tn g za (mw_sh nu n old b ln ss) bk)) (va_A (mw_w b0 b1 b2 b3 b4 d1 d2 d3 d4 us nu bm tn g za ss bk) sz)) 0 0 (va_A (mw_w b0 b1 b2 b3 b4 d1 d2 d3 d4 us nu bm tn g za ss bk) sz) := by
  refine Met.ofW (cc := cX3_shift) (maxL := 4) (ret := none) (by decide) rfl ?_
  intro p e s m args below meth c s₁ B hml hv
  obtain ⟨rfl, hsz, hP, hK, hD0, hN⟩ := hv
  have hx := B.exec
  have hb := B.bytes
  have hr := B.returns
  have hts := atoms_spec (ws := wsX3_shift) B.pre
  have hown : s.vm.findClass RX3 = some m.cls := findClass_of_methodNamed B.named
  have hlocks := B.notSynchronized
  subst hsz
  have hD := hD0.self (sz := s.heap.size)
  generalize hAe : va_A (mw_w b0 b1 b2 b3 b4 d1 d2 d3 d4 us nu bm tn g za ss bk) s.heap.size = A at hD ⊢
  have hA : ∀ q : Nat, s.heap.size ≤ q → A q := fun q h => by rw [← hAe]; exact Or.inr h
  have hS : va_S A s.heap s.heap [] := va_S.rf
  have hl := lv_entry ([.ref b0, .int (nI b), .int (nI n - nI old)]) (n := 4) (Nat.le_of_ble_eq_true rfl)
  rw [lg_entry_eq]
  generalize (lg_sl ([.ref b0, .int (nI b), .int (nI n - nI old)]) ++ List.replicate (4 - (lg_sl ([.ref b0, .int (nI b), .int (nI n - nI old)])).length) Slot.unset).toArray = ls at hl ⊢
  have hl : lv_has ls 4 [(0, .ref b0), (1, .int (nI b)), (2, .int (nI n - nI old))] := hl
  refine lv_iconst (v := nI 0) hx hb dX3_shift_0 (by decide) ?_
  refine lv_istore_n (lv' := [(3, .int (nI 0)), (0, .ref b0), (1, .int (nI b)), (2, .int (nI n - nI old))]) hx hb dX3_shift_1 rfl hl (by decide) rfl (fun ls hl => ?_)
  refine sf_loop (σ := Nat) (fun u => nu - u) (fun u H locs ls => u ≤ nu ∧ va_P (dC, dI) vwCl (mw_w b0 b1 b2 b3 b4 d1 d2 d3 d4 us nu bm tn g za (mw_sh u n old b ln ss) bk) H ∧ va_D A (mw_w b0 b1 b2 b3 b4 d1 d2 d3 d4 us nu bm tn g za (mw_sh u n old b ln ss) bk) ∧ va_S A s.heap H locs ∧ lv_has ls 4 [(0, .ref b0), (1, .int (nI b)), (2, .int (nI n - nI old)), (3, .int (nI u))]) ?_ 0 _ _ _ ?_
  · intro u H locs ls hI2 ih
    obtain ⟨r, rfl⟩ : ∃ r : Nat, r = u := ⟨u, rfl⟩
    obtain ⟨k1, hP, hD, hS, hl⟩ := hI2
    have hsr : mw_sh r n old b ln ss r = ss r := mw_sh_at
    refine lv_iload_n hx hb dX3_shift_2 rfl (lv_at hl 3 rfl) ?_
    refine lv_aload_n hx hb dX3_shift_3 rfl (lv_at hl 0 rfl) ?_
    refine va_get (D := (dC, dI)) (ci := 3) (v := .int (nI nu)) (C := RX3) (T := TX3) (N := 8) hx hb hts sf_inX3 hown hK hP 0 rfl rfl 4 (by decide) (hts _ (sf_mem fl_X3_24 rfl)) (fun _ h9 => h9) rfl dX3_shift_4 ?_
    refine sf_icmp_ge (tgt := 49) hx hb (by omega) (by omega) dX3_shift_7 (by decide) (fun c_7 => ?_) (fun c_7 => ?_)
    · have e9 : r = nu := by omega
      rw [e9] at hP hD
      exact W.vret hx hb hr (fun t ht hW => ⟨⟨(), rfl, trivial, by rw [ht]; exact hP, hD⟩, hS.F ht⟩) hS.2.2 dX3_shift_49
    · refine lv_aload_n hx hb dX3_shift_10 rfl (lv_at hl 0 rfl) ?_
      refine va_get (D := (dC, dI)) (ci := 3) (v := .ref b2) (C := RX3) (T := TX3) (N := 8) hx hb hts sf_inX3 hown hK hP 0 rfl rfl 2 (by decide) (hts _ (sf_mem fl_X3_14 rfl)) (fun _ h9 => h9) rfl dX3_shift_11 ?_
      refine lv_iload_n hx hb dX3_shift_14 rfl (lv_at hl 3 rfl) ?_
      refine lv_dup2_11 hx hb dX3_shift_15 rfl rfl ?_
      refine sf_iald hx hb hK hP 2 1 rfl rfl (by omega) (by decide) dX3_shift_16 ?_
      try dsimp only
      rw [hsr]
      refine lv_aload_n hx hb dX3_shift_17 rfl (lv_at hl 0 rfl) ?_
      refine va_get (D := (dC, dI)) (ci := 3) (v := .ref b3) (C := RX3) (T := TX3) (N := 8) hx hb hts sf_inX3 hown hK hP 0 rfl rfl 3 (by decide) (hts _ (sf_mem fl_X3_18 rfl)) (fun _ h9 => h9) rfl dX3_shift_18 ?_
      refine lv_iload_n hx hb dX3_shift_21 rfl (lv_at hl 3 rfl) ?_
      refine sf_iald hx hb hK hP 3 2 rfl rfl (by omega) (by decide) dX3_shift_22 ?_
      refine lv_if_le (tgt := 40) hx hb dX3_shift_23 (by decide) (fun c_23 => ?_) (fun c_23 => ?_)
      · have hno : ¬ (0 < ln r ∧ b < ss r) := by
          have := (hz r (by omega)).mp c_23
          omega
        refine lv_iconst (v := nI 0) hx hb dX3_shift_40 (by decide) ?_
        refine sf_iadd hx hb dX3_shift_41 ?_
        refine sf_iast hx hb hK hP hD hS 2 1 rfl rfl (by omega) (by decide) dX3_shift_42 (fun H locs hP hD hS => ?_)
        dsimp only [List.set] at hP hD
        rw [mw_updN] at hP hD
        have hP : va_P (dC, dI) vwCl (mw_w b0 b1 b2 b3 b4 d1 d2 d3 d4 us nu bm tn g za (va_up (mw_sh r n old b ln ss) r ((ss r) + 0)) bk) H := hP
        have hD : va_D A (mw_w b0 b1 b2 b3 b4 d1 d2 d3 d4 us nu bm tn g za (va_up (mw_sh r n old b ln ss) r ((ss r) + 0)) bk) := hD
        refine lv_iinc (v := nI (r + 1)) (lv' := [(3, .int (nI (r + 1))), (0, .ref b0), (1, .int (nI b)), (2, .int (nI n - nI old))]) hx hb dX3_shift_43 hl (k := 3) rfl (nI_1 r) (by decide) rfl (fun ls hl => ?_)
        refine lv_goto (tgt := 2) hx hb dX3_shift_46 (by decide) ?_
        rw [mw_sh_no hno] at hP hD
        exact ih (r + 1) _ _ _ (by omega) ⟨by omega, hP, hD, hS, lv_sub hl [1, 2, 3, 0] rfl⟩
      · have hl0 : 0 < ln r := Nat.pos_of_ne_zero (fun q => c_23 ((hz r (by omega)).mpr q))
        have hsb := hs r (by omega) hl0
        refine lv_aload_n hx hb dX3_shift_26 rfl (lv_at hl 0 rfl) ?_
        refine va_get (D := (dC, dI)) (ci := 3) (v := .ref b2) (C := RX3) (T := TX3) (N := 8) hx hb hts sf_inX3 hown hK hP 0 rfl rfl 2 (by decide) (hts _ (sf_mem fl_X3_14 rfl)) (fun _ h9 => h9) rfl dX3_shift_27 ?_
        refine lv_iload_n hx hb dX3_shift_30 rfl (lv_at hl 3 rfl) ?_
        refine sf_iald hx hb hK hP 2 1 rfl rfl (by omega) (by decide) dX3_shift_31 ?_
        try dsimp only
        rw [hsr]
        refine lv_iload_n hx hb dX3_shift_32 rfl (lv_at hl 1 rfl) ?_
        refine sf_icmp_le (tgt := 40) hx hb (by omega) (by omega) dX3_shift_33 (by decide) (fun c_33 => ?_) (fun c_33 => ?_)
        · have hno : ¬ (0 < ln r ∧ b < ss r) := by omega
          refine lv_iconst (v := nI 0) hx hb dX3_shift_40 (by decide) ?_
          refine sf_iadd hx hb dX3_shift_41 ?_
          refine sf_iast hx hb hK hP hD hS 2 1 rfl rfl (by omega) (by decide) dX3_shift_42 (fun H locs hP hD hS => ?_)
          dsimp only [List.set] at hP hD
          rw [mw_updN] at hP hD
          have hP : va_P (dC, dI) vwCl (mw_w b0 b1 b2 b3 b4 d1 d2 d3 d4 us nu bm tn g za (va_up (mw_sh r n old b ln ss) r ((ss r) + 0)) bk) H := hP
          have hD : va_D A (mw_w b0 b1 b2 b3 b4 d1 d2 d3 d4 us nu bm tn g za (va_up (mw_sh r n old b ln ss) r ((ss r) + 0)) bk) := hD
          refine lv_iinc (v := nI (r + 1)) (lv' := [(3, .int (nI (r + 1))), (0, .ref b0), (1, .int (nI b)), (2, .int (nI n - nI old))]) hx hb dX3_shift_43 hl (k := 3) rfl (nI_1 r) (by decide) rfl (fun ls hl => ?_)
          refine lv_goto (tgt := 2) hx hb dX3_shift_46 (by decide) ?_
          rw [mw_sh_no hno] at hP hD
          exact ih (r + 1) _ _ _ (by omega) ⟨by omega, hP, hD, hS, lv_sub hl [1, 2, 3, 0] rfl⟩
        · refine lv_iload_n hx hb dX3_shift_36 rfl (lv_at hl 2 rfl) ?_
          refine lv_goto (tgt := 41) hx hb dX3_shift_37 (by decide) ?_
          refine lv_iadd hx hb dX3_shift_41 ?_
          have hgr := hge r (by omega) hl0 c_33
          rw [sf_occ (by omega)]
          refine sf_iast hx hb hK hP hD hS 2 1 rfl rfl (by omega) (by decide) dX3_shift_42 (fun H locs hP hD hS => ?_)
          dsimp only [List.set] at hP hD
          rw [mw_updN] at hP hD
          have hP : va_P (dC, dI) vwCl (mw_w b0 b1 b2 b3 b4 d1 d2 d3 d4 us nu bm tn g za (va_up (mw_sh r n old b ln ss) r (ss r + n - old)) bk) H := hP
          have hD : va_D A (mw_w b0 b1 b2 b3 b4 d1 d2 d3 d4 us nu bm tn g za (va_up (mw_sh r n old b ln ss) r (ss r + n - old)) bk) := hD
          refine lv_iinc (v := nI (r + 1)) (lv' := [(3, .int (nI (r + 1))), (0, .ref b0), (1, .int (nI b)), (2, .int (nI n - nI old))]) hx hb dX3_shift_43 hl (k := 3) rfl (nI_1 r) (by decide) rfl (fun ls hl => ?_)
          refine lv_goto (tgt := 2) hx hb dX3_shift_46 (by decide) ?_
          rw [mw_sh_yes hl0 c_33] at hP hD
          exact ih (r + 1) _ _ _ (by omega) ⟨by omega, hP, hD, hS, lv_sub hl [1, 2, 3, 0] rfl⟩
  · exact ⟨Nat.zero_le _, by rw [mw_sh_0]; exact hP, by rw [mw_sh_0]; exact hD, hS, lv_sub hl [1, 2, 3, 0] rfl⟩
end
section
/-! the reference: change -/
theorem mw_nar {x : Int32} (h : fits .byte (.int x) = true) : vp_nar .byte x = x := by
  rw [vp_nar_byte]
  exact sf_fit_b h
theorem mw_dec (x : Int32) : x + Int32.ofInt (-1) = x - nI 1 := by
  rw [Int32.sub_eq_add_neg]
  rfl
theorem mw_dn {p e : Nat} (h1 : e ≤ p) (h2 : p ≤ 400000) : nI p - nI 1 < nI e ↔ p = e := by
  by_cases q : p = 0
  · subst q
    have : e = 0 := by omega
    subst this
    exact ⟨fun _ => rfl, fun _ => by decide⟩
  · rw [pk_sub (by omega), nI_ltI (by omega) (by omega)]
    omega
theorem mw_neg {n old : Nat} (h : n < old) (ho : old ≤ 16384) : nI n - nI old < 0 := pk_sneg (by omega) h
theorem mw_b1 {g g1 : Nat → Int32} {e old n p : Nat} (h : n < old) (he : old ≤ e) (hp : e ≤ p) (q : ∀ x, g1 x = if e + n - old ≤ x ∧ x < p + n - old then g (x + (old - n)) else g x) : ∀ x, upd g1 (p + n - old) (g1 p) x = if e + n - old ≤ x ∧ x < p + 1 + n - old then g (x + (old - n)) else g x := by
  intro x
  by_cases ex : x = p + n - old
  · subst ex
    rw [pk_us, if_pos (by omega), q p, if_neg (by omega)]
    congr 1
    omega
  · rw [pk_un ex, q x]
    by_cases e1 : e + n - old ≤ x ∧ x < p + n - old
    · rw [if_pos e1, if_pos (by omega)]
    · rw [if_neg e1, if_neg (by omega)]
theorem mw_b2 {g g1 : Nat → Int32} {d us p : Nat} (h : 0 < d) (hp : 0 < p) (hpu : p ≤ us) (q : ∀ x, g1 x = if p + d ≤ x ∧ x < us + d then g (x - d) else g x) : ∀ x, upd g1 (p - 1 + d) (g1 (p - 1)) x = if p - 1 + d ≤ x ∧ x < us + d then g (x - d) else g x := by
  intro x
  by_cases ex : x = p - 1 + d
  · subst ex
    rw [pk_us, if_pos (by omega), q (p - 1), if_neg (by omega)]
    congr 1
    omega
  · rw [pk_un ex, q x]
    by_cases e1 : p + d ≤ x ∧ x < us + d
    · rw [if_pos e1, if_pos (by omega)]
    · rw [if_neg e1, if_neg (by omega)]
theorem mw_b3 {g1 g3 : Nat → Int32} {e q : Nat} (he : e ≤ q) (h : ∀ x, g3 x = if e ≤ x ∧ x < q then 0 else g1 x) : ∀ x, upd g3 q (nI 0) x = if e ≤ x ∧ x < q + 1 then 0 else g1 x := by
  intro x
  by_cases ex : x = q
  · subst ex
    rw [pk_us, if_pos (by omega)]
    rfl
  · rw [pk_un ex, h x]
    by_cases e1 : e ≤ x ∧ x < q
    · rw [if_pos e1, if_pos (by omega)]
    · rw [if_neg e1, if_neg (by omega)]
/-- the two rising loops together -/
theorem mw_b4 {g g1 g3 : Nat → Int32} {e d us n old : Nat} (hd : n - old = d) (hn : old ≤ n) (h1 : ∀ x, (x < e → g1 x = g x) ∧ (e + d ≤ x → g1 x = if x < us + d then g (x - d) else g x)) (h3 : ∀ x, g3 x = if e ≤ x ∧ x < e + d then 0 else g1 x) : mw_B g g3 e us n old := by
  refine Or.inr ⟨hn, fun x => ?_⟩
  rw [hd, h3]
  by_cases q : e ≤ x ∧ x < e + d
  · rw [if_pos q, if_neg (by omega), if_pos q]
  · rw [if_neg q]
    by_cases q2 : x < e
    · rw [(h1 x).1 q2, if_neg (by omega), if_neg q]
    · rw [(h1 x).2 (by omega)]
      by_cases q3 : x < us + d
      · rw [if_pos q3, if_pos (by omega)]
      · rw [if_neg q3, if_neg (by omega), if_neg q]
theorem mw_b5 {g g1 : Nat → Int32} {e d us p : Nat} (hp : p = e ∨ d = 0) (hep : e ≤ p) (heu : e ≤ us) (q : ∀ x, g1 x = if p + d ≤ x ∧ x < us + d then g (x - d) else g x) : ∀ x, (x < e → g1 x = g x) ∧ (e + d ≤ x → g1 x = if x < us + d then g (x - d) else g x) := by
  intro x
  rw [q x]
  constructor
  · intro hx
    rw [if_neg (by omega)]
  · intro hx
    rcases hp with e1 | e1
    · subst e1
      by_cases q3 : x < us + d
      · rw [if_pos ⟨hx, q3⟩, if_pos q3]
      · rw [if_neg (by omega), if_neg q3]
    · subst e1
      simp
theorem mw_ss {us nu k b : Nat} {ln ss : Nat → Nat} (hL : mw_L us nu ln ss) (hk : k < nu) (hb : b = if ln k = 0 then us else ss k) (hus : us ≤ 400000) : ∀ x, x < nu → 0 < ln x → va_up ss k b x ≤ 400000 := by
  intro x hx h
  by_cases q : x = k
  · subst q
    rw [va_up_self, hb, if_neg (by omega)]
    have := hL.2.1 x hx h
    omega
  · rw [va_up_ne _ _ q]
    have := hL.2.1 x hx h
    omega
set_option maxHeartbeats 4000000 in
set_option maxRecDepth 100000 in
/-- change(row, n) -/
theorem m_change (l : Launch) (dC : Nat → ClassId) (dI : Nat → Nat → Nat) (b0 b1 b2 b3 b4 : Nat) (d1 d2 d3 d4 : ClassId) (us nu bm tn : Nat) (g za : Nat → Int32) (ss bk : Nat → Nat) (sz : Nat) (k n : Nat) (ln : Nat → Nat) (hL : mw_L us nu ln ss) (hk : k < nu) (hnu : nu ≤ 20000) (hz : ∀ r, r < nu → (za r ≤ 0 ↔ ln r = 0)) (hza : za k = nI (ln k)) (hln : ln k ≤ 16384) (hn : n ≤ 16384) (hF : sb_Fit g) (hus : us ≤ 400000) (hus2 : us + n ≤ 400000 + ln k) (htn : tn ≤ 400000) (htn2 : sf_P (ln k) ≤ tn + sf_P n) : Met l yX3_change wsX3_change ({ frames := 1, cells := 0, slots := 0, locals := 30 } : Room) (sf_Pre (dC, dI) vwCl [(d1, .byte), (d2, .int), (d3, .int), (d4, .int)] [.ref b0, .int (nI k), .int (nI n)] (mw_w b0 b1 b2 b3 b4 d1 d2 d3 d4 us nu bm tn g za ss bk) sz) (va_Qv (fun (u : (Nat → Int32) × (Nat → Nat)) => mw_L (us + n - ln k) nu (va_up ln k n) u.2 ∧ (∀ j, j < nu → j ≠ k → ∀ i, i < ln j → u.1 (u.2 j + i) = g (ss j + i)) ∧ (∀ i, i < n → u.1 (u.2 k + i) = if i < ln k then g (ss k + i) else 0) ∧ sb_Fit u.1) (sf_E (dC, dI) vwCl (va_A (mw_w b0 b1 b2 b3 b4 d1 d2 d3 d4 us nu bm tn g za ss bk) sz) (fun (u : (Nat → Int32) × (Nat → Nat)) => mw_w b0 b1 b2 b3 b4 d1 d2 d3 d4 (us + n - ln k) nu bm (tn + sf_P n - sf_P (ln k)) u.1 (upd za k (nI n)) u.2 bk)) (va_A (mw_w b0 b1 b2 b3 b4 d1 d2 d3 d4 us nu bm tn g za ss bk) sz)) 0 0 (va_A (mw_w b0 b1 b2 b3 b4 d1 d2 d3 d4 us nu bm tn g za ss bk) sz) := by
  refine Met.ofW (cc := cX3_change) (maxL := 7) (ret := none) (by decide) rfl ?_
  intro p e s m args below meth c s₁ B hml hv
  obtain ⟨rfl, hsz, hP, hK, hD0, hN⟩ := hv
  have hx := B.exec
  have hb := B.bytes
  have hr := B.returns
  have hts := atoms_spec (ws := wsX3_change) B.pre
  have hown : s.vm.findClass RX3 = some m.cls := findClass_of_methodNamed B.named
  have hlocks := B.notSynchronized
  subst hsz
  have hD := hD0.self (sz := s.heap.size)
  generalize hAe : va_A (mw_w b0 b1 b2 b3 b4 d1 d2 d3 d4 us nu bm tn g za ss bk) s.heap.size = A at hD ⊢
  have hA : ∀ q : Nat, s.heap.size ≤ q → A q := fun q h => by rw [← hAe]; exact Or.inr h
  have hS : va_S A s.heap s.heap [] := va_S.rf
  have hl := lv_entry ([.ref b0, .int (nI k), .int (nI n)]) (n := 7) (Nat.le_of_ble_eq_true rfl)
  rw [lg_entry_eq]
  generalize (lg_sl ([.ref b0, .int (nI k), .int (nI n)]) ++ List.replicate (7 - (lg_sl ([.ref b0, .int (nI k), .int (nI n)])).length) Slot.unset).toArray = ls at hl ⊢
  have hl : lv_has ls 7 [(0, .ref b0), (1, .int (nI k)), (2, .int (nI n))] := hl
  obtain ⟨b, hbb⟩ : ∃ b : Nat, b = if ln k = 0 then us else ss k := ⟨_, rfl⟩
  have hbk : b + ln k ≤ us := by
    rw [hbb]
    split
    · omega
    · exact hL.2.1 k hk (by omega)
  have hP1 := sf_P_le hn
  have hP2 := sf_P_le hln
  refine lv_aload_n hx hb dX3_change_0 rfl (lv_at hl 0 rfl) ?_
  refine va_get (D := (dC, dI)) (ci := 3) (v := .ref b3) (C := RX3) (T := TX3) (N := 8) hx hb hts sf_inX3 hown hK hP 0 rfl rfl 3 (by decide) (hts _ (sf_mem fl_X3_18 rfl)) (fun _ h9 => h9) rfl dX3_change_1 ?_
  refine lv_iload_n hx hb dX3_change_4 rfl (lv_at hl 1 rfl) ?_
  refine sf_iald hx hb hK hP 3 2 rfl rfl (by omega) (by decide) dX3_change_5 ?_
  rw [hza]
  refine lv_istore_n (lv' := [(3, .int (nI (ln k))), (0, .ref b0), (1, .int (nI k)), (2, .int (nI n))]) hx hb dX3_change_6 rfl hl (by decide) rfl (fun ls hl => ?_)
  refine lv_aload_n hx hb dX3_change_7 rfl (lv_at hl 1 rfl) ?_
  refine va_get (D := (dC, dI)) (ci := 3) (v := .ref b2) (C := RX3) (T := TX3) (N := 8) hx hb hts sf_inX3 hown hK hP 0 rfl rfl 2 (by decide) (hts _ (sf_mem fl_X3_14 rfl)) (fun _ h9 => h9) rfl dX3_change_8 ?_
  refine lv_iload_n hx hb dX3_change_11 rfl (lv_at hl 2 rfl) ?_
  refine lv_iload_n hx hb dX3_change_12 rfl (lv_at hl 0 rfl) ?_
  refine sf_meet 30 (fun H locs ls => va_P (dC, dI) vwCl (mw_w b0 b1 b2 b3 b4 d1 d2 d3 d4 us nu bm tn g za (va_up ss k b) bk) H ∧ va_D A (mw_w b0 b1 b2 b3 b4 d1 d2 d3 d4 us nu bm tn g za (va_up ss k b) bk) ∧ va_S A s.heap H locs ∧ lv_has ls 7 [(0, .ref b0), (1, .int (nI k)), (2, .int (nI n)), (3, .int (nI (ln k)))]) ?_ ?_
  · intro H locs ls hJ
    obtain ⟨hP, hD, hS, hl⟩ := hJ
    refine lv_aload_n hx hb dX3_change_30 rfl (lv_at hl 0 rfl) ?_
    refine va_get (D := (dC, dI)) (ci := 3) (v := .ref b2) (C := RX3) (T := TX3) (N := 8) hx hb hts sf_inX3 hown hK hP 0 rfl rfl 2 (by decide) (hts _ (sf_mem fl_X3_14 rfl)) (fun _ h9 => h9) rfl dX3_change_31 ?_
    refine lv_iload_n hx hb dX3_change_34 rfl (lv_at hl 1 rfl) ?_
    refine sf_iald hx hb hK hP 2 1 rfl rfl (by omega) (by decide) dX3_change_35 ?_
    try dsimp only
    rw [va_up_self]
    refine lv_iload_n hx hb dX3_change_36 rfl (lv_at hl 3 rfl) ?_
    refine sf_iadd hx hb dX3_change_37 ?_
    refine lv_istore (lv' := [(4, .int (nI (b + (ln k)))), (0, .ref b0), (1, .int (nI k)), (2, .int (nI n)), (3, .int (nI (ln k)))]) hx hb dX3_change_38 hl (by decide) rfl (fun ls hl => ?_)
    refine lv_iload_n hx hb dX3_change_40 rfl (lv_at hl 3 rfl) ?_
    refine lv_iload_n hx hb dX3_change_41 rfl (lv_at hl 4 rfl) ?_
    refine lv_isub hx hb dX3_change_42 ?_
    refine lv_istore (lv' := [(5, .int ((nI n) - (nI (ln k)))), (4, .int (nI (b + (ln k)))), (0, .ref b0), (1, .int (nI k)), (2, .int (nI n)), (3, .int (nI (ln k)))]) hx hb dX3_change_43 hl (by decide) rfl (fun ls hl => ?_)
    refine lv_iload hx hb dX3_change_45 (lv_at hl 1 rfl) ?_
    refine lv_istore (lv' := [(6, .int (nI (b + (ln k)))), (5, .int ((nI n) - (nI (ln k)))), (4, .int (nI (b + (ln k)))), (0, .ref b0), (1, .int (nI k)), (2, .int (nI n)), (3, .int (nI (ln k)))]) hx hb dX3_change_47 hl (by decide) rfl (fun ls hl => ?_)
    refine sf_meet 157 (fun H locs ls => ∃ g2 : Nat → Int32, mw_B g g2 (b + ln k) us n (ln k) ∧ va_P (dC, dI) vwCl (mw_w b0 b1 b2 b3 b4 d1 d2 d3 d4 us nu bm tn g2 za (va_up ss k b) bk) H ∧ va_D A (mw_w b0 b1 b2 b3 b4 d1 d2 d3 d4 us nu bm tn g2 za (va_up ss k b) bk) ∧ va_S A s.heap H locs ∧ lv_has ls 7 [(0, .ref b0), (1, .int (nI k)), (2, .int (nI n)), (3, .int (nI (ln k))), (4, .int (nI (b + ln k))), (5, .int (nI n - nI (ln k)))]) ?_ ?_
    · intro H locs ls hJ
      obtain ⟨g2, hB, hP, hD, hS, hl⟩ := hJ
      refine lv_aload_n hx hb dX3_change_157 rfl (lv_at hl 0 rfl) ?_
      refine lv_aload_n hx hb dX3_change_158 rfl (lv_at hl 0 rfl) ?_
      refine va_get (D := (dC, dI)) (ci := 3) (v := .ref b2) (C := RX3) (T := TX3) (N := 8) hx hb hts sf_inX3 hown hK hP 0 rfl rfl 2 (by decide) (hts _ (sf_mem fl_X3_14 rfl)) (fun _ h9 => h9) rfl dX3_change_159 ?_
      refine lv_iload_n hx hb dX3_change_162 rfl (lv_at hl 1 rfl) ?_
      refine sf_iald hx hb hK hP 2 1 rfl rfl (by omega) (by decide) dX3_change_163 ?_
      try dsimp only
      rw [va_up_self]
      refine lv_iload hx hb dX3_change_164 (lv_at hl 5 rfl) ?_
      obtain ⟨c1, c2, c3, c4, c5, c6⟩ := mw_change hL hk b hbb hB hF hus
      refine sf_cv (sf_runV (b := b0) (As := [.int (nI b), .int (nI n - nI (ln k))]) (rest := []) ⟨hx, hb, hml, hown, hts⟩ sf_has (m_shift l dC dI b0 b1 b2 b3 b4 d1 d2 d3 d4 us nu bm tn g2 za (va_up ss k b) bk _ b n (ln k) ln hnu (by omega) hz (fun x hx h1 h2 => by rw [va_up_ne _ _ (c1 x hx h1 h2).1]; have := (c1 x hx h1 h2).2; omega) (mw_ss hL hk hbb hus)) k_X3_49 ⟨sf_blind, va_recv hK hP (ci := 3) (q0 := 0) rfl rfl, sf_preU hP hK hD hN⟩ rfl hl.1 (Nat.le_of_ble_eq_true rfl) ⟨(Nat.le_of_ble_eq_true rfl), (Nat.le_of_ble_eq_true rfl)⟩ ⟨rfl, rfl⟩ ⟨Nat.zero_le _, Nat.zero_le _⟩ dX3_change_166) hD hS hA (fun u_166 H locs h_166 hP hD hS => ?_)
      have hP : va_P (dC, dI) vwCl (mw_w b0 b1 b2 b3 b4 d1 d2 d3 d4 us nu bm tn g2 za (mw_sh nu n (ln k) b ln (va_up ss k b)) bk) H := hP
      have hD : va_D A (mw_w b0 b1 b2 b3 b4 d1 d2 d3 d4 us nu bm tn g2 za (mw_sh nu n (ln k) b ln (va_up ss k b)) bk) := hD
      refine lv_aload_n hx hb dX3_change_169 rfl (lv_at hl 0 rfl) ?_
      refine lv_dup hx hb dX3_change_170 rfl ?_
      refine va_get (D := (dC, dI)) (ci := 3) (v := .int (nI us)) (C := RX3) (T := TX3) (N := 8) hx hb hts sf_inX3 hown hK hP 0 rfl rfl 1 (by decide) (hts _ (sf_mem fl_X3_46 rfl)) (fun _ h9 => h9) rfl dX3_change_171 ?_
      refine lv_iload hx hb dX3_change_174 (lv_at hl 5 rfl) ?_
      refine lv_iadd hx hb dX3_change_176 ?_
      rw [sf_occ (by omega)]
      refine va_put (D := (dC, dI)) (ci := 3) (v := .int (nI (us + n - ln k))) (ty := .int) (C := RX3) (T := TX3) (N := 8) hx hb hts sf_inX3 tyX3 tyX3_ok nmX3 hown hK hP hD hS 0 rfl rfl 1 (by decide) (hts _ (sf_mem fl_X3_46 rfl)) (fun _ h9 => h9) rfl (by decide +kernel) rfl rfl (Nat.le_of_ble_eq_true rfl) dX3_change_177 (fun H locs hP hD hS => ?_)
      have hP : va_P (dC, dI) vwCl (mw_w b0 b1 b2 b3 b4 d1 d2 d3 d4 (us + n - ln k) nu bm tn g2 za (mw_sh nu n (ln k) b ln (va_up ss k b)) bk) H := hP
      have hD : va_D A (mw_w b0 b1 b2 b3 b4 d1 d2 d3 d4 (us + n - ln k) nu bm tn g2 za (mw_sh nu n (ln k) b ln (va_up ss k b)) bk) := hD
      refine lv_aload_n hx hb dX3_change_180 rfl (lv_at hl 0 rfl) ?_
      refine lv_dup hx hb dX3_change_181 rfl ?_
      refine va_get (D := (dC, dI)) (ci := 3) (v := .int (nI tn)) (C := RX3) (T := TX3) (N := 8) hx hb hts sf_inX3 hown hK hP 0 rfl rfl 7 (by decide) (hts _ (sf_mem fl_X3_35 rfl)) (fun _ h9 => h9) rfl dX3_change_182 ?_
      refine lv_iload_n hx hb dX3_change_185 rfl (lv_at hl 2 rfl) ?_
      refine vp_callSi (va_Run.run (sf_runS (As := [.int (nI n)]) (rest := [.int (nI tn), .ref b0]) ⟨hx, hb, hml, hown, hts⟩ sf_has (m_placesOf l n (by omega)) k_X3_38 ⟨sf_blindT, sf_preT⟩ rfl hl.1 (Nat.le_of_ble_eq_true rfl) ⟨(Nat.le_of_ble_eq_true rfl), (Nat.le_of_ble_eq_true rfl)⟩ ⟨rfl, rfl⟩ ⟨Nat.zero_le _, Nat.zero_le _⟩ dX3_change_186)) (fun r_186 h_186 => ?_)
      subst h_186
      refine lv_iload_n hx hb dX3_change_189 rfl (lv_at hl 3 rfl) ?_
      refine vp_callSi (va_Run.run (sf_runS (As := [.int (nI (ln k))]) (rest := [.int (nI (sf_P n)), .int (nI tn), .ref b0]) ⟨hx, hb, hml, hown, hts⟩ sf_has (m_placesOf l (ln k) (by omega)) k_X3_38 ⟨sf_blindT, sf_preT⟩ rfl hl.1 (Nat.le_of_ble_eq_true rfl) ⟨(Nat.le_of_ble_eq_true rfl), (Nat.le_of_ble_eq_true rfl)⟩ ⟨rfl, rfl⟩ ⟨Nat.zero_le _, Nat.zero_le _⟩ dX3_change_190)) (fun r_190 h_190 => ?_)
      subst h_190
      refine lv_isub hx hb dX3_change_193 ?_
      refine lv_iadd hx hb dX3_change_194 ?_
      rw [sf_occ (by omega)]
      refine va_put (D := (dC, dI)) (ci := 3) (v := .int (nI (tn + sf_P n - sf_P (ln k)))) (ty := .int) (C := RX3) (T := TX3) (N := 8) hx hb hts sf_inX3 tyX3 tyX3_ok nmX3 hown hK hP hD hS 0 rfl rfl 7 (by decide) (hts _ (sf_mem fl_X3_35 rfl)) (fun _ h9 => h9) rfl (by decide +kernel) rfl rfl (Nat.le_of_ble_eq_true rfl) dX3_change_195 (fun H locs hP hD hS => ?_)
      have hP : va_P (dC, dI) vwCl (mw_w b0 b1 b2 b3 b4 d1 d2 d3 d4 (us + n - ln k) nu bm (tn + sf_P n - sf_P (ln k)) g2 za (mw_sh nu n (ln k) b ln (va_up ss k b)) bk) H := hP
      have hD : va_D A (mw_w b0 b1 b2 b3 b4 d1 d2 d3 d4 (us + n - ln k) nu bm (tn + sf_P n - sf_P (ln k)) g2 za (mw_sh nu n (ln k) b ln (va_up ss k b)) bk) := hD
      refine lv_aload_n hx hb dX3_change_198 rfl (lv_at hl 0 rfl) ?_
      refine va_get (D := (dC, dI)) (ci := 3) (v := .ref b3) (C := RX3) (T := TX3) (N := 8) hx hb hts sf_inX3 hown hK hP 0 rfl rfl 3 (by decide) (hts _ (sf_mem fl_X3_18 rfl)) (fun _ h9 => h9) rfl dX3_change_199 ?_
      refine lv_iload_n hx hb dX3_change_202 rfl (lv_at hl 1 rfl) ?_
      refine lv_iload_n hx hb dX3_change_203 rfl (lv_at hl 2 rfl) ?_
      refine sf_iast hx hb hK hP hD hS 3 2 rfl rfl (by omega) (by decide) dX3_change_204 (fun H locs hP hD hS => ?_)
      have hP : va_P (dC, dI) vwCl (mw_w b0 b1 b2 b3 b4 d1 d2 d3 d4 (us + n - ln k) nu bm (tn + sf_P n - sf_P (ln k)) g2 (upd za k (nI n)) (mw_sh nu n (ln k) b ln (va_up ss k b)) bk) H := hP
      have hD : va_D A (mw_w b0 b1 b2 b3 b4 d1 d2 d3 d4 (us + n - ln k) nu bm (tn + sf_P n - sf_P (ln k)) g2 (upd za k (nI n)) (mw_sh nu n (ln k) b ln (va_up ss k b)) bk) := hD
      exact W.vret hx hb hr (fun t ht hW => ⟨⟨(g2, mw_sh nu n (ln k) b ln (va_up ss k b)), rfl, ⟨c2, c4, fun i hi => by dsimp only; rw [c3]; exact c5 i hi, c6⟩, by rw [ht]; exact hP, hD⟩, hS.F ht⟩) hS.2.2 dX3_change_205
    · intro jn
      rcases Nat.lt_or_ge n (ln k) with hlt | hge
      · have hneg := mw_neg hlt hln
        refine sf_loop (σ := Nat × (Nat → Int32)) (fun u => us - u.1) (fun u H locs ls => b + ln k ≤ u.1 ∧ u.1 ≤ us ∧ (∀ x, u.2 x = if b + ln k + n - ln k ≤ x ∧ x < u.1 + n - ln k then g (x + (ln k - n)) else g x) ∧ sb_Fit u.2 ∧ va_P (dC, dI) vwCl (mw_w b0 b1 b2 b3 b4 d1 d2 d3 d4 us nu bm tn u.2 za (va_up ss k b) bk) H ∧ va_D A (mw_w b0 b1 b2 b3 b4 d1 d2 d3 d4 us nu bm tn u.2 za (va_up ss k b) bk) ∧ va_S A s.heap H locs ∧ lv_has ls 7 [(0, .ref b0), (1, .int (nI k)), (2, .int (nI n)), (3, .int (nI (ln k))), (4, .int (nI (b + ln k))), (5, .int (nI n - nI (ln k))), (6, .int (nI u.1))]) ?_ (b + ln k, g) _ _ _ ?_
        · intro u H locs ls hI2 ih
          obtain ⟨p0, g1⟩ := u
          obtain ⟨k1, k2, k3, k4, hP, hD, hS, hl⟩ := hI2
          dsimp only at k1 k2 k3 k4 hP hD hl ih
          have hfp := k4 p0
          refine lv_iload hx hb dX3_change_49 (lv_at hl 6 rfl) ?_
          refine lv_aload_n hx hb dX3_change_51 rfl (lv_at hl 0 rfl) ?_
          refine va_get (D := (dC, dI)) (ci := 3) (v := .int (nI us)) (C := RX3) (T := TX3) (N := 8) hx hb hts sf_inX3 hown hK hP 0 rfl rfl 1 (by decide) (hts _ (sf_mem fl_X3_46 rfl)) (fun _ h9 => h9) rfl dX3_change_52 ?_
          refine sf_icmp_ge (tgt := 86) hx hb (by omega) (by omega) dX3_change_55 (by decide) (fun c_55 => ?_) (fun c_55 => ?_)
          · refine lv_aload_n hx hb dX3_change_86 rfl (lv_at hl 0 rfl) ?_
            refine va_get (D := (dC, dI)) (ci := 3) (v := .int (nI us)) (C := RX3) (T := TX3) (N := 8) hx hb hts sf_inX3 hown hK hP 0 rfl rfl 1 (by decide) (hts _ (sf_mem fl_X3_46 rfl)) (fun _ h9 => h9) rfl dX3_change_87 ?_
            refine lv_iconst (v := nI 1) hx hb dX3_change_90 (by decide) ?_
            refine lv_isub hx hb dX3_change_91 ?_
            refine lv_istore (lv' := [(6, .int ((nI us) - (nI 1))), (0, .ref b0), (1, .int (nI k)), (2, .int (nI n)), (3, .int (nI (ln k))), (4, .int (nI (b + ln k))), (5, .int (nI n - nI (ln k)))]) hx hb dX3_change_92 hl (by decide) rfl (fun ls hl => ?_)
            refine lv_iload hx hb dX3_change_94 (lv_at hl 0 rfl) ?_
            refine lv_iload hx hb dX3_change_96 (lv_at hl 5 rfl) ?_
            refine lv_icmp_lt (tgt := 129) hx hb dX3_change_98 (by decide) (fun c_98 => ?_) (fun c_98 => ?_)
            · refine lv_iload hx hb dX3_change_129 (lv_at hl 5 rfl) ?_
              refine lv_istore (lv' := [(6, .int (nI (b + ln k))), (0, .ref b0), (1, .int (nI k)), (2, .int (nI n)), (3, .int (nI (ln k))), (4, .int (nI (b + ln k))), (5, .int (nI n - nI (ln k)))]) hx hb dX3_change_131 hl (by decide) rfl (fun ls hl => ?_)
              refine lv_iload hx hb dX3_change_133 (lv_at hl 0 rfl) ?_
              refine lv_iload hx hb dX3_change_135 (lv_at hl 5 rfl) ?_
              refine lv_iload hx hb dX3_change_137 (lv_at hl 6 rfl) ?_
              refine lv_iadd hx hb dX3_change_139 ?_
              rw [sf_occ (by omega)]
              refine sf_icmp_ge (tgt := 157) hx hb (by omega) (by omega) dX3_change_140 (by decide) (fun c_140 => ?_) (fun c_140 => ?_)
              · exact jn _ _ _ ⟨g1, Or.inl ⟨by omega, by rw [show p0 = us by omega] at k3; exact k3⟩, hP, hD, hS, lv_sub hl [1, 2, 3, 4, 5, 6] rfl⟩
              · exact absurd c_140 (by omega)
            · refine lv_iload hx hb dX3_change_101 (lv_at hl 6 rfl) ?_
              refine lv_if_le (tgt := 129) hx hb dX3_change_103 (by decide) (fun c_103 => ?_) (fun c_103 => ?_)
              · refine lv_iload hx hb dX3_change_129 (lv_at hl 5 rfl) ?_
                refine lv_istore (lv' := [(6, .int (nI (b + ln k))), (0, .ref b0), (1, .int (nI k)), (2, .int (nI n)), (3, .int (nI (ln k))), (4, .int (nI (b + ln k))), (5, .int (nI n - nI (ln k)))]) hx hb dX3_change_131 hl (by decide) rfl (fun ls hl => ?_)
                refine lv_iload hx hb dX3_change_133 (lv_at hl 0 rfl) ?_
                refine lv_iload hx hb dX3_change_135 (lv_at hl 5 rfl) ?_
                refine lv_iload hx hb dX3_change_137 (lv_at hl 6 rfl) ?_
                refine lv_iadd hx hb dX3_change_139 ?_
                rw [sf_occ (by omega)]
                refine sf_icmp_ge (tgt := 157) hx hb (by omega) (by omega) dX3_change_140 (by decide) (fun c_140 => ?_) (fun c_140 => ?_)
                · exact jn _ _ _ ⟨g1, Or.inl ⟨by omega, by rw [show p0 = us by omega] at k3; exact k3⟩, hP, hD, hS, lv_sub hl [1, 2, 3, 4, 5, 6] rfl⟩
                · exact absurd c_140 (by omega)
              · exact absurd (Int32.le_of_lt hneg) c_103
          · refine lv_iload hx hb dX3_change_58 (lv_at hl 5 rfl) ?_
            refine lv_if_ge (tgt := 86) hx hb dX3_change_60 (by decide) (fun c_60 => ?_) (fun c_60 => ?_)
            · exact absurd hneg (Int32.not_lt.mpr c_60)
            · refine lv_aload_n hx hb dX3_change_63 rfl (lv_at hl 0 rfl) ?_
              refine va_get (D := (dC, dI)) (ci := 3) (v := .ref b1) (C := RX3) (T := TX3) (N := 8) hx hb hts sf_inX3 hown hK hP 0 rfl rfl 0 (by decide) (hts _ (sf_mem fl_X3_8 rfl)) (fun _ h9 => h9) rfl dX3_change_64 ?_
              refine lv_iload hx hb dX3_change_67 (lv_at hl 6 rfl) ?_
              refine lv_iload hx hb dX3_change_69 (lv_at hl 5 rfl) ?_
              refine lv_iadd hx hb dX3_change_71 ?_
              rw [sf_occ (by omega)]
              refine lv_aload_n hx hb dX3_change_72 rfl (lv_at hl 0 rfl) ?_
              refine va_get (D := (dC, dI)) (ci := 3) (v := .ref b1) (C := RX3) (T := TX3) (N := 8) hx hb hts sf_inX3 hown hK hP 0 rfl rfl 0 (by decide) (hts _ (sf_mem fl_X3_8 rfl)) (fun _ h9 => h9) rfl dX3_change_73 ?_
              refine lv_iload hx hb dX3_change_76 (lv_at hl 6 rfl) ?_
              refine sf_bald hx hb hK hP 1 0 rfl rfl (by omega) (by decide) dX3_change_78 ?_
              refine sf_bast hx hb hK hP hD hS 1 0 rfl rfl (mw_nar hfp) (by omega) (by decide) dX3_change_79 (fun H locs hP hD hS => ?_)
              have hP : va_P (dC, dI) vwCl (mw_w b0 b1 b2 b3 b4 d1 d2 d3 d4 us nu bm tn (upd g1 (p0 + n - ln k) (g1 p0)) za (va_up ss k b) bk) H := hP
              have hD : va_D A (mw_w b0 b1 b2 b3 b4 d1 d2 d3 d4 us nu bm tn (upd g1 (p0 + n - ln k) (g1 p0)) za (va_up ss k b) bk) := hD
              refine lv_iinc (v := nI (p0 + 1)) (lv' := [(6, .int (nI (p0 + 1))), (0, .ref b0), (1, .int (nI k)), (2, .int (nI n)), (3, .int (nI (ln k))), (4, .int (nI (b + ln k))), (5, .int (nI n - nI (ln k)))]) hx hb dX3_change_80 hl (k := 6) rfl (nI_1 p0) (by decide) rfl (fun ls hl => ?_)
              refine lv_goto (tgt := 49) hx hb dX3_change_83 (by decide) ?_
              exact ih (p0 + 1, upd g1 (p0 + n - ln k) (g1 p0)) _ _ _ (by dsimp only; omega) ⟨by dsimp only; omega, by dsimp only; omega, mw_b1 hlt (by omega) k1 k3, sb_fitU k4 (k4 p0), hP, hD, hS, lv_sub hl [1, 2, 3, 4, 5, 6, 0] rfl⟩
        · exact ⟨Nat.le_refl _, hbk, fun x => by rw [if_neg (by omega)], hF, hP, hD, hS, lv_sub hl [3, 4, 5, 6, 2, 1, 0] rfl⟩
      · obtain ⟨d, hd⟩ : ∃ d, n - ln k = d := ⟨_, rfl⟩
        rw [pk_sub hge, hd] at hl
        refine lv_iload hx hb dX3_change_49 (lv_at hl 0 rfl) ?_
        refine lv_aload_n hx hb dX3_change_51 rfl (lv_at hl 3 rfl) ?_
        refine va_get (D := (dC, dI)) (ci := 3) (v := .int (nI us)) (C := RX3) (T := TX3) (N := 8) hx hb hts sf_inX3 hown hK hP 0 rfl rfl 1 (by decide) (hts _ (sf_mem fl_X3_46 rfl)) (fun _ h9 => h9) rfl dX3_change_52 ?_
        refine sf_icmp_ge (tgt := 86) hx hb (by omega) (by omega) dX3_change_55 (by decide) (fun c_55 => ?_) (fun c_55 => ?_)
        · refine lv_aload_n hx hb dX3_change_86 rfl (lv_at hl 3 rfl) ?_
          refine va_get (D := (dC, dI)) (ci := 3) (v := .int (nI us)) (C := RX3) (T := TX3) (N := 8) hx hb hts sf_inX3 hown hK hP 0 rfl rfl 1 (by decide) (hts _ (sf_mem fl_X3_46 rfl)) (fun _ h9 => h9) rfl dX3_change_87 ?_
          refine lv_iconst (v := nI 1) hx hb dX3_change_90 (by decide) ?_
          refine lv_isub hx hb dX3_change_91 ?_
          refine lv_istore (lv' := [(6, .int ((nI us) - (nI 1))), (5, .int (nI d)), (4, .int (nI (b + (ln k)))), (0, .ref b0), (1, .int (nI k)), (2, .int (nI n)), (3, .int (nI (ln k)))]) hx hb dX3_change_92 hl (by decide) rfl (fun ls hl => ?_)
          refine sf_loop (σ := Nat × (Nat → Int32)) (fun u => u.1) (fun u H locs ls => b + ln k ≤ u.1 ∧ u.1 ≤ us ∧ (∀ x, u.2 x = if u.1 + d ≤ x ∧ x < us + d then g (x - d) else g x) ∧ sb_Fit u.2 ∧ va_P (dC, dI) vwCl (mw_w b0 b1 b2 b3 b4 d1 d2 d3 d4 us nu bm tn u.2 za (va_up ss k b) bk) H ∧ va_D A (mw_w b0 b1 b2 b3 b4 d1 d2 d3 d4 us nu bm tn u.2 za (va_up ss k b) bk) ∧ va_S A s.heap H locs ∧ lv_has ls 7 [(0, .ref b0), (1, .int (nI k)), (2, .int (nI n)), (3, .int (nI (ln k))), (4, .int (nI (b + ln k))), (5, .int (nI d)), (6, .int (nI u.1 - nI 1))]) ?_ (us, g) _ _ _ ?_
          · intro u H locs ls hI2 ih
            obtain ⟨p0, g1⟩ := u
            obtain ⟨k1, k2, k3, k4, hP, hD, hS, hl⟩ := hI2
            dsimp only at k1 k2 k3 k4 hP hD hl ih
            have hfp := k4 (p0 - 1)
            refine lv_iload hx hb dX3_change_94 (lv_at hl 6 rfl) ?_
            refine lv_iload hx hb dX3_change_96 (lv_at hl 4 rfl) ?_
            refine lv_icmp_lt (tgt := 129) hx hb dX3_change_98 (by decide) (fun c_98 => ?_) (fun c_98 => ?_)
            · have hpe := (mw_dn k1 (by omega)).mp c_98
              have hg5 := mw_b5 (e := b + ln k) (by omega) k1 hbk k3
              refine lv_iload hx hb dX3_change_129 (lv_at hl 4 rfl) ?_
              refine lv_istore (lv' := [(6, .int (nI (b + ln k))), (0, .ref b0), (1, .int (nI k)), (2, .int (nI n)), (3, .int (nI (ln k))), (4, .int (nI (b + ln k))), (5, .int (nI d))]) hx hb dX3_change_131 hl (by decide) rfl (fun ls hl => ?_)
              refine sf_loop (σ := Nat × (Nat → Int32)) (fun u => b + ln k + d - u.1) (fun u H locs ls => b + ln k ≤ u.1 ∧ u.1 ≤ b + ln k + d ∧ (∀ x, u.2 x = if b + ln k ≤ x ∧ x < u.1 then 0 else g1 x) ∧ va_P (dC, dI) vwCl (mw_w b0 b1 b2 b3 b4 d1 d2 d3 d4 us nu bm tn u.2 za (va_up ss k b) bk) H ∧ va_D A (mw_w b0 b1 b2 b3 b4 d1 d2 d3 d4 us nu bm tn u.2 za (va_up ss k b) bk) ∧ va_S A s.heap H locs ∧ lv_has ls 7 [(0, .ref b0), (1, .int (nI k)), (2, .int (nI n)), (3, .int (nI (ln k))), (4, .int (nI (b + ln k))), (5, .int (nI d)), (6, .int (nI u.1))]) ?_ (b + ln k, g1) _ _ _ ?_
              · intro u H locs ls hI3 ih3
                obtain ⟨q0, g3⟩ := u
                obtain ⟨j1, j2, j3, hP, hD, hS, hl⟩ := hI3
                dsimp only at j1 j2 j3 hP hD hl ih3
                refine lv_iload hx hb dX3_change_133 (lv_at hl 6 rfl) ?_
                refine lv_iload hx hb dX3_change_135 (lv_at hl 4 rfl) ?_
                refine lv_iload hx hb dX3_change_137 (lv_at hl 5 rfl) ?_
                refine sf_iadd hx hb dX3_change_139 ?_
                refine sf_icmp_ge (tgt := 157) hx hb (by omega) (by omega) dX3_change_140 (by decide) (fun c_140 => ?_) (fun c_140 => ?_)
                · refine jn _ _ _ ⟨g3, mw_b4 hd hge hg5 (by rw [show q0 = b + ln k + d by omega] at j3; exact j3), hP, hD, hS, ?_⟩
                  rw [pk_sub hge, hd]
                  exact lv_sub hl [0, 1, 2, 3, 4, 5] rfl
                · refine lv_aload_n hx hb dX3_change_143 rfl (lv_at hl 0 rfl) ?_
                  refine va_get (D := (dC, dI)) (ci := 3) (v := .ref b1) (C := RX3) (T := TX3) (N := 8) hx hb hts sf_inX3 hown hK hP 0 rfl rfl 0 (by decide) (hts _ (sf_mem fl_X3_8 rfl)) (fun _ h9 => h9) rfl dX3_change_144 ?_
                  refine lv_iload hx hb dX3_change_147 (lv_at hl 6 rfl) ?_
                  refine lv_iconst (v := nI 0) hx hb dX3_change_149 (by decide) ?_
                  refine sf_bast hx hb hK hP hD hS 1 0 rfl rfl (by decide) (by omega) (by decide) dX3_change_150 (fun H locs hP hD hS => ?_)
                  have hP : va_P (dC, dI) vwCl (mw_w b0 b1 b2 b3 b4 d1 d2 d3 d4 us nu bm tn (upd g3 q0 (nI 0)) za (va_up ss k b) bk) H := hP
                  have hD : va_D A (mw_w b0 b1 b2 b3 b4 d1 d2 d3 d4 us nu bm tn (upd g3 q0 (nI 0)) za (va_up ss k b) bk) := hD
                  refine lv_iinc (v := nI (q0 + 1)) (lv' := [(6, .int (nI (q0 + 1))), (0, .ref b0), (1, .int (nI k)), (2, .int (nI n)), (3, .int (nI (ln k))), (4, .int (nI (b + ln k))), (5, .int (nI d))]) hx hb dX3_change_151 hl (k := 6) rfl (nI_1 q0) (by decide) rfl (fun ls hl => ?_)
                  refine lv_goto (tgt := 133) hx hb dX3_change_154 (by decide) ?_
                  exact ih3 (q0 + 1, upd g3 q0 (nI 0)) _ _ _ (by dsimp only; omega) ⟨by dsimp only; omega, by dsimp only; omega, mw_b3 j1 j3, hP, hD, hS, lv_sub hl [1, 2, 3, 4, 5, 6, 0] rfl⟩
              · exact ⟨Nat.le_refl _, Nat.le_add_right _ _, fun x => by rw [if_neg (by omega)], hP, hD, hS, lv_sub hl [1, 2, 3, 4, 5, 6, 0] rfl⟩
            · have hpe : b + ln k < p0 := Nat.lt_of_le_of_ne k1 (fun q => c_98 ((mw_dn k1 (by omega)).mpr q.symm))
              rw [pk_sub (by omega)] at hl
              refine lv_iload hx hb dX3_change_101 (lv_at hl 5 rfl) ?_
              refine sf_if_le (tgt := 129) hx hb (by omega) dX3_change_103 (by decide) (fun c_103 => ?_) (fun c_103 => ?_)
              · have hg5 := mw_b5 (e := b + ln k) (by omega) k1 hbk k3
                refine lv_iload hx hb dX3_change_129 (lv_at hl 4 rfl) ?_
                refine lv_istore (lv' := [(6, .int (nI (b + ln k))), (0, .ref b0), (1, .int (nI k)), (2, .int (nI n)), (3, .int (nI (ln k))), (4, .int (nI (b + ln k))), (5, .int (nI d))]) hx hb dX3_change_131 hl (by decide) rfl (fun ls hl => ?_)
                refine sf_loop (σ := Nat × (Nat → Int32)) (fun u => b + ln k + d - u.1) (fun u H locs ls => b + ln k ≤ u.1 ∧ u.1 ≤ b + ln k + d ∧ (∀ x, u.2 x = if b + ln k ≤ x ∧ x < u.1 then 0 else g1 x) ∧ va_P (dC, dI) vwCl (mw_w b0 b1 b2 b3 b4 d1 d2 d3 d4 us nu bm tn u.2 za (va_up ss k b) bk) H ∧ va_D A (mw_w b0 b1 b2 b3 b4 d1 d2 d3 d4 us nu bm tn u.2 za (va_up ss k b) bk) ∧ va_S A s.heap H locs ∧ lv_has ls 7 [(0, .ref b0), (1, .int (nI k)), (2, .int (nI n)), (3, .int (nI (ln k))), (4, .int (nI (b + ln k))), (5, .int (nI d)), (6, .int (nI u.1))]) ?_ (b + ln k, g1) _ _ _ ?_
                · intro u H locs ls hI3 ih3
                  obtain ⟨q0, g3⟩ := u
                  obtain ⟨j1, j2, j3, hP, hD, hS, hl⟩ := hI3
                  dsimp only at j1 j2 j3 hP hD hl ih3
                  refine lv_iload hx hb dX3_change_133 (lv_at hl 6 rfl) ?_
                  refine lv_iload hx hb dX3_change_135 (lv_at hl 4 rfl) ?_
                  refine lv_iload hx hb dX3_change_137 (lv_at hl 5 rfl) ?_
                  refine sf_iadd hx hb dX3_change_139 ?_
                  refine sf_icmp_ge (tgt := 157) hx hb (by omega) (by omega) dX3_change_140 (by decide) (fun c_140 => ?_) (fun c_140 => ?_)
                  · refine jn _ _ _ ⟨g3, mw_b4 hd hge hg5 (by rw [show q0 = b + ln k + d by omega] at j3; exact j3), hP, hD, hS, ?_⟩
                    rw [pk_sub hge, hd]
                    exact lv_sub hl [0, 1, 2, 3, 4, 5] rfl
                  · refine lv_aload_n hx hb dX3_change_143 rfl (lv_at hl 0 rfl) ?_
                    refine va_get (D := (dC, dI)) (ci := 3) (v := .ref b1) (C := RX3) (T := TX3) (N := 8) hx hb hts sf_inX3 hown hK hP 0 rfl rfl 0 (by decide) (hts _ (sf_mem fl_X3_8 rfl)) (fun _ h9 => h9) rfl dX3_change_144 ?_
                    refine lv_iload hx hb dX3_change_147 (lv_at hl 6 rfl) ?_
                    refine lv_iconst (v := nI 0) hx hb dX3_change_149 (by decide) ?_
                    refine sf_bast hx hb hK hP hD hS 1 0 rfl rfl (by decide) (by omega) (by decide) dX3_change_150 (fun H locs hP hD hS => ?_)
                    have hP : va_P (dC, dI) vwCl (mw_w b0 b1 b2 b3 b4 d1 d2 d3 d4 us nu bm tn (upd g3 q0 (nI 0)) za (va_up ss k b) bk) H := hP
                    have hD : va_D A (mw_w b0 b1 b2 b3 b4 d1 d2 d3 d4 us nu bm tn (upd g3 q0 (nI 0)) za (va_up ss k b) bk) := hD
                    refine lv_iinc (v := nI (q0 + 1)) (lv' := [(6, .int (nI (q0 + 1))), (0, .ref b0), (1, .int (nI k)), (2, .int (nI n)), (3, .int (nI (ln k))), (4, .int (nI (b + ln k))), (5, .int (nI d))]) hx hb dX3_change_151 hl (k := 6) rfl (nI_1 q0) (by decide) rfl (fun ls hl => ?_)
                    refine lv_goto (tgt := 133) hx hb dX3_change_154 (by decide) ?_
                    exact ih3 (q0 + 1, upd g3 q0 (nI 0)) _ _ _ (by dsimp only; omega) ⟨by dsimp only; omega, by dsimp only; omega, mw_b3 j1 j3, hP, hD, hS, lv_sub hl [1, 2, 3, 4, 5, 6, 0] rfl⟩
                · exact ⟨Nat.le_refl _, Nat.le_add_right _ _, fun x => by rw [if_neg (by omega)], hP, hD, hS, lv_sub hl [1, 2, 3, 4, 5, 6, 0] rfl⟩
              · refine lv_aload_n hx hb dX3_change_106 rfl (lv_at hl 0 rfl) ?_
                refine va_get (D := (dC, dI)) (ci := 3) (v := .ref b1) (C := RX3) (T := TX3) (N := 8) hx hb hts sf_inX3 hown hK hP 0 rfl rfl 0 (by decide) (hts _ (sf_mem fl_X3_8 rfl)) (fun _ h9 => h9) rfl dX3_change_107 ?_
                refine lv_iload hx hb dX3_change_110 (lv_at hl 6 rfl) ?_
                refine lv_iload hx hb dX3_change_112 (lv_at hl 5 rfl) ?_
                refine sf_iadd hx hb dX3_change_114 ?_
                refine lv_aload_n hx hb dX3_change_115 rfl (lv_at hl 0 rfl) ?_
                refine va_get (D := (dC, dI)) (ci := 3) (v := .ref b1) (C := RX3) (T := TX3) (N := 8) hx hb hts sf_inX3 hown hK hP 0 rfl rfl 0 (by decide) (hts _ (sf_mem fl_X3_8 rfl)) (fun _ h9 => h9) rfl dX3_change_116 ?_
                refine lv_iload hx hb dX3_change_119 (lv_at hl 6 rfl) ?_
                refine sf_bald hx hb hK hP 1 0 rfl rfl (by omega) (by decide) dX3_change_121 ?_
                refine sf_bast hx hb hK hP hD hS 1 0 rfl rfl (mw_nar hfp) (by omega) (by decide) dX3_change_122 (fun H locs hP hD hS => ?_)
                have hP : va_P (dC, dI) vwCl (mw_w b0 b1 b2 b3 b4 d1 d2 d3 d4 us nu bm tn (upd g1 ((p0 - 1) + d) (g1 (p0 - 1))) za (va_up ss k b) bk) H := hP
                have hD : va_D A (mw_w b0 b1 b2 b3 b4 d1 d2 d3 d4 us nu bm tn (upd g1 ((p0 - 1) + d) (g1 (p0 - 1))) za (va_up ss k b) bk) := hD
                refine lv_iinc (v := nI (p0 - 1) - nI 1) (lv' := [(6, .int (nI (p0 - 1) - nI 1)), (0, .ref b0), (1, .int (nI k)), (2, .int (nI n)), (3, .int (nI (ln k))), (4, .int (nI (b + ln k))), (5, .int (nI d))]) hx hb dX3_change_123 hl (k := 6) rfl (mw_dec _) (by decide) rfl (fun ls hl => ?_)
                refine lv_goto (tgt := 94) hx hb dX3_change_126 (by decide) ?_
                exact ih (p0 - 1, upd g1 (p0 - 1 + d) (g1 (p0 - 1))) _ _ _ (by dsimp only; omega) ⟨by dsimp only; omega, by dsimp only; omega, mw_b2 c_103 (by omega) k2 k3, sb_fitU k4 (k4 _), hP, hD, hS, lv_sub hl [1, 2, 3, 4, 5, 6, 0] rfl⟩
          · exact ⟨hbk, Nat.le_refl _, fun x => by rw [if_neg (by omega)], hF, hP, hD, hS, lv_sub hl [3, 4, 5, 6, 2, 1, 0] rfl⟩
        · refine lv_iload hx hb dX3_change_58 (lv_at hl 1 rfl) ?_
          refine sf_if_ge (tgt := 86) hx hb (by omega) dX3_change_60 (by decide) ?_
          refine lv_aload_n hx hb dX3_change_86 rfl (lv_at hl 3 rfl) ?_
          refine va_get (D := (dC, dI)) (ci := 3) (v := .int (nI us)) (C := RX3) (T := TX3) (N := 8) hx hb hts sf_inX3 hown hK hP 0 rfl rfl 1 (by decide) (hts _ (sf_mem fl_X3_46 rfl)) (fun _ h9 => h9) rfl dX3_change_87 ?_
          refine lv_iconst (v := nI 1) hx hb dX3_change_90 (by decide) ?_
          refine lv_isub hx hb dX3_change_91 ?_
          refine lv_istore (lv' := [(6, .int ((nI us) - (nI 1))), (5, .int (nI d)), (4, .int (nI (b + (ln k)))), (0, .ref b0), (1, .int (nI k)), (2, .int (nI n)), (3, .int (nI (ln k)))]) hx hb dX3_change_92 hl (by decide) rfl (fun ls hl => ?_)
          refine sf_loop (σ := Nat × (Nat → Int32)) (fun u => u.1) (fun u H locs ls => b + ln k ≤ u.1 ∧ u.1 ≤ us ∧ (∀ x, u.2 x = if u.1 + d ≤ x ∧ x < us + d then g (x - d) else g x) ∧ sb_Fit u.2 ∧ va_P (dC, dI) vwCl (mw_w b0 b1 b2 b3 b4 d1 d2 d3 d4 us nu bm tn u.2 za (va_up ss k b) bk) H ∧ va_D A (mw_w b0 b1 b2 b3 b4 d1 d2 d3 d4 us nu bm tn u.2 za (va_up ss k b) bk) ∧ va_S A s.heap H locs ∧ lv_has ls 7 [(0, .ref b0), (1, .int (nI k)), (2, .int (nI n)), (3, .int (nI (ln k))), (4, .int (nI (b + ln k))), (5, .int (nI d)), (6, .int (nI u.1 - nI 1))]) ?_ (us, g) _ _ _ ?_
          · intro u H locs ls hI2 ih
            obtain ⟨p0, g1⟩ := u
            obtain ⟨k1, k2, k3, k4, hP, hD, hS, hl⟩ := hI2
            dsimp only at k1 k2 k3 k4 hP hD hl ih
            have hfp := k4 (p0 - 1)
            refine lv_iload hx hb dX3_change_94 (lv_at hl 6 rfl) ?_
            refine lv_iload hx hb dX3_change_96 (lv_at hl 4 rfl) ?_
            refine lv_icmp_lt (tgt := 129) hx hb dX3_change_98 (by decide) (fun c_98 => ?_) (fun c_98 => ?_)
            · have hpe := (mw_dn k1 (by omega)).mp c_98
              have hg5 := mw_b5 (e := b + ln k) (by omega) k1 hbk k3
              refine lv_iload hx hb dX3_change_129 (lv_at hl 4 rfl) ?_
              refine lv_istore (lv' := [(6, .int (nI (b + ln k))), (0, .ref b0), (1, .int (nI k)), (2, .int (nI n)), (3, .int (nI (ln k))), (4, .int (nI (b + ln k))), (5, .int (nI d))]) hx hb dX3_change_131 hl (by decide) rfl (fun ls hl => ?_)
              refine sf_loop (σ := Nat × (Nat → Int32)) (fun u => b + ln k + d - u.1) (fun u H locs ls => b + ln k ≤ u.1 ∧ u.1 ≤ b + ln k + d ∧ (∀ x, u.2 x = if b + ln k ≤ x ∧ x < u.1 then 0 else g1 x) ∧ va_P (dC, dI) vwCl (mw_w b0 b1 b2 b3 b4 d1 d2 d3 d4 us nu bm tn u.2 za (va_up ss k b) bk) H ∧ va_D A (mw_w b0 b1 b2 b3 b4 d1 d2 d3 d4 us nu bm tn u.2 za (va_up ss k b) bk) ∧ va_S A s.heap H locs ∧ lv_has ls 7 [(0, .ref b0), (1, .int (nI k)), (2, .int (nI n)), (3, .int (nI (ln k))), (4, .int (nI (b + ln k))), (5, .int (nI d)), (6, .int (nI u.1))]) ?_ (b + ln k, g1) _ _ _ ?_
              · intro u H locs ls hI3 ih3
                obtain ⟨q0, g3⟩ := u
                obtain ⟨j1, j2, j3, hP, hD, hS, hl⟩ := hI3
                dsimp only at j1 j2 j3 hP hD hl ih3
                refine lv_iload hx hb dX3_change_133 (lv_at hl 6 rfl) ?_
                refine lv_iload hx hb dX3_change_135 (lv_at hl 4 rfl) ?_
                refine lv_iload hx hb dX3_change_137 (lv_at hl 5 rfl) ?_
                refine sf_iadd hx hb dX3_change_139 ?_
                refine sf_icmp_ge (tgt := 157) hx hb (by omega) (by omega) dX3_change_140 (by decide) (fun c_140 => ?_) (fun c_140 => ?_)
                · refine jn _ _ _ ⟨g3, mw_b4 hd hge hg5 (by rw [show q0 = b + ln k + d by omega] at j3; exact j3), hP, hD, hS, ?_⟩
                  rw [pk_sub hge, hd]
                  exact lv_sub hl [0, 1, 2, 3, 4, 5] rfl
                · refine lv_aload_n hx hb dX3_change_143 rfl (lv_at hl 0 rfl) ?_
                  refine va_get (D := (dC, dI)) (ci := 3) (v := .ref b1) (C := RX3) (T := TX3) (N := 8) hx hb hts sf_inX3 hown hK hP 0 rfl rfl 0 (by decide) (hts _ (sf_mem fl_X3_8 rfl)) (fun _ h9 => h9) rfl dX3_change_144 ?_
                  refine lv_iload hx hb dX3_change_147 (lv_at hl 6 rfl) ?_
                  refine lv_iconst (v := nI 0) hx hb dX3_change_149 (by decide) ?_
                  refine sf_bast hx hb hK hP hD hS 1 0 rfl rfl (by decide) (by omega) (by decide) dX3_change_150 (fun H locs hP hD hS => ?_)
                  have hP : va_P (dC, dI) vwCl (mw_w b0 b1 b2 b3 b4 d1 d2 d3 d4 us nu bm tn (upd g3 q0 (nI 0)) za (va_up ss k b) bk) H := hP
                  have hD : va_D A (mw_w b0 b1 b2 b3 b4 d1 d2 d3 d4 us nu bm tn (upd g3 q0 (nI 0)) za (va_up ss k b) bk) := hD
                  refine lv_iinc (v := nI (q0 + 1)) (lv' := [(6, .int (nI (q0 + 1))), (0, .ref b0), (1, .int (nI k)), (2, .int (nI n)), (3, .int (nI (ln k))), (4, .int (nI (b + ln k))), (5, .int (nI d))]) hx hb dX3_change_151 hl (k := 6) rfl (nI_1 q0) (by decide) rfl (fun ls hl => ?_)
                  refine lv_goto (tgt := 133) hx hb dX3_change_154 (by decide) ?_
                  exact ih3 (q0 + 1, upd g3 q0 (nI 0)) _ _ _ (by dsimp only; omega) ⟨by dsimp only; omega, by dsimp only; omega, mw_b3 j1 j3, hP, hD, hS, lv_sub hl [1, 2, 3, 4, 5, 6, 0] rfl⟩
              · exact ⟨Nat.le_refl _, Nat.le_add_right _ _, fun x => by rw [if_neg (by omega)], hP, hD, hS, lv_sub hl [1, 2, 3, 4, 5, 6, 0] rfl⟩
            · have hpe : b + ln k < p0 := Nat.lt_of_le_of_ne k1 (fun q => c_98 ((mw_dn k1 (by omega)).mpr q.symm))
              rw [pk_sub (by omega)] at hl
              refine lv_iload hx hb dX3_change_101 (lv_at hl 5 rfl) ?_
              refine sf_if_le (tgt := 129) hx hb (by omega) dX3_change_103 (by decide) (fun c_103 => ?_) (fun c_103 => ?_)
              · have hg5 := mw_b5 (e := b + ln k) (by omega) k1 hbk k3
                refine lv_iload hx hb dX3_change_129 (lv_at hl 4 rfl) ?_
                refine lv_istore (lv' := [(6, .int (nI (b + ln k))), (0, .ref b0), (1, .int (nI k)), (2, .int (nI n)), (3, .int (nI (ln k))), (4, .int (nI (b + ln k))), (5, .int (nI d))]) hx hb dX3_change_131 hl (by decide) rfl (fun ls hl => ?_)
                refine sf_loop (σ := Nat × (Nat → Int32)) (fun u => b + ln k + d - u.1) (fun u H locs ls => b + ln k ≤ u.1 ∧ u.1 ≤ b + ln k + d ∧ (∀ x, u.2 x = if b + ln k ≤ x ∧ x < u.1 then 0 else g1 x) ∧ va_P (dC, dI) vwCl (mw_w b0 b1 b2 b3 b4 d1 d2 d3 d4 us nu bm tn u.2 za (va_up ss k b) bk) H ∧ va_D A (mw_w b0 b1 b2 b3 b4 d1 d2 d3 d4 us nu bm tn u.2 za (va_up ss k b) bk) ∧ va_S A s.heap H locs ∧ lv_has ls 7 [(0, .ref b0), (1, .int (nI k)), (2, .int (nI n)), (3, .int (nI (ln k))), (4, .int (nI (b + ln k))), (5, .int (nI d)), (6, .int (nI u.1))]) ?_ (b + ln k, g1) _ _ _ ?_
                · intro u H locs ls hI3 ih3
                  obtain ⟨q0, g3⟩ := u
                  obtain ⟨j1, j2, j3, hP, hD, hS, hl⟩ := hI3
                  dsimp only at j1 j2 j3 hP hD hl ih3
                  refine lv_iload hx hb dX3_change_133 (lv_at hl 6 rfl) ?_
                  refine lv_iload hx hb dX3_change_135 (lv_at hl 4 rfl) ?_
                  refine lv_iload hx hb dX3_change_137 (lv_at hl 5 rfl) ?_
                  refine sf_iadd hx hb dX3_change_139 ?_
                  refine sf_icmp_ge (tgt := 157) hx hb (by omega) (by omega) dX3_change_140 (by decide) (fun c_140 => ?_) (fun c_140 => ?_)
                  · refine jn _ _ _ ⟨g3, mw_b4 hd hge hg5 (by rw [show q0 = b + ln k + d by omega] at j3; exact j3), hP, hD, hS, ?_⟩
                    rw [pk_sub hge, hd]
                    exact lv_sub hl [0, 1, 2, 3, 4, 5] rfl
                  · refine lv_aload_n hx hb dX3_change_143 rfl (lv_at hl 0 rfl) ?_
                    refine va_get (D := (dC, dI)) (ci := 3) (v := .ref b1) (C := RX3) (T := TX3) (N := 8) hx hb hts sf_inX3 hown hK hP 0 rfl rfl 0 (by decide) (hts _ (sf_mem fl_X3_8 rfl)) (fun _ h9 => h9) rfl dX3_change_144 ?_
                    refine lv_iload hx hb dX3_change_147 (lv_at hl 6 rfl) ?_
                    refine lv_iconst (v := nI 0) hx hb dX3_change_149 (by decide) ?_
                    refine sf_bast hx hb hK hP hD hS 1 0 rfl rfl (by decide) (by omega) (by decide) dX3_change_150 (fun H locs hP hD hS => ?_)
                    have hP : va_P (dC, dI) vwCl (mw_w b0 b1 b2 b3 b4 d1 d2 d3 d4 us nu bm tn (upd g3 q0 (nI 0)) za (va_up ss k b) bk) H := hP
                    have hD : va_D A (mw_w b0 b1 b2 b3 b4 d1 d2 d3 d4 us nu bm tn (upd g3 q0 (nI 0)) za (va_up ss k b) bk) := hD
                    refine lv_iinc (v := nI (q0 + 1)) (lv' := [(6, .int (nI (q0 + 1))), (0, .ref b0), (1, .int (nI k)), (2, .int (nI n)), (3, .int (nI (ln k))), (4, .int (nI (b + ln k))), (5, .int (nI d))]) hx hb dX3_change_151 hl (k := 6) rfl (nI_1 q0) (by decide) rfl (fun ls hl => ?_)
                    refine lv_goto (tgt := 133) hx hb dX3_change_154 (by decide) ?_
                    exact ih3 (q0 + 1, upd g3 q0 (nI 0)) _ _ _ (by dsimp only; omega) ⟨by dsimp only; omega, by dsimp only; omega, mw_b3 j1 j3, hP, hD, hS, lv_sub hl [1, 2, 3, 4, 5, 6, 0] rfl⟩
                · exact ⟨Nat.le_refl _, Nat.le_add_right _ _, fun x => by rw [if_neg (by omega)], hP, hD, hS, lv_sub hl [1, 2, 3, 4, 5, 6, 0] rfl⟩
              · refine lv_aload_n hx hb dX3_change_106 rfl (lv_at hl 0 rfl) ?_
                refine va_get (D := (dC, dI)) (ci := 3) (v := .ref b1) (C := RX3) (T := TX3) (N := 8) hx hb hts sf_inX3 hown hK hP 0 rfl rfl 0 (by decide) (hts _ (sf_mem fl_X3_8 rfl)) (fun _ h9 => h9) rfl dX3_change_107 ?_
                refine lv_iload hx hb dX3_change_110 (lv_at hl 6 rfl) ?_
                refine lv_iload hx hb dX3_change_112 (lv_at hl 5 rfl) ?_
                refine sf_iadd hx hb dX3_change_114 ?_
                refine lv_aload_n hx hb dX3_change_115 rfl (lv_at hl 0 rfl) ?_
                refine va_get (D := (dC, dI)) (ci := 3) (v := .ref b1) (C := RX3) (T := TX3) (N := 8) hx hb hts sf_inX3 hown hK hP 0 rfl rfl 0 (by decide) (hts _ (sf_mem fl_X3_8 rfl)) (fun _ h9 => h9) rfl dX3_change_116 ?_
                refine lv_iload hx hb dX3_change_119 (lv_at hl 6 rfl) ?_
                refine sf_bald hx hb hK hP 1 0 rfl rfl (by omega) (by decide) dX3_change_121 ?_
                refine sf_bast hx hb hK hP hD hS 1 0 rfl rfl (mw_nar hfp) (by omega) (by decide) dX3_change_122 (fun H locs hP hD hS => ?_)
                have hP : va_P (dC, dI) vwCl (mw_w b0 b1 b2 b3 b4 d1 d2 d3 d4 us nu bm tn (upd g1 ((p0 - 1) + d) (g1 (p0 - 1))) za (va_up ss k b) bk) H := hP
                have hD : va_D A (mw_w b0 b1 b2 b3 b4 d1 d2 d3 d4 us nu bm tn (upd g1 ((p0 - 1) + d) (g1 (p0 - 1))) za (va_up ss k b) bk) := hD
                refine lv_iinc (v := nI (p0 - 1) - nI 1) (lv' := [(6, .int (nI (p0 - 1) - nI 1)), (0, .ref b0), (1, .int (nI k)), (2, .int (nI n)), (3, .int (nI (ln k))), (4, .int (nI (b + ln k))), (5, .int (nI d))]) hx hb dX3_change_123 hl (k := 6) rfl (mw_dec _) (by decide) rfl (fun ls hl => ?_)
                refine lv_goto (tgt := 94) hx hb dX3_change_126 (by decide) ?_
                exact ih (p0 - 1, upd g1 (p0 - 1 + d) (g1 (p0 - 1))) _ _ _ (by dsimp only; omega) ⟨by dsimp only; omega, by dsimp only; omega, mw_b2 c_103 (by omega) k2 k3, sb_fitU k4 (k4 _), hP, hD, hS, lv_sub hl [1, 2, 3, 4, 5, 6, 0] rfl⟩
          · exact ⟨hbk, Nat.le_refl _, fun x => by rw [if_neg (by omega)], hF, hP, hD, hS, lv_sub hl [3, 4, 5, 6, 2, 1, 0] rfl⟩
  · intro jn
    refine sf_if_ne (tgt := 23) hx hb (by omega) dX3_change_13 (by decide) (fun c_13 => ?_) (fun c_13 => ?_)
    · refine lv_aload_n hx hb dX3_change_23 rfl (lv_at hl 1 rfl) ?_
      refine va_get (D := (dC, dI)) (ci := 3) (v := .ref b2) (C := RX3) (T := TX3) (N := 8) hx hb hts sf_inX3 hown hK hP 0 rfl rfl 2 (by decide) (hts _ (sf_mem fl_X3_14 rfl)) (fun _ h9 => h9) rfl dX3_change_24 ?_
      refine lv_iload_n hx hb dX3_change_27 rfl (lv_at hl 2 rfl) ?_
      refine sf_iald hx hb hK hP 2 1 rfl rfl (by omega) (by decide) dX3_change_28 ?_
      try dsimp only
      refine sf_iast hx hb hK hP hD hS 2 1 rfl rfl (by omega) (by decide) dX3_change_29 (fun H locs hP hD hS => ?_)
      dsimp only [List.set] at hP hD
      rw [mw_updN] at hP hD
      have hP : va_P (dC, dI) vwCl (mw_w b0 b1 b2 b3 b4 d1 d2 d3 d4 us nu bm tn g za (va_up ss k (ss k)) bk) H := hP
      have hD : va_D A (mw_w b0 b1 b2 b3 b4 d1 d2 d3 d4 us nu bm tn g za (va_up ss k (ss k)) bk) := hD
      rw [show va_up ss k (ss k) = va_up ss k b by rw [hbb, if_neg c_13]] at hP hD
      exact jn _ _ _ ⟨hP, hD, hS, lv_sub hl [1, 2, 3, 0] rfl⟩
    · refine lv_aload_n hx hb dX3_change_16 rfl (lv_at hl 1 rfl) ?_
      refine va_get (D := (dC, dI)) (ci := 3) (v := .int (nI us)) (C := RX3) (T := TX3) (N := 8) hx hb hts sf_inX3 hown hK hP 0 rfl rfl 1 (by decide) (hts _ (sf_mem fl_X3_46 rfl)) (fun _ h9 => h9) rfl dX3_change_17 ?_
      refine lv_goto (tgt := 29) hx hb dX3_change_20 (by decide) ?_
      refine sf_iast hx hb hK hP hD hS 2 1 rfl rfl (by omega) (by decide) dX3_change_29 (fun H locs hP hD hS => ?_)
      dsimp only [List.set] at hP hD
      rw [mw_updN] at hP hD
      have hP : va_P (dC, dI) vwCl (mw_w b0 b1 b2 b3 b4 d1 d2 d3 d4 us nu bm tn g za (va_up ss k us) bk) H := hP
      have hD : va_D A (mw_w b0 b1 b2 b3 b4 d1 d2 d3 d4 us nu bm tn g za (va_up ss k us) bk) := hD
      rw [show va_up ss k us = va_up ss k b by rw [hbb, if_pos c_13]] at hP hD
      exact jn _ _ _ ⟨hP, hD, hS, lv_sub hl [1, 2, 3, 0] rfl⟩
end
section
/-! the reference's state stands for a value (pure) -/
def mw_fr (bk : Nat → Nat) : Nat → List Nat
  | 0 => []
  | m + 1 => bk m :: mw_fr bk m
theorem mw_fr_len {bk : Nat → Nat} : ∀ {m : Nat}, (mw_fr bk m).length = m
  | 0 => rfl
  | m + 1 => by show (mw_fr bk m).length + 1 = m + 1; rw [mw_fr_len]
theorem mw_fr_congr {bk bk2 : Nat → Nat} : ∀ {m : Nat}, (∀ i, i < m → bk2 i = bk i) → mw_fr bk2 m = mw_fr bk m
  | 0, _ => rfl
  | m + 1, h => by
    show bk2 m :: mw_fr bk2 m = bk m :: mw_fr bk m
    rw [h m (by omega), mw_fr_congr (fun i hi => h i (by omega))]
theorem mw_fr_push {bk : Nat → Nat} {m v : Nat} : mw_fr (va_up bk m v) (m + 1) = v :: mw_fr bk m := by
  show va_up bk m v m :: mw_fr (va_up bk m v) m = _
  rw [va_up_self, mw_fr_congr (fun i hi => va_up_ne _ _ (by omega))]
/-- a row's bytes, none where it isn't taken -/
def mln (z : sf_Z) : Nat → Nat := fun k => if zTk z k = 1 then zLn z k else 0
theorem mln_1 {z : sf_Z} {k : Nat} (h : zTk z k = 1) : mln z k = zLn z k := if_pos h
theorem mln_0 {z : sf_Z} {k : Nat} (h : zTk z k ≠ 1) : mln z k = 0 := if_neg h
def mw_R (us nu bm tn : Nat) (g za : Nat → Int32) (ss bk : Nat → Nat) (z : sf_Z) : Prop :=
  nu = zMd z ∧ nu ≤ 20000 ∧ zFr z = mw_fr bk bm ∧ (∀ x, x ∈ zFr z → x < nu ∧ zTk z x = 0) ∧ (zFr z).Nodup ∧ (∀ k, k < nu → zTk z k = 1 → za k = nI (zLn z k) ∧ zLn z k ≤ 16384) ∧ (∀ k, k < nu → zTk z k ≠ 1 → za k = -1) ∧ mw_L us nu (mln z) ss ∧ (∀ k, k < nu → zTk z k = 1 → ∀ i, i < zLn z k → zBy z k i = g (ss k + i)) ∧ tn = zOc z ∧ zOc z = mw_sum (fun k => sf_P (mln z k)) nu ∧ zOc z ≤ 400000 ∧ sb_Fit g
section MR
variable {us nu bm tn : Nat} {g za : Nat → Int32} {ss bk : Nat → Nat} {z : sf_Z}
theorem mw_us (h : mw_R us nu bm tn g za ss bk z) : us ≤ 400000 := by
  obtain ⟨h1, h2, h3, h4, h5, h6, h7, h8, h9, h10, h11, h12, h13⟩ := h
  have := mw_sum_le (f := mln z) (h := fun k => sf_P (mln z k)) (n := nu) (fun k _ => sf_P_ge _)
  rw [← h11, ← h8.1] at this
  omega
theorem mw_hz (h : mw_R us nu bm tn g za ss bk z) : ∀ r, r < nu → (za r ≤ 0 ↔ mln z r = 0) := by
  obtain ⟨h1, h2, h3, h4, h5, h6, h7, h8, h9, h10, h11, h12, h13⟩ := h
  intro r hr
  by_cases q : zTk z r = 1
  · rw [mln_1 q, (h6 r hr q).1]
    have := (h6 r hr q).2
    constructor
    · intro e
      exact Nat.le_zero.mp ((nI_leI (b := 0) (by omega) (by decide)).mp e)
    · intro e
      rw [e]
      decide
  · rw [mln_0 q, h7 r hr q]
    exact ⟨fun _ => rfl, fun _ => by decide⟩
theorem mw_zs (h : mw_R us nu bm tn g za ss bk z) {k : Nat} (hk : k < nu) (hz : ¬ za k < 0) : zrow z (nI k) = some k ∧ zTk z k = 1 ∧ za k = nI (zLn z k) ∧ zLn z k ≤ 16384 ∧ (∀ i, i < zLn z k → zBy z k i = g (ss k + i)) ∧ (∀ i, i < zLn z k → ss k + i < 400000) ∧ sf_P (zLn z k) ≤ zOc z := by
  have hus := mw_us h
  obtain ⟨h1, h2, h3, h4, h5, h6, h7, h8, h9, h10, h11, h12, h13⟩ := h
  have q : zTk z k = 1 := Classical.byContradiction fun q => hz (by rw [h7 k hk q]; decide)
  refine ⟨?_, q, (h6 k hk q).1, (h6 k hk q).2, h9 k hk q, fun i hi => ?_, ?_⟩
  · unfold zrow
    rw [← h1, zi_some hk (by omega)]
    exact if_pos q
  · have := h8.2.1 k hk (by rw [mln_1 q]; omega)
    rw [mln_1 q] at this
    omega
  · have := mw_sum_up (f := fun k => sf_P (mln z k)) (v := 0) hk
    rw [← h11] at this
    try dsimp only at this
    rw [mln_1 q] at this
    omega
theorem mw_zn (h : mw_R us nu bm tn g za ss bk z) {row : Int32} (hr : ∀ k : Nat, k < nu → row = nI k → za k < 0) : zrow z row = none := by
  obtain ⟨h1, h2, h3, h4, h5, h6, h7, h8, h9, h10, h11, h12, h13⟩ := h
  unfold zrow
  by_cases q : ∃ k, k < nu ∧ row = nI k
  · obtain ⟨k, hk, rfl⟩ := q
    rw [← h1, zi_some hk (by omega)]
    have hz := hr k hk rfl
    show (if zTk z k = 1 then some k else none) = none
    rw [if_neg]
    intro e
    rw [(h6 k hk e).1] at hz
    exact nI_pos (by have := (h6 k hk e).2; omega) hz
  · rw [← h1, zi_none (by omega) (fun k hk e => q ⟨k, hk, e⟩)]
/-- two rows with bytes are apart -/
theorem mw_apart (h : mw_R us nu bm tn g za ss bk z) {k j a b : Nat} (hk : k < nu) (hj : j < nu) (tk1 : zTk z k = 1) (tj : zTk z j = 1) (hne : j ≠ k) (ha : a < zLn z j) (hb : b < zLn z k) : ss j + a ≠ ss k + b := by
  have := h.2.2.2.2.2.2.2.1.2.2 j k hj hk hne (by rw [mln_1 tj]; omega) (by rw [mln_1 tk1]; omega)
  rw [mln_1 tj, mln_1 tk1] at this
  omega
theorem mw_R_bytes {g2 : Nat → Int32} {k : Nat} {f : Nat → Int32} (h : mw_R us nu bm tn g za ss bk z) (hF : sb_Fit g2) (ho : ∀ j, j < nu → zTk z j = 1 → j ≠ k → ∀ i, i < zLn z j → g2 (ss j + i) = g (ss j + i)) (hf : ∀ i, i < zLn z k → f i = g2 (ss k + i)) : mw_R us nu bm tn g2 za ss bk (zput z k f) := by
  obtain ⟨h1, h2, h3, h4, h5, h6, h7, h8, h9, h10, h11, h12, h13⟩ := h
  refine ⟨h1, h2, h3, h4, h5, h6, h7, h8, ?_, h10, h11, h12, hF⟩
  intro j hj tj i hi
  show va_up (zBy z) k f j i = _
  by_cases q : j = k
  · subst q
    rw [va_up_self]
    exact hf i hi
  · rw [va_up_ne _ _ q, ho j hj tj q i hi]
    exact h9 j hj tj i hi
theorem mln_zset {k n : Nat} {f : Nat → Int32} (hk : zTk z k = 1) : mln (zset z k n f) = va_up (mln z) k n := by
  funext j
  show (if zTk z j = 1 then va_up (zLn z) k n j else 0) = va_up (mln z) k n j
  by_cases q : j = k
  · subst q
    rw [if_pos hk, va_up_self, va_up_self]
  · rw [va_up_ne _ _ q, va_up_ne _ _ q]
    rfl
theorem mw_R_len {us' : Nat} {k n : Nat} {f g2 : Nat → Int32} {ss2 : Nat → Nat} (h : mw_R us nu bm tn g za ss bk z) (hk : k < nu) (tk1 : zTk z k = 1) (hn : n ≤ 16384) (hroom : sf_P n ≤ sf_P (zLn z k) ∨ zOc z + sf_P n ≤ 400000) (hL : mw_L us' nu (va_up (mln z) k n) ss2) (ho : ∀ j, j < nu → j ≠ k → ∀ i, i < mln z j → g2 (ss2 j + i) = g (ss j + i)) (hf : ∀ i, i < n → f i = g2 (ss2 k + i)) (hF : sb_Fit g2) :
    mw_R us' nu bm (tn + sf_P n - sf_P (mln z k)) g2 (upd za k (nI n)) ss2 bk (zset z k n f) := by
  obtain ⟨h1, h2, h3, h4, h5, h6, h7, h8, h9, h10, h11, h12, h13⟩ := h
  have hsum := mw_sum_up (f := fun k => sf_P (mln z k)) (v := sf_P n) hk
  rw [← h11] at hsum
  try dsimp only at hsum
  rw [mln_1 tk1] at hsum
  refine ⟨h1, h2, h3, h4, h5, ?_, ?_, by rw [mln_zset tk1]; exact hL, ?_, ?_, ?_, ?_, hF⟩
  · intro j hj tj
    show upd za k (nI n) j = nI (va_up (zLn z) k n j) ∧ va_up (zLn z) k n j ≤ 16384
    by_cases q : j = k
    · subst q
      rw [pk_us, va_up_self]
      exact ⟨rfl, hn⟩
    · rw [pk_un q, va_up_ne _ _ q]
      exact h6 j hj tj
  · intro j hj tj
    have q : j ≠ k := fun e => tj (by rw [e]; exact tk1)
    rw [pk_un q]
    exact h7 j hj tj
  · intro j hj tj i hi
    have tj : zTk z j = 1 := tj
    have hi : i < va_up (zLn z) k n j := hi
    show va_up (zBy z) k f j i = _
    by_cases q : j = k
    · subst q
      rw [va_up_self] at hi ⊢
      exact hf i hi
    · rw [va_up_ne _ _ q] at hi ⊢
      rw [ho j hj q i (by rw [mln_1 tj]; exact hi)]
      exact h9 j hj tj i hi
  · show tn + sf_P n - sf_P (mln z k) = zOc z + sf_P n - sf_P (zLn z k)
    rw [h10, mln_1 tk1]
  · show zOc z + sf_P n - sf_P (zLn z k) = mw_sum (fun j => sf_P (mln (zset z k n f) j)) nu
    rw [mln_zset tk1, mw_sum_congr (h := va_up (fun k => sf_P (mln z k)) k (sf_P n)) (fun j _ => by
      by_cases q : j = k
      · rw [q, va_up_self, va_up_self]
      · rw [va_up_ne _ _ q, va_up_ne _ _ q])]
    omega
  · show zOc z + sf_P n - sf_P (zLn z k) ≤ 400000
    omega
theorem mw_R_give {us' : Nat} {k : Nat} {g2 : Nat → Int32} {ss2 : Nat → Nat} (h : mw_R us nu bm tn g za ss bk z) (hk : k < nu) (tk1 : zTk z k = 1) (hL : mw_L us' nu (va_up (mln z) k 0) ss2) (ho : ∀ j, j < nu → j ≠ k → ∀ i, i < mln z j → g2 (ss2 j + i) = g (ss j + i)) (hF : sb_Fit g2) :
    mw_R us' nu (bm + 1) (tn + sf_P 0 - sf_P (mln z k)) g2 (upd (upd za k (nI 0)) k (-1)) ss2 (va_up bk bm k) (zMd z, k :: zFr z, va_up (zTk z) k 0, zLn z, zBy z, zCt z - 1, zOc z - sf_P (zLn z k)) := by
  obtain ⟨h1, h2, h3, h4, h5, h6, h7, h8, h9, h10, h11, h12, h13⟩ := h
  have hsum := mw_sum_up (f := fun k => sf_P (mln z k)) (v := 0) hk
  rw [← h11] at hsum
  try dsimp only at hsum
  rw [mln_1 tk1] at hsum
  have hkf : k ∉ zFr z := fun q => by have := (h4 k q).2; omega
  have em : mln (zMd z, k :: zFr z, va_up (zTk z) k 0, zLn z, zBy z, zCt z - 1, zOc z - sf_P (zLn z k)) = va_up (mln z) k 0 := by
    funext j
    show (if va_up (zTk z) k 0 j = 1 then zLn z j else 0) = va_up (mln z) k 0 j
    by_cases q : j = k
    · subst q
      rw [va_up_self, va_up_self]
      rfl
    · rw [va_up_ne _ _ q, va_up_ne _ _ q]
      rfl
  refine ⟨h1, h2, ?_, ?_, ?_, ?_, ?_, by rw [em]; exact hL, ?_, ?_, ?_, ?_, hF⟩
  · show k :: zFr z = _
    rw [mw_fr_push, h3]
  · intro x hx
    show x < nu ∧ va_up (zTk z) k 0 x = 0
    rcases List.mem_cons.mp hx with q | q
    · subst q
      exact ⟨hk, va_up_self _ _ _⟩
    · rw [va_up_ne _ _ (show x ≠ k from fun e => hkf (e ▸ q))]
      exact h4 x q
  · show (k :: zFr z).Nodup
    rw [List.nodup_cons]
    exact ⟨hkf, h5⟩
  · intro j hj tj
    have tj : va_up (zTk z) k 0 j = 1 := tj
    have q : j ≠ k := fun e => by rw [e, va_up_self] at tj; cases tj
    rw [va_up_ne _ _ q] at tj
    rw [pk_un q, pk_un q]
    exact h6 j hj tj
  · intro j hj tj
    have tj : va_up (zTk z) k 0 j ≠ 1 := tj
    by_cases q : j = k
    · subst q
      rw [pk_us]
    · rw [va_up_ne _ _ q] at tj
      rw [pk_un q, pk_un q]
      exact h7 j hj tj
  · intro j hj tj i hi
    have tj : va_up (zTk z) k 0 j = 1 := tj
    have q : j ≠ k := fun e => by rw [e, va_up_self] at tj; cases tj
    rw [va_up_ne _ _ q] at tj
    rw [ho j hj q i (by rw [mln_1 tj]; exact hi)]
    exact h9 j hj tj i hi
  · show tn + sf_P 0 - sf_P (mln z k) = zOc z - sf_P (zLn z k)
    rw [h10, mln_1 tk1]
    rfl
  · show zOc z - sf_P (zLn z k) = mw_sum _ nu
    rw [em, mw_sum_congr (h := va_up (fun k => sf_P (mln z k)) k 0) (fun j _ => by
      by_cases q : j = k
      · rw [q, va_up_self, va_up_self]; rfl
      · rw [va_up_ne _ _ q, va_up_ne _ _ q])]
    omega
  · show zOc z - sf_P (zLn z k) ≤ 400000
    omega
/-- a row is taken: k is the number, nu2 the numbers then, bm2 those given back then -/
theorem mw_R_take {us' nu2 bm2 k n : Nat} {g2 : Nat → Int32} {ss2 : Nat → Nat} {fr2 : List Nat} (h : mw_R us nu bm tn g za ss bk z) (hk : k < nu2) (hnu2 : nu2 ≤ 20000) (hle : nu ≤ nu2) (hall : ∀ j, j < nu2 → j ≠ k → j < nu) (hkn : k < nu → zTk z k ≠ 1) (hfr : fr2 = mw_fr bk bm2) (hf2 : ∀ x, x ∈ fr2 → x < nu2 ∧ x ≠ k ∧ zTk z x = 0) (hnd : fr2.Nodup) (hn : n ≤ 16384) (hroom : zOc z + sf_P n ≤ 400000) (hs0 : mw_sum (va_up (fun j => sf_P (mln z j)) k 0) nu2 = zOc z)
    (hL : mw_L us' nu2 (va_up (va_up (mln z) k 0) k n) ss2) (ho : ∀ j, j < nu2 → j ≠ k → ∀ i, i < va_up (mln z) k 0 j → g2 (ss2 j + i) = g (ss j + i)) (hf : ∀ i, i < n → g2 (ss2 k + i) = 0) (hF : sb_Fit g2) :
    mw_R us' nu2 bm2 (tn + sf_P n - sf_P 0) g2 (upd (upd za k (nI 0)) k (nI n)) ss2 bk (nu2, fr2, va_up (zTk z) k 1, va_up (zLn z) k n, va_up (zBy z) k (fun _ => 0), zCt z + 1, zOc z + sf_P n) := by
  obtain ⟨h1, h2, h3, h4, h5, h6, h7, h8, h9, h10, h11, h12, h13⟩ := h
  have em : mln (nu2, fr2, va_up (zTk z) k 1, va_up (zLn z) k n, va_up (zBy z) k (fun _ => 0), zCt z + 1, zOc z + sf_P n) = va_up (mln z) k n := by
    funext j
    show (if va_up (zTk z) k 1 j = 1 then va_up (zLn z) k n j else 0) = va_up (mln z) k n j
    by_cases q : j = k
    · subst q
      rw [va_up_self, va_up_self, va_up_self]
      rfl
    · rw [va_up_ne _ _ q, va_up_ne _ _ q, va_up_ne _ _ q]
      rfl
  rw [bx_uu] at hL
  refine ⟨rfl, hnu2, hfr, ?_, hnd, ?_, ?_, by rw [em]; exact hL, ?_, ?_, ?_, hroom, hF⟩
  · intro x hx
    show x < nu2 ∧ va_up (zTk z) k 1 x = 0
    obtain ⟨q1, q2, q3⟩ := hf2 x hx
    rw [va_up_ne _ _ q2]
    exact ⟨q1, q3⟩
  · intro j hj tj
    have tj : va_up (zTk z) k 1 j = 1 := tj
    show upd (upd za k (nI 0)) k (nI n) j = nI (va_up (zLn z) k n j) ∧ va_up (zLn z) k n j ≤ 16384
    by_cases q : j = k
    · subst q
      rw [pk_us, va_up_self]
      exact ⟨rfl, hn⟩
    · rw [va_up_ne _ _ q] at tj
      rw [pk_un q, pk_un q, va_up_ne _ _ q]
      exact h6 j (hall j hj q) tj
  · intro j hj tj
    have tj : va_up (zTk z) k 1 j ≠ 1 := tj
    have q : j ≠ k := fun e => tj (by rw [e, va_up_self])
    rw [va_up_ne _ _ q] at tj
    rw [pk_un q, pk_un q]
    exact h7 j (hall j hj q) tj
  · intro j hj tj i hi
    have tj : va_up (zTk z) k 1 j = 1 := tj
    have hi : i < va_up (zLn z) k n j := hi
    show va_up (zBy z) k (fun _ => 0) j i = _
    by_cases q : j = k
    · subst q
      rw [va_up_self] at hi ⊢
      exact (hf i hi).symm
    · rw [va_up_ne _ _ q] at hi tj ⊢
      rw [ho j hj q i (by rw [va_up_ne _ _ q, mln_1 tj]; exact hi)]
      exact h9 j (hall j hj q) tj i hi
  · show tn + sf_P n - sf_P 0 = zOc z + sf_P n
    rw [h10]
    rfl
  · show zOc z + sf_P n = mw_sum _ nu2
    have hsum := mw_sum_up (f := va_up (fun j => sf_P (mln z j)) k 0) (v := sf_P n) hk
    rw [hs0, va_up_self, bx_uu] at hsum
    rw [em, mw_sum_congr (h := va_up (fun k => sf_P (mln z k)) k (sf_P n)) (fun j _ => by
      by_cases q : j = k
      · rw [q, va_up_self, va_up_self]
      · rw [va_up_ne _ _ q, va_up_ne _ _ q])]
    omega
end MR
end
section
/-! the reference: its reads -/
set_option maxHeartbeats 4000000 in
set_option maxRecDepth 100000 in
/-- get(row, i) -/
theorem m_get (l : Launch) (dC : Nat → ClassId) (dI : Nat → Nat → Nat) (b0 b1 b2 b3 b4 : Nat) (d1 d2 d3 d4 : ClassId) (us nu bm tn : Nat) (g za : Nat → Int32) (ss bk : Nat → Nat) (sz : Nat) (z : sf_Z) (hR : mw_R us nu bm tn g za ss bk z) (row i : Int32) : Met l yX3_get wsX3_get ({ frames := 1, cells := 0, slots := 0, locals := 30 } : Room) (sf_Pre (dC, dI) vwCl [(d1, .byte), (d2, .int), (d3, .int), (d4, .int)] [.ref b0, .int row, .int i] (mw_w b0 b1 b2 b3 b4 d1 d2 d3 d4 us nu bm tn g za ss bk) sz) (vp_Si (fun r => r = zs_get z row i)) 0 0 (fun _ => False) := by
  refine Met.ofW (cc := cX3_get) (maxL := 3) (ret := (some .int)) (by decide) rfl ?_
  intro p e s m args below meth c s₁ B hml hv
  obtain ⟨rfl, hsz, hP, hK, hD0, hN⟩ := hv
  have hx := B.exec
  have hb := B.bytes
  have hr := B.returns
  have hts := atoms_spec (ws := wsX3_get) B.pre
  have hown : s.vm.findClass RX3 = some m.cls := findClass_of_methodNamed B.named
  have hlocks := B.notSynchronized
  subst hsz
  have hD := hD0.self (sz := s.heap.size)
  generalize hAe : va_A (mw_w b0 b1 b2 b3 b4 d1 d2 d3 d4 us nu bm tn g za ss bk) s.heap.size = A at hD ⊢
  have hA : ∀ q : Nat, s.heap.size ≤ q → A q := fun q h => by rw [← hAe]; exact Or.inr h
  have hS : va_S A s.heap s.heap [] := va_S.rf
  have hl := lv_entry ([.ref b0, .int row, .int i]) (n := 3) (Nat.le_of_ble_eq_true rfl)
  rw [lg_entry_eq]
  generalize (lg_sl ([.ref b0, .int row, .int i]) ++ List.replicate (3 - (lg_sl ([.ref b0, .int row, .int i])).length) Slot.unset).toArray = ls at hl ⊢
  have hl : lv_has ls 3 [(0, .ref b0), (1, .int row), (2, .int i)] := hl
  refine lv_aload_n hx hb dX3_get_0 rfl (lv_at hl 0 rfl) ?_
  refine lv_iload_n hx hb dX3_get_1 rfl (lv_at hl 1 rfl) ?_
  refine vp_callSi (va_Run.run (sf_runV (b := b0) (As := [.int row]) (rest := []) ⟨hx, hb, hml, hown, hts⟩ sf_has (m_isRow l dC dI b0 b1 b2 b3 b4 d1 d2 d3 d4 us nu bm tn g za ss bk _ _ hR.2.1) k_X3_52 ⟨sf_blind, va_recv hK hP (ci := 3) (q0 := 0) rfl rfl, sf_preU hP hK hD hN⟩ rfl hl.1 (Nat.le_of_ble_eq_true rfl) ⟨(Nat.le_of_ble_eq_true rfl), (Nat.le_of_ble_eq_true rfl)⟩ ⟨rfl, rfl⟩ ⟨Nat.zero_le _, Nat.zero_le _⟩ dX3_get_2)) (fun r_2 h_2 => ?_)
  rcases h_2 with ⟨rfl, h_2⟩ | ⟨rfl, h_2⟩
  · obtain ⟨k_2, q1_2, q2_2, q3_2⟩ := h_2
    subst q2_2
    have hl : lv_has ls 3 [(0, .ref b0), (1, .int (nI k_2)), (2, .int i)] := hl
    obtain ⟨f1_2, f2_2, f3_2, f4_2, f5_2, f6_2, f7_2⟩ := mw_zs hR q1_2 q3_2
    have hnu := hR.2.1
    refine sf_if_eq (tgt := 42) hx hb (by decide) dX3_get_5 (by decide) (fun c_5 => absurd c_5 (by decide)) (fun _ => ?_)
    refine lv_iload_n hx hb dX3_get_8 rfl (lv_at hl 2 rfl) ?_
    refine lv_if_lt (tgt := 42) hx hb dX3_get_9 (by decide) (fun c_9 => ?_) (fun c_9 => ?_)
    · have hzj : zi i (zLn z k_2) = none := zi_none (by omega) (fun k hk q => nI_pos (n := k) (by omega) (by rw [← q]; exact c_9))
      refine lv_iconst (v := -1) hx hb dX3_get_42 (by decide) ?_
      exact W.iret (v := -1) hx hb hr (fun t ht hW => ⟨_, rfl, (zs_get_2 f1_2 hzj).symm, ht⟩) sf_noloc dX3_get_43
    · obtain ⟨j, hj0, rfl⟩ := nI_of c_9
      have hl : lv_has ls 3 [(0, .ref b0), (1, .int (nI k_2)), (2, .int (nI j))] := hl
      refine lv_iload_n hx hb dX3_get_12 rfl (lv_at hl 2 rfl) ?_
      refine lv_aload_n hx hb dX3_get_13 rfl (lv_at hl 0 rfl) ?_
      refine va_get (D := (dC, dI)) (ci := 3) (v := .ref b3) (C := RX3) (T := TX3) (N := 8) hx hb hts sf_inX3 hown hK hP 0 rfl rfl 3 (by decide) (hts _ (sf_mem fl_X3_18 rfl)) (fun _ h9 => h9) rfl dX3_get_14 ?_
      refine lv_iload_n hx hb dX3_get_17 rfl (lv_at hl 1 rfl) ?_
      refine sf_iald hx hb hK hP 3 2 rfl rfl (by omega) (by decide) dX3_get_18 ?_
      rw [f3_2]
      refine sf_icmp_ge (tgt := 42) hx hb (by omega) (by omega) dX3_get_19 (by decide) (fun c_19 => ?_) (fun c_19 => ?_)
      · have hzj : zi (nI j) (zLn z k_2) = none := zi_none (by omega) (fun k hk q => by
          have := (nI_eq hj0 (by omega)).mp q
          omega)
        refine lv_iconst (v := -1) hx hb dX3_get_42 (by decide) ?_
        exact W.iret (v := -1) hx hb hr (fun t ht hW => ⟨_, rfl, (zs_get_2 f1_2 hzj).symm, ht⟩) sf_noloc dX3_get_43
      · have hzj : zi (nI j) (zLn z k_2) = some j := zi_some c_19 (by omega)
        have hb6 := f6_2 j c_19
        refine lv_aload_n hx hb dX3_get_22 rfl (lv_at hl 0 rfl) ?_
        refine va_get (D := (dC, dI)) (ci := 3) (v := .ref b1) (C := RX3) (T := TX3) (N := 8) hx hb hts sf_inX3 hown hK hP 0 rfl rfl 0 (by decide) (hts _ (sf_mem fl_X3_8 rfl)) (fun _ h9 => h9) rfl dX3_get_23 ?_
        refine lv_aload_n hx hb dX3_get_26 rfl (lv_at hl 0 rfl) ?_
        refine va_get (D := (dC, dI)) (ci := 3) (v := .ref b2) (C := RX3) (T := TX3) (N := 8) hx hb hts sf_inX3 hown hK hP 0 rfl rfl 2 (by decide) (hts _ (sf_mem fl_X3_14 rfl)) (fun _ h9 => h9) rfl dX3_get_27 ?_
        refine lv_iload_n hx hb dX3_get_30 rfl (lv_at hl 1 rfl) ?_
        refine sf_iald hx hb hK hP 2 1 rfl rfl (by omega) (by decide) dX3_get_31 ?_
        try dsimp only
        refine lv_iload_n hx hb dX3_get_32 rfl (lv_at hl 2 rfl) ?_
        refine sf_iadd hx hb dX3_get_33 ?_
        refine sf_bald hx hb hK hP 1 0 rfl rfl (by omega) (by decide) dX3_get_34 ?_
        refine lv_sipush (v := nI 255) hx hb dX3_get_35 (by decide) ?_
        refine lv_iand hx hb dX3_get_38 ?_
        refine lv_goto (tgt := 43) hx hb dX3_get_39 (by decide) ?_
        exact W.iret (v := (g (ss k_2 + j) &&& nI 255)) hx hb hr (fun t ht hW => ⟨_, rfl, by rw [zs_get_3 f1_2 hzj, f5_2 j c_19]; rfl, ht⟩) sf_noloc dX3_get_43
  · have f1_2 := mw_zn hR h_2
    refine sf_if_eq (tgt := 42) hx hb (by decide) dX3_get_5 (by decide) (fun _ => ?_) (fun c_5 => absurd c_5 (by decide))
    refine lv_iconst (v := -1) hx hb dX3_get_42 (by decide) ?_
    exact W.iret (v := -1) hx hb hr (fun t ht hW => ⟨_, rfl, (zs_get_1 f1_2).symm, ht⟩) sf_noloc dX3_get_43
set_option maxHeartbeats 4000000 in
set_option maxRecDepth 100000 in
/-- size(row) -/
theorem m_size (l : Launch) (dC : Nat → ClassId) (dI : Nat → Nat → Nat) (b0 b1 b2 b3 b4 : Nat) (d1 d2 d3 d4 : ClassId) (us nu bm tn : Nat) (g za : Nat → Int32) (ss bk : Nat → Nat) (sz : Nat) (z : sf_Z) (hR : mw_R us nu bm tn g za ss bk z) (row : Int32) : Met l yX3_size wsX3_size ({ frames := 1, cells := 0, slots := 0, locals := 30 } : Room) (sf_Pre (dC, dI) vwCl [(d1, .byte), (d2, .int), (d3, .int), (d4, .int)] [.ref b0, .int row] (mw_w b0 b1 b2 b3 b4 d1 d2 d3 d4 us nu bm tn g za ss bk) sz) (vp_Si (fun r => r = zs_size z row)) 0 0 (fun _ => False) := by
  refine Met.ofW (cc := cX3_size) (maxL := 2) (ret := (some .int)) (by decide) rfl ?_
  intro p e s m args below meth c s₁ B hml hv
  obtain ⟨rfl, hsz, hP, hK, hD0, hN⟩ := hv
  have hx := B.exec
  have hb := B.bytes
  have hr := B.returns
  have hts := atoms_spec (ws := wsX3_size) B.pre
  have hown : s.vm.findClass RX3 = some m.cls := findClass_of_methodNamed B.named
  have hlocks := B.notSynchronized
  subst hsz
  have hD := hD0.self (sz := s.heap.size)
  generalize hAe : va_A (mw_w b0 b1 b2 b3 b4 d1 d2 d3 d4 us nu bm tn g za ss bk) s.heap.size = A at hD ⊢
  have hA : ∀ q : Nat, s.heap.size ≤ q → A q := fun q h => by rw [← hAe]; exact Or.inr h
  have hS : va_S A s.heap s.heap [] := va_S.rf
  have hl := lv_entry ([.ref b0, .int row]) (n := 2) (Nat.le_of_ble_eq_true rfl)
  rw [lg_entry_eq]
  generalize (lg_sl ([.ref b0, .int row]) ++ List.replicate (2 - (lg_sl ([.ref b0, .int row])).length) Slot.unset).toArray = ls at hl ⊢
  have hl : lv_has ls 2 [(0, .ref b0), (1, .int row)] := hl
  refine lv_aload_n hx hb dX3_size_0 rfl (lv_at hl 0 rfl) ?_
  refine lv_iload_n hx hb dX3_size_1 rfl (lv_at hl 1 rfl) ?_
  refine vp_callSi (va_Run.run (sf_runV (b := b0) (As := [.int row]) (rest := []) ⟨hx, hb, hml, hown, hts⟩ sf_has (m_isRow l dC dI b0 b1 b2 b3 b4 d1 d2 d3 d4 us nu bm tn g za ss bk _ _ hR.2.1) k_X3_52 ⟨sf_blind, va_recv hK hP (ci := 3) (q0 := 0) rfl rfl, sf_preU hP hK hD hN⟩ rfl hl.1 (Nat.le_of_ble_eq_true rfl) ⟨(Nat.le_of_ble_eq_true rfl), (Nat.le_of_ble_eq_true rfl)⟩ ⟨rfl, rfl⟩ ⟨Nat.zero_le _, Nat.zero_le _⟩ dX3_size_2)) (fun r_2 h_2 => ?_)
  rcases h_2 with ⟨rfl, h_2⟩ | ⟨rfl, h_2⟩
  · obtain ⟨k_2, q1_2, q2_2, q3_2⟩ := h_2
    subst q2_2
    have hl : lv_has ls 2 [(0, .ref b0), (1, .int (nI k_2))] := hl
    obtain ⟨f1_2, f2_2, f3_2, f4_2, f5_2, f6_2, f7_2⟩ := mw_zs hR q1_2 q3_2
    have hnu := hR.2.1
    refine sf_if_eq (tgt := 17) hx hb (by decide) dX3_size_5 (by decide) (fun c_5 => absurd c_5 (by decide)) (fun _ => ?_)
    refine lv_aload_n hx hb dX3_size_8 rfl (lv_at hl 0 rfl) ?_
    refine va_get (D := (dC, dI)) (ci := 3) (v := .ref b3) (C := RX3) (T := TX3) (N := 8) hx hb hts sf_inX3 hown hK hP 0 rfl rfl 3 (by decide) (hts _ (sf_mem fl_X3_18 rfl)) (fun _ h9 => h9) rfl dX3_size_9 ?_
    refine lv_iload_n hx hb dX3_size_12 rfl (lv_at hl 1 rfl) ?_
    refine sf_iald hx hb hK hP 3 2 rfl rfl (by omega) (by decide) dX3_size_13 ?_
    rw [f3_2]
    refine lv_goto (tgt := 18) hx hb dX3_size_14 (by decide) ?_
    exact W.iret (v := nI (zLn z k_2)) hx hb hr (fun t ht hW => ⟨_, rfl, (zs_size_2 f1_2).symm, ht⟩) sf_noloc dX3_size_18
  · have f1_2 := mw_zn hR h_2
    refine sf_if_eq (tgt := 17) hx hb (by decide) dX3_size_5 (by decide) (fun _ => ?_) (fun c_5 => absurd c_5 (by decide))
    refine lv_iconst (v := -1) hx hb dX3_size_17 (by decide) ?_
    exact W.iret (v := -1) hx hb hr (fun t ht hW => ⟨_, rfl, (zs_size_1 f1_2).symm, ht⟩) sf_noloc dX3_size_18
theorem mw_bal {us nu bm tn : Nat} {g za : Nat → Int32} {ss bk : Nat → Nat} {z : sf_Z} (h : mw_R us nu bm tn g za ss bk z) (hb : zMd z = zCt z + (zFr z).length) : bm ≤ nu ∧ nu - bm = zCt z := by
  obtain ⟨h1, h2, h3, -⟩ := h
  rw [h3, mw_fr_len] at hb
  omega
set_option maxHeartbeats 4000000 in
set_option maxRecDepth 100000 in
/-- rows() -/
theorem m_rows (l : Launch) (dC : Nat → ClassId) (dI : Nat → Nat → Nat) (b0 b1 b2 b3 b4 : Nat) (d1 d2 d3 d4 : ClassId) (us nu bm tn : Nat) (g za : Nat → Int32) (ss bk : Nat → Nat) (sz : Nat) (z : sf_Z) (hR : mw_R us nu bm tn g za ss bk z) (hbal : zMd z = zCt z + (zFr z).length) : Met l yX3_rows wsX3_rows ({ frames := 1, cells := 0, slots := 0, locals := 30 } : Room) (sf_Pre (dC, dI) vwCl [(d1, .byte), (d2, .int), (d3, .int), (d4, .int)] [.ref b0] (mw_w b0 b1 b2 b3 b4 d1 d2 d3 d4 us nu bm tn g za ss bk) sz) (vp_Si (fun r => r = nI (zCt z))) 0 0 (fun _ => False) := by
  refine Met.ofW (cc := cX3_rows) (maxL := 1) (ret := (some .int)) (by decide) rfl ?_
  intro p e s m args below meth c s₁ B hml hv
  obtain ⟨rfl, hsz, hP, hK, hD0, hN⟩ := hv
  have hx := B.exec
  have hb := B.bytes
  have hr := B.returns
  have hts := atoms_spec (ws := wsX3_rows) B.pre
  have hown : s.vm.findClass RX3 = some m.cls := findClass_of_methodNamed B.named
  have hlocks := B.notSynchronized
  subst hsz
  have hD := hD0.self (sz := s.heap.size)
  generalize hAe : va_A (mw_w b0 b1 b2 b3 b4 d1 d2 d3 d4 us nu bm tn g za ss bk) s.heap.size = A at hD ⊢
  have hA : ∀ q : Nat, s.heap.size ≤ q → A q := fun q h => by rw [← hAe]; exact Or.inr h
  have hS : va_S A s.heap s.heap [] := va_S.rf
  have hl := lv_entry ([.ref b0]) (n := 1) (Nat.le_of_ble_eq_true rfl)
  rw [lg_entry_eq]
  generalize (lg_sl ([.ref b0]) ++ List.replicate (1 - (lg_sl ([.ref b0])).length) Slot.unset).toArray = ls at hl ⊢
  have hl : lv_has ls 1 [(0, .ref b0)] := hl
  have hbm := mw_bal hR hbal
  refine lv_aload_n hx hb dX3_rows_0 rfl (lv_at hl 0 rfl) ?_
  refine vp_callSi (va_Run.run (sf_runV (b := b0) (As := []) (rest := []) ⟨hx, hb, hml, hown, hts⟩ sf_has (m_many l dC dI b0 b1 b2 b3 b4 d1 d2 d3 d4 us nu bm tn g za ss bk _ hbm.1) k_X3_31 ⟨sf_blind, va_recv hK hP (ci := 3) (q0 := 0) rfl rfl, sf_preU hP hK hD hN⟩ rfl hl.1 (Nat.le_of_ble_eq_true rfl) ⟨(Nat.le_of_ble_eq_true rfl), (Nat.le_of_ble_eq_true rfl)⟩ ⟨rfl, rfl⟩ ⟨Nat.zero_le _, Nat.zero_le _⟩ dX3_rows_1)) (fun r_1 h_1 => ?_)
  subst h_1
  exact W.iret (v := nI (nu - bm)) hx hb hr (fun t ht hW => ⟨_, rfl, by rw [hbm.2], ht⟩) sf_noloc dX3_rows_4
set_option maxHeartbeats 4000000 in
set_option maxRecDepth 100000 in
/-- places() -/
theorem m_places (l : Launch) (dC : Nat → ClassId) (dI : Nat → Nat → Nat) (b0 b1 b2 b3 b4 : Nat) (d1 d2 d3 d4 : ClassId) (us nu bm tn : Nat) (g za : Nat → Int32) (ss bk : Nat → Nat) (sz : Nat) (z : sf_Z) (hR : mw_R us nu bm tn g za ss bk z)  : Met l yX3_places wsX3_places ({ frames := 0, cells := 0, slots := 0, locals := 0 } : Room) (sf_Pre (dC, dI) vwCl [(d1, .byte), (d2, .int), (d3, .int), (d4, .int)] [.ref b0] (mw_w b0 b1 b2 b3 b4 d1 d2 d3 d4 us nu bm tn g za ss bk) sz) (vp_Si (fun r => r = nI (zOc z))) 0 0 (fun _ => False) := by
  refine Met.ofW (cc := cX3_places) (maxL := 1) (ret := (some .int)) (by decide) rfl ?_
  intro p e s m args below meth c s₁ B hml hv
  obtain ⟨rfl, hsz, hP, hK, hD0, hN⟩ := hv
  have hx := B.exec
  have hb := B.bytes
  have hr := B.returns
  have hts := atoms_spec (ws := wsX3_places) B.pre
  have hown : s.vm.findClass RX3 = some m.cls := findClass_of_methodNamed B.named
  have hlocks := B.notSynchronized
  subst hsz
  have hD := hD0.self (sz := s.heap.size)
  generalize hAe : va_A (mw_w b0 b1 b2 b3 b4 d1 d2 d3 d4 us nu bm tn g za ss bk) s.heap.size = A at hD ⊢
  have hA : ∀ q : Nat, s.heap.size ≤ q → A q := fun q h => by rw [← hAe]; exact Or.inr h
  have hS : va_S A s.heap s.heap [] := va_S.rf
  have hl := lv_entry ([.ref b0]) (n := 1) (Nat.le_of_ble_eq_true rfl)
  rw [lg_entry_eq]
  generalize (lg_sl ([.ref b0]) ++ List.replicate (1 - (lg_sl ([.ref b0])).length) Slot.unset).toArray = ls at hl ⊢
  have hl : lv_has ls 1 [(0, .ref b0)] := hl
  refine lv_aload_n hx hb dX3_places_0 rfl (lv_at hl 0 rfl) ?_
  refine va_get (D := (dC, dI)) (ci := 3) (v := .int (nI tn)) (C := RX3) (T := TX3) (N := 8) hx hb hts sf_inX3 hown hK hP 0 rfl rfl 7 (by decide) (hts _ (sf_mem fl_X3_35 rfl)) (fun _ h9 => h9) rfl dX3_places_1 ?_
  exact W.iret (v := nI tn) hx hb hr (fun t ht hW => ⟨_, rfl, by rw [hR.2.2.2.2.2.2.2.2.2.1], ht⟩) sf_noloc dX3_places_4
theorem mw_ln {us nu bm tn : Nat} {g za : Nat → Int32} {ss bk : Nat → Nat} {z : sf_Z} (h : mw_R us nu bm tn g za ss bk z) {row : Int32} {k : Nat} (hr : zrow z row = some k) : zLn z k ≤ 16384 := by
  obtain ⟨h1, h2, h3, h4, h5, h6, -⟩ := h
  unfold zrow at hr
  split at hr
  · cases hr
  · rename_i j e
    split at hr
    · rename_i t
      cases hr
      have := (zi_inv (by omega) e).2
      exact (h6 k (by omega) t).2
    · cases hr
set_option maxHeartbeats 4000000 in
set_option maxRecDepth 100000 in
/-- sum(row) -/
theorem m_sum (l : Launch) (dC : Nat → ClassId) (dI : Nat → Nat → Nat) (b0 b1 b2 b3 b4 : Nat) (d1 d2 d3 d4 : ClassId) (us nu bm tn : Nat) (g za : Nat → Int32) (ss bk : Nat → Nat) (sz : Nat) (z : sf_Z) (hR : mw_R us nu bm tn g za ss bk z) (row : Int32) : Met l yX3_sum wsX3_sum ({ frames := 2, cells := 0, slots := 0, locals := 60 } : Room) (sf_Pre (dC, dI) vwCl [(d1, .byte), (d2, .int), (d3, .int), (d4, .int)] [.ref b0, .int row] (mw_w b0 b1 b2 b3 b4 d1 d2 d3 d4 us nu bm tn g za ss bk) sz) (vp_Si (fun r => r = zs_sum z row)) 0 0 (fun _ => False) := by
  refine Met.ofW (cc := cX3_sum) (maxL := 4) (ret := (some .int)) (by decide) rfl ?_
  intro p e s m args below meth c s₁ B hml hv
  obtain ⟨rfl, hsz, hP, hK, hD0, hN⟩ := hv
  have hx := B.exec
  have hb := B.bytes
  have hr := B.returns
  have hts := atoms_spec (ws := wsX3_sum) B.pre
  have hown : s.vm.findClass RX3 = some m.cls := findClass_of_methodNamed B.named
  have hlocks := B.notSynchronized
  subst hsz
  have hD := hD0.self (sz := s.heap.size)
  generalize hAe : va_A (mw_w b0 b1 b2 b3 b4 d1 d2 d3 d4 us nu bm tn g za ss bk) s.heap.size = A at hD ⊢
  have hA : ∀ q : Nat, s.heap.size ≤ q → A q := fun q h => by rw [← hAe]; exact Or.inr h
  have hS : va_S A s.heap s.heap [] := va_S.rf
  have hl := lv_entry ([.ref b0, .int row]) (n := 4) (Nat.le_of_ble_eq_true rfl)
  rw [lg_entry_eq]
  generalize (lg_sl ([.ref b0, .int row]) ++ List.replicate (4 - (lg_sl ([.ref b0, .int row])).length) Slot.unset).toArray = ls at hl ⊢
  have hl : lv_has ls 4 [(0, .ref b0), (1, .int row)] := hl
  have hnu := hR.2.1
  rcases hzr : zrow z row with _ | k
  · skip
    refine lv_bipush (v := nI 7) hx hb dX3_sum_0 (by decide) ?_
    refine lv_istore_n (lv' := [(2, .int (nI 7)), (0, .ref b0), (1, .int row)]) hx hb dX3_sum_2 rfl hl (by decide) rfl (fun ls hl => ?_)
    refine lv_iconst (v := nI 0) hx hb dX3_sum_3 (by decide) ?_
    refine lv_istore_n (lv' := [(3, .int (nI 0)), (2, .int (nI 7)), (0, .ref b0), (1, .int row)]) hx hb dX3_sum_4 rfl hl (by decide) rfl (fun ls hl => ?_)
    refine lv_iload_n hx hb dX3_sum_5 rfl (lv_at hl 0 rfl) ?_
    refine lv_aload_n hx hb dX3_sum_6 rfl (lv_at hl 2 rfl) ?_
    refine lv_iload_n hx hb dX3_sum_7 rfl (lv_at hl 3 rfl) ?_
    refine vp_callSi (va_Run.run (sf_runV (b := b0) (As := [.int row]) (rest := [.int (nI 0)]) ⟨hx, hb, hml, hown, hts⟩ sf_has (m_size l dC dI b0 b1 b2 b3 b4 d1 d2 d3 d4 us nu bm tn g za ss bk _ z hR row) k_X3_64 ⟨sf_blind, va_recv hK hP (ci := 3) (q0 := 0) rfl rfl, sf_preU hP hK hD hN⟩ rfl hl.1 (Nat.le_of_ble_eq_true rfl) ⟨(Nat.le_of_ble_eq_true rfl), (Nat.le_of_ble_eq_true rfl)⟩ ⟨rfl, rfl⟩ ⟨Nat.zero_le _, Nat.zero_le _⟩ dX3_sum_8)) (fun r_8 h_8 => ?_)
    rw [zs_size_1 hzr] at h_8
    subst h_8
    refine lv_icmp_ge (tgt := 32) hx hb dX3_sum_11 (by decide) (fun c_11 => ?_) (fun c_11 => ?_)
    · refine lv_aload_n hx hb dX3_sum_32 rfl (lv_at hl 2 rfl) ?_
      refine lv_iload_n hx hb dX3_sum_33 rfl (lv_at hl 3 rfl) ?_
      refine vp_callSi (va_Run.run (sf_runV (b := b0) (As := [.int row]) (rest := []) ⟨hx, hb, hml, hown, hts⟩ sf_has (m_isRow l dC dI b0 b1 b2 b3 b4 d1 d2 d3 d4 us nu bm tn g za ss bk _ _ hR.2.1) k_X3_52 ⟨sf_blind, va_recv hK hP (ci := 3) (q0 := 0) rfl rfl, sf_preU hP hK hD hN⟩ rfl hl.1 (Nat.le_of_ble_eq_true rfl) ⟨(Nat.le_of_ble_eq_true rfl), (Nat.le_of_ble_eq_true rfl)⟩ ⟨rfl, rfl⟩ ⟨Nat.zero_le _, Nat.zero_le _⟩ dX3_sum_34)) (fun r_34 h_34 => ?_)
      rcases h_34 with ⟨rfl, h_34⟩ | ⟨rfl, h_34⟩
      · obtain ⟨k_34, q1_34, q2_34, q3_34⟩ := h_34
        subst q2_34
        have hl : lv_has ls 4 [(3, .int (nI 0)), (2, .int (nI 7)), (0, .ref b0), (1, .int (nI k_34))] := hl
        obtain ⟨f1_34, f2_34, f3_34, f4_34, f5_34, f6_34, f7_34⟩ := mw_zs hR q1_34 q3_34
        have hnu := hR.2.1
        rw [f1_34] at hzr
        cases hzr
      · have f1_34 := mw_zn hR h_34
        refine sf_if_eq (tgt := 44) hx hb (by decide) dX3_sum_37 (by decide) (fun _ => ?_) (fun c_37 => absurd c_37 (by decide))
        refine lv_iconst (v := nI 0) hx hb dX3_sum_44 (by decide) ?_
        exact W.iret (v := nI 0) hx hb hr (fun t ht hW => ⟨_, rfl, (zs_sum_1 hzr).symm, ht⟩) sf_noloc dX3_sum_45
    · exact absurd (by decide) c_11
  · have hlnk := mw_ln hR hzr
    refine lv_bipush (v := nI 7) hx hb dX3_sum_0 (by decide) ?_
    refine lv_istore_n (lv' := [(2, .int (nI 7)), (0, .ref b0), (1, .int row)]) hx hb dX3_sum_2 rfl hl (by decide) rfl (fun ls hl => ?_)
    refine lv_iconst (v := nI 0) hx hb dX3_sum_3 (by decide) ?_
    refine lv_istore_n (lv' := [(3, .int (nI 0)), (2, .int (nI 7)), (0, .ref b0), (1, .int row)]) hx hb dX3_sum_4 rfl hl (by decide) rfl (fun ls hl => ?_)
    refine sf_loop (σ := Nat × Int32) (fun u => zLn z k - u.1) (fun u H locs ls => u.1 ≤ zLn z k ∧ zsum (zBy z k) (zLn z k - u.1) u.1 u.2 = zsum (zBy z k) (zLn z k) 0 7 ∧ H = s.heap ∧ locs = [] ∧ lv_has ls 4 [(0, .ref b0), (1, .int row), (2, .int u.2), (3, .int (nI u.1))]) ?_ (0, 7) _ _ _ ?_
    · intro u H locs ls hI2 ih
      obtain ⟨i, v⟩ := u
      obtain ⟨k1, k2, rfl, rfl, hl⟩ := hI2
      dsimp only at k1 k2 hl ih
      refine lv_iload_n hx hb dX3_sum_5 rfl (lv_at hl 3 rfl) ?_
      refine lv_aload_n hx hb dX3_sum_6 rfl (lv_at hl 0 rfl) ?_
      refine lv_iload_n hx hb dX3_sum_7 rfl (lv_at hl 1 rfl) ?_
      refine vp_callSi (va_Run.run (sf_runV (b := b0) (As := [.int row]) (rest := [.int (nI i)]) ⟨hx, hb, hml, hown, hts⟩ sf_has (m_size l dC dI b0 b1 b2 b3 b4 d1 d2 d3 d4 us nu bm tn g za ss bk _ z hR row) k_X3_64 ⟨sf_blind, va_recv hK hP (ci := 3) (q0 := 0) rfl rfl, sf_preU hP hK hD hN⟩ rfl hl.1 (Nat.le_of_ble_eq_true rfl) ⟨(Nat.le_of_ble_eq_true rfl), (Nat.le_of_ble_eq_true rfl)⟩ ⟨rfl, rfl⟩ ⟨Nat.zero_le _, Nat.zero_le _⟩ dX3_sum_8)) (fun r_8 h_8 => ?_)
      rw [zs_size_2 hzr] at h_8
      subst h_8
      refine sf_icmp_ge (tgt := 32) hx hb (by omega) (by omega) dX3_sum_11 (by decide) (fun c_11 => ?_) (fun c_11 => ?_)
      · refine lv_aload_n hx hb dX3_sum_32 rfl (lv_at hl 0 rfl) ?_
        refine lv_iload_n hx hb dX3_sum_33 rfl (lv_at hl 1 rfl) ?_
        refine vp_callSi (va_Run.run (sf_runV (b := b0) (As := [.int row]) (rest := []) ⟨hx, hb, hml, hown, hts⟩ sf_has (m_isRow l dC dI b0 b1 b2 b3 b4 d1 d2 d3 d4 us nu bm tn g za ss bk _ _ hR.2.1) k_X3_52 ⟨sf_blind, va_recv hK hP (ci := 3) (q0 := 0) rfl rfl, sf_preU hP hK hD hN⟩ rfl hl.1 (Nat.le_of_ble_eq_true rfl) ⟨(Nat.le_of_ble_eq_true rfl), (Nat.le_of_ble_eq_true rfl)⟩ ⟨rfl, rfl⟩ ⟨Nat.zero_le _, Nat.zero_le _⟩ dX3_sum_34)) (fun r_34 h_34 => ?_)
        rcases h_34 with ⟨rfl, h_34⟩ | ⟨rfl, h_34⟩
        · obtain ⟨k_34, q1_34, q2_34, q3_34⟩ := h_34
          subst q2_34
          have hl : lv_has ls 4 [(0, .ref b0), (1, .int (nI k_34)), (2, .int v), (3, .int (nI i))] := hl
          obtain ⟨f1_34, f2_34, f3_34, f4_34, f5_34, f6_34, f7_34⟩ := mw_zs hR q1_34 q3_34
          have hnu := hR.2.1
          refine sf_if_eq (tgt := 44) hx hb (by decide) dX3_sum_37 (by decide) (fun c_37 => absurd c_37 (by decide)) (fun _ => ?_)
          refine lv_iload_n hx hb dX3_sum_40 rfl (lv_at hl 2 rfl) ?_
          refine lv_goto (tgt := 45) hx hb dX3_sum_41 (by decide) ?_
          exact W.iret (v := v) hx hb hr (fun t ht hW => ⟨_, rfl, by
            rw [show i = zLn z k by omega, Nat.sub_self] at k2
            rw [zs_sum_2 hzr, ← k2]
            rfl, ht⟩) sf_noloc dX3_sum_45
        · have f1_34 := mw_zn hR h_34
          rw [f1_34] at hzr
          cases hzr
      · refine lv_bipush (v := nI 31) hx hb dX3_sum_14 (by decide) ?_
        refine lv_iload_n hx hb dX3_sum_16 rfl (lv_at hl 2 rfl) ?_
        refine lv_imul hx hb dX3_sum_17 ?_
        refine lv_aload_n hx hb dX3_sum_18 rfl (lv_at hl 0 rfl) ?_
        refine lv_iload_n hx hb dX3_sum_19 rfl (lv_at hl 1 rfl) ?_
        refine lv_iload_n hx hb dX3_sum_20 rfl (lv_at hl 3 rfl) ?_
        refine vp_callSi (va_Run.run (sf_runV (b := b0) (As := [.int row, .int (nI i)]) (rest := [.int ((nI 31) * v)]) ⟨hx, hb, hml, hown, hts⟩ sf_has (m_get l dC dI b0 b1 b2 b3 b4 d1 d2 d3 d4 us nu bm tn g za ss bk _ z hR row (nI i)) k_X3_60 ⟨sf_blind, va_recv hK hP (ci := 3) (q0 := 0) rfl rfl, sf_preU hP hK hD hN⟩ rfl hl.1 (Nat.le_of_ble_eq_true rfl) ⟨(Nat.le_of_ble_eq_true rfl), (Nat.le_of_ble_eq_true rfl)⟩ ⟨rfl, rfl⟩ ⟨Nat.zero_le _, Nat.zero_le _⟩ dX3_sum_21)) (fun r_21 h_21 => ?_)
        rw [zs_get_3 hzr (zi_some (by omega) (by omega))] at h_21
        subst h_21
        refine lv_iadd hx hb dX3_sum_24 ?_
        refine lv_istore_n (lv' := [(2, .int (((nI 31) * v) + (zBy z k i &&& 255))), (0, .ref b0), (1, .int row), (3, .int (nI i))]) hx hb dX3_sum_25 rfl hl (by decide) rfl (fun ls hl => ?_)
        refine lv_iinc (v := nI (i + 1)) (lv' := [(3, .int (nI (i + 1))), (2, .int (((nI 31) * v) + (zBy z k i &&& 255))), (0, .ref b0), (1, .int row)]) hx hb dX3_sum_26 hl (k := 3) rfl (nI_1 i) (by decide) rfl (fun ls hl => ?_)
        refine lv_goto (tgt := 5) hx hb dX3_sum_29 (by decide) ?_
        exact ih (i + 1, nI 31 * v + (zBy z k i &&& 255)) _ _ _ (by dsimp only; omega) ⟨by dsimp only; omega, by rw [← k2, zsum_go (c := zLn z k) (i := i) (by omega)], rfl, rfl, lv_sub hl [2, 3, 1, 0] rfl⟩
    · exact ⟨Nat.zero_le _, rfl, rfl, rfl, lv_sub hl [2, 3, 1, 0] rfl⟩
theorem mw_sub0 {x y : Nat} (hx : x < 256) (hy : y < 256) (h : nI x - nI y = 0) : x = y := by
  have e := pk_sub_toInt (a := x) (b := y) (by omega) (by omega)
  rw [h] at e
  have : (0 : Int32).toInt = 0 := by decide
  omega
theorem mw_xy {u v : Int32} {x y : Nat} (hx : x < 256) (hy : y < 256) (e1 : u &&& 255 = nI x) (e2 : v &&& 255 = nI y) (q : u = v) : x = y := by
  subst q
  rw [e1] at e2
  exact (nI_eq (by omega) (by omega)).mp e2
theorem mw_lt {x y : Nat} (hx : x < 256) (hy : y < 256) : 0 ≤ nI x - nI y ↔ y ≤ x := by
  rw [Int32.le_iff_toInt_le, pk_sub_toInt (by omega) (by omega)]
  have : (0 : Int32).toInt = 0 := by decide
  omega
set_option maxHeartbeats 4000000 in
set_option maxRecDepth 100000 in
/-- compare(row, other) -/
theorem m_compare (l : Launch) (dC : Nat → ClassId) (dI : Nat → Nat → Nat) (b0 b1 b2 b3 b4 : Nat) (d1 d2 d3 d4 : ClassId) (us nu bm tn : Nat) (g za : Nat → Int32) (ss bk : Nat → Nat) (sz : Nat) (z : sf_Z) (hR : mw_R us nu bm tn g za ss bk z) (row other : Int32) : Met l yX3_compare wsX3_compare ({ frames := 2, cells := 0, slots := 0, locals := 60 } : Room) (sf_Pre (dC, dI) vwCl [(d1, .byte), (d2, .int), (d3, .int), (d4, .int)] [.ref b0, .int row, .int other] (mw_w b0 b1 b2 b3 b4 d1 d2 d3 d4 us nu bm tn g za ss bk) sz) (vp_Si (fun r => r = zs_compare z row other)) 0 0 (fun _ => False) := by
  refine Met.ofW (cc := cX3_compare) (maxL := 5) (ret := (some .int)) (by decide) rfl ?_
  intro p e s m args below meth c s₁ B hml hv
  obtain ⟨rfl, hsz, hP, hK, hD0, hN⟩ := hv
  have hx := B.exec
  have hb := B.bytes
  have hr := B.returns
  have hts := atoms_spec (ws := wsX3_compare) B.pre
  have hown : s.vm.findClass RX3 = some m.cls := findClass_of_methodNamed B.named
  have hlocks := B.notSynchronized
  subst hsz
  have hD := hD0.self (sz := s.heap.size)
  generalize hAe : va_A (mw_w b0 b1 b2 b3 b4 d1 d2 d3 d4 us nu bm tn g za ss bk) s.heap.size = A at hD ⊢
  have hA : ∀ q : Nat, s.heap.size ≤ q → A q := fun q h => by rw [← hAe]; exact Or.inr h
  have hS : va_S A s.heap s.heap [] := va_S.rf
  have hl := lv_entry ([.ref b0, .int row, .int other]) (n := 5) (Nat.le_of_ble_eq_true rfl)
  rw [lg_entry_eq]
  generalize (lg_sl ([.ref b0, .int row, .int other]) ++ List.replicate (5 - (lg_sl ([.ref b0, .int row, .int other])).length) Slot.unset).toArray = ls at hl ⊢
  have hl : lv_has ls 5 [(0, .ref b0), (1, .int row), (2, .int other)] := hl
  refine lv_aload_n hx hb dX3_compare_0 rfl (lv_at hl 0 rfl) ?_
  refine lv_iload_n hx hb dX3_compare_1 rfl (lv_at hl 1 rfl) ?_
  refine vp_callSi (va_Run.run (sf_runV (b := b0) (As := [.int row]) (rest := []) ⟨hx, hb, hml, hown, hts⟩ sf_has (m_isRow l dC dI b0 b1 b2 b3 b4 d1 d2 d3 d4 us nu bm tn g za ss bk _ _ hR.2.1) k_X3_52 ⟨sf_blind, va_recv hK hP (ci := 3) (q0 := 0) rfl rfl, sf_preU hP hK hD hN⟩ rfl hl.1 (Nat.le_of_ble_eq_true rfl) ⟨(Nat.le_of_ble_eq_true rfl), (Nat.le_of_ble_eq_true rfl)⟩ ⟨rfl, rfl⟩ ⟨Nat.zero_le _, Nat.zero_le _⟩ dX3_compare_2)) (fun r_2 h_2 => ?_)
  rcases h_2 with ⟨rfl, h_2⟩ | ⟨rfl, h_2⟩
  · obtain ⟨k_2, q1_2, q2_2, q3_2⟩ := h_2
    subst q2_2
    have hl : lv_has ls 5 [(0, .ref b0), (1, .int (nI k_2)), (2, .int other)] := hl
    obtain ⟨f1_2, f2_2, f3_2, f4_2, f5_2, f6_2, f7_2⟩ := mw_zs hR q1_2 q3_2
    have hnu := hR.2.1
    refine sf_if_eq (tgt := 16) hx hb (by decide) dX3_compare_5 (by decide) (fun c_5 => absurd c_5 (by decide)) (fun _ => ?_)
    refine lv_aload_n hx hb dX3_compare_8 rfl (lv_at hl 0 rfl) ?_
    refine lv_iload_n hx hb dX3_compare_9 rfl (lv_at hl 2 rfl) ?_
    refine vp_callSi (va_Run.run (sf_runV (b := b0) (As := [.int other]) (rest := []) ⟨hx, hb, hml, hown, hts⟩ sf_has (m_isRow l dC dI b0 b1 b2 b3 b4 d1 d2 d3 d4 us nu bm tn g za ss bk _ _ hR.2.1) k_X3_52 ⟨sf_blind, va_recv hK hP (ci := 3) (q0 := 0) rfl rfl, sf_preU hP hK hD hN⟩ rfl hl.1 (Nat.le_of_ble_eq_true rfl) ⟨(Nat.le_of_ble_eq_true rfl), (Nat.le_of_ble_eq_true rfl)⟩ ⟨rfl, rfl⟩ ⟨Nat.zero_le _, Nat.zero_le _⟩ dX3_compare_10)) (fun r_10 h_10 => ?_)
    rcases h_10 with ⟨rfl, h_10⟩ | ⟨rfl, h_10⟩
    · obtain ⟨k_10, q1_10, q2_10, q3_10⟩ := h_10
      subst q2_10
      have hl : lv_has ls 5 [(0, .ref b0), (1, .int (nI k_2)), (2, .int (nI k_10))] := hl
      obtain ⟨f1_10, f2_10, f3_10, f4_10, f5_10, f6_10, f7_10⟩ := mw_zs hR q1_10 q3_10
      have hnu := hR.2.1
      refine sf_if_ne (tgt := 19) hx hb (by decide) dX3_compare_13 (by decide) (fun _ => ?_) (fun c_13 => absurd c_13 (by decide))
      refine lv_iconst (v := nI 0) hx hb dX3_compare_19 (by decide) ?_
      refine lv_istore_n (lv' := [(3, .int (nI 0)), (0, .ref b0), (1, .int (nI k_2)), (2, .int (nI k_10))]) hx hb dX3_compare_20 rfl hl (by decide) rfl (fun ls hl => ?_)
      refine sf_loop (σ := Nat) (fun u => min (zLn z k_2) (zLn z k_10) - u) (fun u H locs ls => u ≤ min (zLn z k_2) (zLn z k_10) ∧ zcmp (zBy z k_2) (zBy z k_10) (zord (zLn z k_2) (zLn z k_10)) (min (zLn z k_2) (zLn z k_10) - u) u = zcmp (zBy z k_2) (zBy z k_10) (zord (zLn z k_2) (zLn z k_10)) (min (zLn z k_2) (zLn z k_10)) 0 ∧ H = s.heap ∧ locs = [] ∧ lv_has ls 5 [(0, .ref b0), (1, .int (nI k_2)), (2, .int (nI k_10)), (3, .int (nI u))]) ?_ 0 _ _ _ ?_
      · intro u H locs ls hI2 ih
        obtain ⟨i, rfl⟩ : ∃ i : Nat, i = u := ⟨u, rfl⟩
        obtain ⟨k1, k2, rfl, rfl, hl⟩ := hI2
        obtain ⟨x1, hx1, ex1⟩ := pk_andE (zBy z k_2 i) (m := 255) 8 (by decide)
        obtain ⟨y1, hy1, ey1⟩ := pk_andE (zBy z k_10 i) (m := 255) 8 (by decide)
        refine lv_iload_n hx hb dX3_compare_21 rfl (lv_at hl 3 rfl) ?_
        refine lv_aload_n hx hb dX3_compare_22 rfl (lv_at hl 0 rfl) ?_
        refine va_get (D := (dC, dI)) (ci := 3) (v := .ref b3) (C := RX3) (T := TX3) (N := 8) hx hb hts sf_inX3 hown hK hP 0 rfl rfl 3 (by decide) (hts _ (sf_mem fl_X3_18 rfl)) (fun _ h9 => h9) rfl dX3_compare_23 ?_
        refine lv_iload_n hx hb dX3_compare_26 rfl (lv_at hl 1 rfl) ?_
        refine sf_iald hx hb hK hP 3 2 rfl rfl (by omega) (by decide) dX3_compare_27 ?_
        rw [f3_2]
        refine sf_icmp_ge (tgt := 78) hx hb (by omega) (by omega) dX3_compare_28 (by decide) (fun c_28 => ?_) (fun c_28 => ?_)
        · refine lv_aload_n hx hb dX3_compare_78 rfl (lv_at hl 0 rfl) ?_
          refine va_get (D := (dC, dI)) (ci := 3) (v := .ref b3) (C := RX3) (T := TX3) (N := 8) hx hb hts sf_inX3 hown hK hP 0 rfl rfl 3 (by decide) (hts _ (sf_mem fl_X3_18 rfl)) (fun _ h9 => h9) rfl dX3_compare_79 ?_
          refine lv_iload_n hx hb dX3_compare_82 rfl (lv_at hl 1 rfl) ?_
          refine sf_iald hx hb hK hP 3 2 rfl rfl (by omega) (by decide) dX3_compare_83 ?_
          rw [f3_2]
          refine lv_aload_n hx hb dX3_compare_84 rfl (lv_at hl 0 rfl) ?_
          refine va_get (D := (dC, dI)) (ci := 3) (v := .ref b3) (C := RX3) (T := TX3) (N := 8) hx hb hts sf_inX3 hown hK hP 0 rfl rfl 3 (by decide) (hts _ (sf_mem fl_X3_18 rfl)) (fun _ h9 => h9) rfl dX3_compare_85 ?_
          refine lv_iload_n hx hb dX3_compare_88 rfl (lv_at hl 2 rfl) ?_
          refine sf_iald hx hb hK hP 3 2 rfl rfl (by omega) (by decide) dX3_compare_89 ?_
          rw [f3_10]
          refine sf_icmp_ge (tgt := 97) hx hb (by omega) (by omega) dX3_compare_90 (by decide) (fun c_90 => ?_) (fun c_90 => ?_)
          · refine lv_aload_n hx hb dX3_compare_97 rfl (lv_at hl 0 rfl) ?_
            refine va_get (D := (dC, dI)) (ci := 3) (v := .ref b3) (C := RX3) (T := TX3) (N := 8) hx hb hts sf_inX3 hown hK hP 0 rfl rfl 3 (by decide) (hts _ (sf_mem fl_X3_18 rfl)) (fun _ h9 => h9) rfl dX3_compare_98 ?_
            refine lv_iload_n hx hb dX3_compare_101 rfl (lv_at hl 1 rfl) ?_
            refine sf_iald hx hb hK hP 3 2 rfl rfl (by omega) (by decide) dX3_compare_102 ?_
            rw [f3_2]
            refine lv_aload_n hx hb dX3_compare_103 rfl (lv_at hl 0 rfl) ?_
            refine va_get (D := (dC, dI)) (ci := 3) (v := .ref b3) (C := RX3) (T := TX3) (N := 8) hx hb hts sf_inX3 hown hK hP 0 rfl rfl 3 (by decide) (hts _ (sf_mem fl_X3_18 rfl)) (fun _ h9 => h9) rfl dX3_compare_104 ?_
            refine lv_iload_n hx hb dX3_compare_107 rfl (lv_at hl 2 rfl) ?_
            refine sf_iald hx hb hK hP 3 2 rfl rfl (by omega) (by decide) dX3_compare_108 ?_
            rw [f3_10]
            refine sf_icmp_le (tgt := 116) hx hb (by omega) (by omega) dX3_compare_109 (by decide) (fun c_109 => ?_) (fun c_109 => ?_)
            · refine lv_iconst (v := nI 0) hx hb dX3_compare_116 (by decide) ?_
              exact W.iret (v := nI 0) hx hb hr (fun t ht hW => ⟨_, rfl, by
                rw [show i = min (zLn z k_2) (zLn z k_10) by omega, Nat.sub_self] at k2
                rw [zs_cmp_3 f1_2 f1_10, ← k2]
                show _ = zord (zLn z k_2) (zLn z k_10)
                unfold zord
                rw [if_pos (by omega)]
                rfl, ht⟩) sf_noloc dX3_compare_117
            · refine lv_iconst (v := nI 1) hx hb dX3_compare_112 (by decide) ?_
              refine lv_goto (tgt := 117) hx hb dX3_compare_113 (by decide) ?_
              exact W.iret (v := nI 1) hx hb hr (fun t ht hW => ⟨_, rfl, by
                rw [show i = min (zLn z k_2) (zLn z k_10) by omega, Nat.sub_self] at k2
                rw [zs_cmp_3 f1_2 f1_10, ← k2]
                show _ = zord (zLn z k_2) (zLn z k_10)
                unfold zord
                rw [if_neg (by omega), if_neg (by omega)]
                rfl, ht⟩) sf_noloc dX3_compare_117
          · refine lv_iconst (v := -1) hx hb dX3_compare_93 (by decide) ?_
            refine lv_goto (tgt := 117) hx hb dX3_compare_94 (by decide) ?_
            exact W.iret (v := -1) hx hb hr (fun t ht hW => ⟨_, rfl, by
              rw [show i = min (zLn z k_2) (zLn z k_10) by omega, Nat.sub_self] at k2
              rw [zs_cmp_3 f1_2 f1_10, ← k2]
              show _ = zord (zLn z k_2) (zLn z k_10)
              unfold zord
              rw [if_neg (by omega), if_pos c_90], ht⟩) sf_noloc dX3_compare_117
        · refine lv_iload_n hx hb dX3_compare_31 rfl (lv_at hl 3 rfl) ?_
          refine lv_aload_n hx hb dX3_compare_32 rfl (lv_at hl 0 rfl) ?_
          refine va_get (D := (dC, dI)) (ci := 3) (v := .ref b3) (C := RX3) (T := TX3) (N := 8) hx hb hts sf_inX3 hown hK hP 0 rfl rfl 3 (by decide) (hts _ (sf_mem fl_X3_18 rfl)) (fun _ h9 => h9) rfl dX3_compare_33 ?_
          refine lv_iload_n hx hb dX3_compare_36 rfl (lv_at hl 2 rfl) ?_
          refine sf_iald hx hb hK hP 3 2 rfl rfl (by omega) (by decide) dX3_compare_37 ?_
          rw [f3_10]
          refine sf_icmp_ge (tgt := 78) hx hb (by omega) (by omega) dX3_compare_38 (by decide) (fun c_38 => ?_) (fun c_38 => ?_)
          · refine lv_aload_n hx hb dX3_compare_78 rfl (lv_at hl 0 rfl) ?_
            refine va_get (D := (dC, dI)) (ci := 3) (v := .ref b3) (C := RX3) (T := TX3) (N := 8) hx hb hts sf_inX3 hown hK hP 0 rfl rfl 3 (by decide) (hts _ (sf_mem fl_X3_18 rfl)) (fun _ h9 => h9) rfl dX3_compare_79 ?_
            refine lv_iload_n hx hb dX3_compare_82 rfl (lv_at hl 1 rfl) ?_
            refine sf_iald hx hb hK hP 3 2 rfl rfl (by omega) (by decide) dX3_compare_83 ?_
            rw [f3_2]
            refine lv_aload_n hx hb dX3_compare_84 rfl (lv_at hl 0 rfl) ?_
            refine va_get (D := (dC, dI)) (ci := 3) (v := .ref b3) (C := RX3) (T := TX3) (N := 8) hx hb hts sf_inX3 hown hK hP 0 rfl rfl 3 (by decide) (hts _ (sf_mem fl_X3_18 rfl)) (fun _ h9 => h9) rfl dX3_compare_85 ?_
            refine lv_iload_n hx hb dX3_compare_88 rfl (lv_at hl 2 rfl) ?_
            refine sf_iald hx hb hK hP 3 2 rfl rfl (by omega) (by decide) dX3_compare_89 ?_
            rw [f3_10]
            refine sf_icmp_ge (tgt := 97) hx hb (by omega) (by omega) dX3_compare_90 (by decide) (fun c_90 => ?_) (fun c_90 => ?_)
            · refine lv_aload_n hx hb dX3_compare_97 rfl (lv_at hl 0 rfl) ?_
              refine va_get (D := (dC, dI)) (ci := 3) (v := .ref b3) (C := RX3) (T := TX3) (N := 8) hx hb hts sf_inX3 hown hK hP 0 rfl rfl 3 (by decide) (hts _ (sf_mem fl_X3_18 rfl)) (fun _ h9 => h9) rfl dX3_compare_98 ?_
              refine lv_iload_n hx hb dX3_compare_101 rfl (lv_at hl 1 rfl) ?_
              refine sf_iald hx hb hK hP 3 2 rfl rfl (by omega) (by decide) dX3_compare_102 ?_
              rw [f3_2]
              refine lv_aload_n hx hb dX3_compare_103 rfl (lv_at hl 0 rfl) ?_
              refine va_get (D := (dC, dI)) (ci := 3) (v := .ref b3) (C := RX3) (T := TX3) (N := 8) hx hb hts sf_inX3 hown hK hP 0 rfl rfl 3 (by decide) (hts _ (sf_mem fl_X3_18 rfl)) (fun _ h9 => h9) rfl dX3_compare_104 ?_
              refine lv_iload_n hx hb dX3_compare_107 rfl (lv_at hl 2 rfl) ?_
              refine sf_iald hx hb hK hP 3 2 rfl rfl (by omega) (by decide) dX3_compare_108 ?_
              rw [f3_10]
              refine sf_icmp_le (tgt := 116) hx hb (by omega) (by omega) dX3_compare_109 (by decide) (fun c_109 => ?_) (fun c_109 => ?_)
              · refine lv_iconst (v := nI 0) hx hb dX3_compare_116 (by decide) ?_
                exact W.iret (v := nI 0) hx hb hr (fun t ht hW => ⟨_, rfl, by
                  rw [show i = min (zLn z k_2) (zLn z k_10) by omega, Nat.sub_self] at k2
                  rw [zs_cmp_3 f1_2 f1_10, ← k2]
                  show _ = zord (zLn z k_2) (zLn z k_10)
                  unfold zord
                  rw [if_pos (by omega)]
                  rfl, ht⟩) sf_noloc dX3_compare_117
              · refine lv_iconst (v := nI 1) hx hb dX3_compare_112 (by decide) ?_
                refine lv_goto (tgt := 117) hx hb dX3_compare_113 (by decide) ?_
                exact W.iret (v := nI 1) hx hb hr (fun t ht hW => ⟨_, rfl, by
                  rw [show i = min (zLn z k_2) (zLn z k_10) by omega, Nat.sub_self] at k2
                  rw [zs_cmp_3 f1_2 f1_10, ← k2]
                  show _ = zord (zLn z k_2) (zLn z k_10)
                  unfold zord
                  rw [if_neg (by omega), if_neg (by omega)]
                  rfl, ht⟩) sf_noloc dX3_compare_117
            · refine lv_iconst (v := -1) hx hb dX3_compare_93 (by decide) ?_
              refine lv_goto (tgt := 117) hx hb dX3_compare_94 (by decide) ?_
              exact W.iret (v := -1) hx hb hr (fun t ht hW => ⟨_, rfl, by
                rw [show i = min (zLn z k_2) (zLn z k_10) by omega, Nat.sub_self] at k2
                rw [zs_cmp_3 f1_2 f1_10, ← k2]
                show _ = zord (zLn z k_2) (zLn z k_10)
                unfold zord
                rw [if_neg (by omega), if_pos c_90], ht⟩) sf_noloc dX3_compare_117
          · have hFa : fits .byte (.int (zBy z k_2 i)) = true := by rw [f5_2 i (by omega)]; exact hR.2.2.2.2.2.2.2.2.2.2.2.2 _
            have hFb : fits .byte (.int (zBy z k_10 i)) = true := by rw [f5_10 i (by omega)]; exact hR.2.2.2.2.2.2.2.2.2.2.2.2 _
            refine lv_aload_n hx hb dX3_compare_41 rfl (lv_at hl 0 rfl) ?_
            refine lv_iload_n hx hb dX3_compare_42 rfl (lv_at hl 1 rfl) ?_
            refine lv_iload_n hx hb dX3_compare_43 rfl (lv_at hl 3 rfl) ?_
            refine vp_callSi (va_Run.run (sf_runV (b := b0) (As := [.int (nI k_2), .int (nI i)]) (rest := []) ⟨hx, hb, hml, hown, hts⟩ sf_has (m_get l dC dI b0 b1 b2 b3 b4 d1 d2 d3 d4 us nu bm tn g za ss bk _ z hR (nI k_2) (nI i)) k_X3_60 ⟨sf_blind, va_recv hK hP (ci := 3) (q0 := 0) rfl rfl, sf_preU hP hK hD hN⟩ rfl hl.1 (Nat.le_of_ble_eq_true rfl) ⟨(Nat.le_of_ble_eq_true rfl), (Nat.le_of_ble_eq_true rfl)⟩ ⟨rfl, rfl⟩ ⟨Nat.zero_le _, Nat.zero_le _⟩ dX3_compare_44)) (fun r_44 h_44 => ?_)
            rw [zs_get_3 f1_2 (zi_some (by omega) (by omega)), ex1] at h_44
            subst h_44
            refine lv_aload_n hx hb dX3_compare_47 rfl (lv_at hl 0 rfl) ?_
            refine lv_iload_n hx hb dX3_compare_48 rfl (lv_at hl 2 rfl) ?_
            refine lv_iload_n hx hb dX3_compare_49 rfl (lv_at hl 3 rfl) ?_
            refine vp_callSi (va_Run.run (sf_runV (b := b0) (As := [.int (nI k_10), .int (nI i)]) (rest := [.int (nI x1)]) ⟨hx, hb, hml, hown, hts⟩ sf_has (m_get l dC dI b0 b1 b2 b3 b4 d1 d2 d3 d4 us nu bm tn g za ss bk _ z hR (nI k_10) (nI i)) k_X3_60 ⟨sf_blind, va_recv hK hP (ci := 3) (q0 := 0) rfl rfl, sf_preU hP hK hD hN⟩ rfl hl.1 (Nat.le_of_ble_eq_true rfl) ⟨(Nat.le_of_ble_eq_true rfl), (Nat.le_of_ble_eq_true rfl)⟩ ⟨rfl, rfl⟩ ⟨Nat.zero_le _, Nat.zero_le _⟩ dX3_compare_50)) (fun r_50 h_50 => ?_)
            rw [zs_get_3 f1_10 (zi_some (by omega) (by omega)), ey1] at h_50
            subst h_50
            refine lv_isub hx hb dX3_compare_53 ?_
            refine lv_istore (lv' := [(4, .int ((nI x1) - (nI y1))), (0, .ref b0), (1, .int (nI k_2)), (2, .int (nI k_10)), (3, .int (nI i))]) hx hb dX3_compare_54 hl (by decide) rfl (fun ls hl => ?_)
            refine lv_iload hx hb dX3_compare_56 (lv_at hl 0 rfl) ?_
            refine lv_if_eq (tgt := 72) hx hb dX3_compare_58 (by decide) (fun c_58 => ?_) (fun c_58 => ?_)
            · have hxy : x1 = y1 := mw_sub0 hx1 hy1 c_58
              refine lv_iinc (v := nI (i + 1)) (lv' := [(3, .int (nI (i + 1))), (4, .int ((nI x1) - (nI y1))), (0, .ref b0), (1, .int (nI k_2)), (2, .int (nI k_10))]) hx hb dX3_compare_72 hl (k := 4) rfl (nI_1 i) (by decide) rfl (fun ls hl => ?_)
              refine lv_goto (tgt := 21) hx hb dX3_compare_75 (by decide) ?_
              exact ih (i + 1) _ _ _ (by omega) ⟨by omega, by rw [← k2, zcmp_miss (c := min (zLn z k_2) (zLn z k_10)) (i := i) (by omega) (sf_byte_ne hFa hFb hx1 ex1 (by rw [hxy]; exact ey1))], rfl, rfl, lv_sub hl [2, 3, 4, 0] rfl⟩
            · have hxy : x1 ≠ y1 := fun q => c_58 (by rw [q, pk_sub (Nat.le_refl _), Nat.sub_self]; rfl)
              have hne : zBy z k_2 i ≠ zBy z k_10 i := fun q => hxy (mw_xy hx1 hy1 ex1 ey1 q)
              refine lv_iload hx hb dX3_compare_61 (lv_at hl 0 rfl) ?_
              refine lv_if_ge (tgt := 70) hx hb dX3_compare_63 (by decide) (fun c_63 => ?_) (fun c_63 => ?_)
              · refine lv_iconst (v := nI 1) hx hb dX3_compare_70 (by decide) ?_
                exact W.iret (v := nI 1) hx hb hr (fun t ht hW => ⟨_, rfl, by
                  rw [zs_cmp_3 f1_2 f1_10, ← k2, zcmp_hit (c := min (zLn z k_2) (zLn z k_10)) (i := i) (by omega) hne hFa hFb hx1 hy1 ex1 ey1, if_neg hxy]
                  rw [if_neg (by have := (mw_lt hx1 hy1).mp c_63; omega)]
                  rfl, ht⟩) sf_noloc dX3_compare_71
              · refine lv_iconst (v := -1) hx hb dX3_compare_66 (by decide) ?_
                refine lv_goto (tgt := 71) hx hb dX3_compare_67 (by decide) ?_
                exact W.iret (v := -1) hx hb hr (fun t ht hW => ⟨_, rfl, by
                  rw [zs_cmp_3 f1_2 f1_10, ← k2, zcmp_hit (c := min (zLn z k_2) (zLn z k_10)) (i := i) (by omega) hne hFa hFb hx1 hy1 ex1 ey1, if_neg hxy]
                  rw [if_pos (Nat.not_le.mp (fun q => c_63 ((mw_lt hx1 hy1).mpr q)))], ht⟩) sf_noloc dX3_compare_71
      · exact ⟨Nat.zero_le _, rfl, rfl, rfl, lv_sub hl [1, 2, 3, 0] rfl⟩
    · have f1_10 := mw_zn hR h_10
      refine sf_if_ne (tgt := 19) hx hb (by decide) dX3_compare_13 (by decide) (fun c_13 => absurd c_13 (by decide)) (fun _ => ?_)
      refine lv_bipush (v := -2) hx hb dX3_compare_16 (by decide) ?_
      exact W.iret (v := -2) hx hb hr (fun t ht hW => ⟨_, rfl, (zs_cmp_2 f1_10).symm, ht⟩) sf_noloc dX3_compare_18
  · have f1_2 := mw_zn hR h_2
    refine sf_if_eq (tgt := 16) hx hb (by decide) dX3_compare_5 (by decide) (fun _ => ?_) (fun c_5 => absurd c_5 (by decide))
    refine lv_bipush (v := -2) hx hb dX3_compare_16 (by decide) ?_
    exact W.iret (v := -2) hx hb hr (fun t ht hW => ⟨_, rfl, (zs_cmp_1 f1_2).symm, ht⟩) sf_noloc dX3_compare_18
end
section
/-! steps of the reference's state (pure) -/
abbrev mw_S : Type := Nat × Nat × Nat × Nat × (Nat → Int32) × (Nat → Int32) × (Nat → Nat) × (Nat → Nat)
def mw_Ru (u : mw_S) (z : sf_Z) : Prop := mw_R u.1 u.2.1 u.2.2.1 u.2.2.2.1 u.2.2.2.2.1 u.2.2.2.2.2.1 u.2.2.2.2.2.2.1 u.2.2.2.2.2.2.2 z
section MS
variable {us nu bm tn : Nat} {g za : Nat → Int32} {ss bk : Nat → Nat} {z : sf_Z}
theorem mw_room {k n : Nat} (h : mw_R us nu bm tn g za ss bk z) (hk : k < nu) (hroom : sf_P n ≤ sf_P (mln z k) ∨ zOc z + sf_P n ≤ 400000) : us + n ≤ 400000 + mln z k := by
  obtain ⟨h1, h2, h3, h4, h5, h6, h7, h8, h9, h10, h11, h12, h13⟩ := h
  have e1 := mw_sum_up (f := mln z) (v := n) hk
  have e2 := mw_sum_up (f := fun k => sf_P (mln z k)) (v := sf_P n) hk
  have e3 := mw_sum_le (f := va_up (mln z) k n) (h := va_up (fun k => sf_P (mln z k)) k (sf_P n)) (n := nu) (fun j _ => by
    by_cases q : j = k
    · rw [q, va_up_self, va_up_self]; exact sf_P_ge n
    · rw [va_up_ne _ _ q, va_up_ne _ _ q]; exact sf_P_ge _)
  rw [← h11] at e2
  rw [← h8.1] at e1
  try dsimp only at e2
  have e4 := sf_P_ge n
  have e5 := sf_P_ge (mln z k)
  omega
theorem mw_R_fill {g2 : Nat → Int32} {k i0 n0 : Nat} {d : Int32} (h : mw_R us nu bm tn g za ss bk z) (hk : k < nu) (tk1 : zTk z k = 1) (hF : sb_Fit g2) (hn : i0 + n0 ≤ zLn z k) (q : ∀ p, g2 p = if ss k + i0 ≤ p ∧ p < ss k + i0 + n0 then zfb d (p - (ss k + i0)) else g p) :
    mw_R us nu bm tn g2 za ss bk (zput z k (fun j => if i0 ≤ j ∧ j < i0 + n0 then zfb d (j - i0) else zBy z k j)) := by
  refine mw_R_bytes h hF (fun x hx tx hne i hi => ?_) (fun i hi => ?_)
  · rw [q, if_neg]
    intro e
    exact mw_apart h hk hx tk1 tx hne hi (b := ss x + i - ss k) (by omega) (by omega)
  · rw [q]
    by_cases e : i0 ≤ i ∧ i < i0 + n0
    · rw [if_pos e, if_pos (by omega), show ss k + i - (ss k + i0) = i - i0 by omega]
    · rw [if_neg e, if_neg (by omega)]
      exact h.2.2.2.2.2.2.2.2.1 k hk tk1 i hi
theorem mw_R_copy {us' tn' k k2 : Nat} {f1 g2 g3 za' : Nat → Int32} {ss2 : Nat → Nat} (h : mw_R us nu bm tn g za ss bk z) (hk : k < nu) (tk1 : zTk z k = 1) (hk2 : k2 < nu) (tk2 : zTk z k2 = 1)
    (hR2 : mw_R us' nu bm tn' g2 za' ss2 bk (zset z k (zLn z k2) f1)) (ho : ∀ j, j < nu → j ≠ k → ∀ i, i < mln z j → g2 (ss2 j + i) = g (ss j + i)) (hf : ∀ i, i < zLn z k2 → g2 (ss2 k + i) = if i < mln z k then g (ss k + i) else 0) (hF : sb_Fit g3) (q : ∀ x, g3 x = if ss2 k ≤ x ∧ x < ss2 k + zLn z k2 then g2 (ss2 k2 + (x - ss2 k)) else g2 x) :
    mw_R us' nu bm tn' g3 za' ss2 bk (zset z k (zLn z k2) (zBy z k2)) := by
  rw [← zput_zset (f1 := f1)]
  have h9 := h.2.2.2.2.2.2.2.2.1
  have elk : zLn (zset z k (zLn z k2) f1) k = zLn z k2 := va_up_self _ _ _
  refine mw_R_bytes hR2 hF (fun x hx tx hne i hi => ?_) (fun i hi => ?_)
  · rw [q, if_neg]
    intro e
    exact mw_apart hR2 hk hx tk1 tx hne hi (b := ss2 x + i - ss2 k) (by rw [elk]; omega) (by omega)
  · rw [elk] at hi
    rw [q, if_pos (by omega), Nat.add_sub_cancel_left, h9 k2 hk2 tk2 i hi]
    by_cases e : k2 = k
    · subst e
      rw [hf i hi, mln_1 tk1, if_pos hi]
    · rw [ho k2 hk2 e i (by rw [mln_1 tk2]; exact hi)]
theorem mw_cp_step {g2 g3 : Nat → Int32} {a b c : Nat} (q : ∀ x, g3 x = if a ≤ x ∧ x < a + c then g2 (b + (x - a)) else g2 x) (hr : g3 (b + c) = g2 (b + c)) : ∀ x, upd g3 (a + c) (g3 (b + c)) x = if a ≤ x ∧ x < a + (c + 1) then g2 (b + (x - a)) else g2 x := by
  intro x
  by_cases e : x = a + c
  · subst e
    rw [pk_us, if_pos (by omega), Nat.add_sub_cancel_left, hr]
  · rw [pk_un e, q x]
    by_cases e1 : a ≤ x ∧ x < a + c
    · rw [if_pos e1, if_pos (by omega)]
    · rw [if_neg e1, if_neg (by omega)]
/-- the layout with a number that has no bytes -/
theorem mw_L_0 {nu2 k : Nat} (h : mw_R us nu bm tn g za ss bk z) (hle : nu ≤ nu2) (hall : ∀ j, j < nu2 → j ≠ k → j < nu) (hk : k < nu2) (hkn : k < nu → zTk z k ≠ 1) (hlt : nu2 ≤ nu + 1) : mw_L us nu2 (va_up (mln z) k 0) ss ∧ mw_sum (va_up (fun j => sf_P (mln z j)) k 0) nu2 = zOc z ∧ ∀ r, r < nu2 → (upd za k (nI 0) r ≤ 0 ↔ va_up (mln z) k 0 r = 0) := by
  have hz := mw_hz h
  obtain ⟨h1, h2, h3, h4, h5, h6, h7, h8, h9, h10, h11, h12, h13⟩ := h
  have hs : ∀ f : Nat → Nat, (k < nu → f k = 0) → mw_sum (va_up f k 0) nu2 = mw_sum f nu := by
    intro f hf
    by_cases q : nu2 = nu
    · rw [q]
      refine mw_sum_congr (fun j hj => ?_)
      by_cases e : j = k
      · rw [e, va_up_self, hf (by omega)]
      · rw [va_up_ne _ _ e]
    · have e1 : nu2 = nu + 1 := by omega
      have e2 : k = nu := Classical.byContradiction fun e => by have := hall nu (by omega) (fun x => e x.symm); omega
      rw [e1, e2]
      show mw_sum (va_up f nu 0) nu + va_up f nu 0 nu = _
      rw [va_up_self, Nat.add_zero]
      exact mw_sum_congr (fun j hj => va_up_ne _ _ (by omega))
  have hk0 : k < nu → mln z k = 0 := fun q => mln_0 (hkn q)
  refine ⟨⟨?_, ?_, ?_⟩, ?_, ?_⟩
  · rw [hs _ hk0]; exact h8.1
  · intro j hj hl
    have q : j ≠ k := fun e => by rw [e, va_up_self] at hl; omega
    rw [va_up_ne _ _ q] at hl ⊢
    exact h8.2.1 j (hall j hj q) hl
  · intro i j hi hj hne hli hlj
    have q1 : i ≠ k := fun e => by rw [e, va_up_self] at hli; omega
    have q2 : j ≠ k := fun e => by rw [e, va_up_self] at hlj; omega
    rw [va_up_ne _ _ q1] at hli ⊢
    rw [va_up_ne _ _ q2] at hlj ⊢
    exact h8.2.2 i j (hall i hi q1) (hall j hj q2) hne hli hlj
  · rw [hs _ (fun q => by rw [hk0 q]; rfl), ← h11]
  · intro r hr
    by_cases q : r = k
    · rw [q, pk_us, va_up_self]
      exact ⟨fun _ => rfl, fun _ => by decide⟩
    · rw [pk_un q, va_up_ne _ _ q]
      exact hz r (hall r hr q)
theorem mw_R_0 : mw_Ru (0, 0, 0, 0, (fun _ => 0), (fun _ => 0), (fun _ => 0), (fun _ => 0)) sf_z0 := by
  refine ⟨rfl, Nat.zero_le _, rfl, fun x h => absurd h List.not_mem_nil, List.nodup_nil, fun k h => absurd h (Nat.not_lt_zero _), fun k h => absurd h (Nat.not_lt_zero _), ⟨rfl, fun k h => absurd h (Nat.not_lt_zero _), fun j k h => absurd h (Nat.not_lt_zero _)⟩, fun k h => absurd h (Nat.not_lt_zero _), rfl, rfl, Nat.zero_le _, sb_fit0⟩
end MS
end
section
/-! the reference: its writes -/
set_option maxHeartbeats 4000000 in
set_option maxRecDepth 100000 in
/-- put(row, i, b) -/
theorem m_put (l : Launch) (dC : Nat → ClassId) (dI : Nat → Nat → Nat) (b0 b1 b2 b3 b4 : Nat) (d1 d2 d3 d4 : ClassId) (us nu bm tn : Nat) (g za : Nat → Int32) (ss bk : Nat → Nat) (sz : Nat) (z : sf_Z) (hR : mw_R us nu bm tn g za ss bk z) (row i b : Int32) : Met l yX3_put wsX3_put ({ frames := 1, cells := 0, slots := 0, locals := 30 } : Room) (sf_Pre (dC, dI) vwCl [(d1, .byte), (d2, .int), (d3, .int), (d4, .int)] [.ref b0, .int row, .int i, .int b] (mw_w b0 b1 b2 b3 b4 d1 d2 d3 d4 us nu bm tn g za ss bk) sz) (va_Qi (fun (r : Int32) (u : mw_S) => r = (zs_put z row i b).1 ∧ mw_Ru u (zs_put z row i b).2) (sf_E (dC, dI) vwCl (va_A (mw_w b0 b1 b2 b3 b4 d1 d2 d3 d4 us nu bm tn g za ss bk) sz) (fun (u : mw_S) => mw_w b0 b1 b2 b3 b4 d1 d2 d3 d4 u.1 u.2.1 u.2.2.1 u.2.2.2.1 u.2.2.2.2.1 u.2.2.2.2.2.1 u.2.2.2.2.2.2.1 u.2.2.2.2.2.2.2)) (va_A (mw_w b0 b1 b2 b3 b4 d1 d2 d3 d4 us nu bm tn g za ss bk) sz)) 0 0 (va_A (mw_w b0 b1 b2 b3 b4 d1 d2 d3 d4 us nu bm tn g za ss bk) sz) := by
  refine Met.ofW (cc := cX3_put) (maxL := 4) (ret := (some .boolean)) (by decide) rfl ?_
  intro p e s m args below meth c s₁ B hml hv
  obtain ⟨rfl, hsz, hP, hK, hD0, hN⟩ := hv
  have hx := B.exec
  have hb := B.bytes
  have hr := B.returns
  have hts := atoms_spec (ws := wsX3_put) B.pre
  have hown : s.vm.findClass RX3 = some m.cls := findClass_of_methodNamed B.named
  have hlocks := B.notSynchronized
  subst hsz
  have hD := hD0.self (sz := s.heap.size)
  generalize hAe : va_A (mw_w b0 b1 b2 b3 b4 d1 d2 d3 d4 us nu bm tn g za ss bk) s.heap.size = A at hD ⊢
  have hA : ∀ q : Nat, s.heap.size ≤ q → A q := fun q h => by rw [← hAe]; exact Or.inr h
  have hS : va_S A s.heap s.heap [] := va_S.rf
  have hl := lv_entry ([.ref b0, .int row, .int i, .int b]) (n := 4) (Nat.le_of_ble_eq_true rfl)
  rw [lg_entry_eq]
  generalize (lg_sl ([.ref b0, .int row, .int i, .int b]) ++ List.replicate (4 - (lg_sl ([.ref b0, .int row, .int i, .int b])).length) Slot.unset).toArray = ls at hl ⊢
  have hl : lv_has ls 4 [(0, .ref b0), (1, .int row), (2, .int i), (3, .int b)] := hl
  refine lv_aload_n hx hb dX3_put_0 rfl (lv_at hl 0 rfl) ?_
  refine lv_iload_n hx hb dX3_put_1 rfl (lv_at hl 1 rfl) ?_
  refine vp_callSi (va_Run.run (sf_runV (b := b0) (As := [.int row]) (rest := []) ⟨hx, hb, hml, hown, hts⟩ sf_has (m_isRow l dC dI b0 b1 b2 b3 b4 d1 d2 d3 d4 us nu bm tn g za ss bk _ _ hR.2.1) k_X3_52 ⟨sf_blind, va_recv hK hP (ci := 3) (q0 := 0) rfl rfl, sf_preU hP hK hD hN⟩ rfl hl.1 (Nat.le_of_ble_eq_true rfl) ⟨(Nat.le_of_ble_eq_true rfl), (Nat.le_of_ble_eq_true rfl)⟩ ⟨rfl, rfl⟩ ⟨Nat.zero_le _, Nat.zero_le _⟩ dX3_put_2)) (fun r_2 h_2 => ?_)
  rcases h_2 with ⟨rfl, h_2⟩ | ⟨rfl, h_2⟩
  · obtain ⟨k_2, q1_2, q2_2, q3_2⟩ := h_2
    subst q2_2
    have hl : lv_has ls 4 [(0, .ref b0), (1, .int (nI k_2)), (2, .int i), (3, .int b)] := hl
    obtain ⟨f1_2, f2_2, f3_2, f4_2, f5_2, f6_2, f7_2⟩ := mw_zs hR q1_2 q3_2
    have hnu := hR.2.1
    refine sf_if_eq (tgt := 22) hx hb (by decide) dX3_put_5 (by decide) (fun c_5 => absurd c_5 (by decide)) (fun _ => ?_)
    refine lv_iload_n hx hb dX3_put_8 rfl (lv_at hl 2 rfl) ?_
    refine lv_if_lt (tgt := 22) hx hb dX3_put_9 (by decide) (fun c_9 => ?_) (fun c_9 => ?_)
    · have hzj : zi i (zLn z k_2) = none := zi_none (by omega) (fun k hk q => nI_pos (n := k) (by omega) (by rw [← q]; exact c_9))
      refine lv_iconst (v := nI 0) hx hb dX3_put_22 (by decide) ?_
      exact W.zret (v := nI 0) hx hb hr (by decide) (fun t ht hW => ⟨⟨_, (us, nu, bm, tn, g, za, ss, bk), rfl, by rw [zs_put_2 f1_2 hzj]; exact ⟨rfl, hR⟩, by rw [ht]; exact hP, hD⟩, hS.F ht⟩) hS.2.2 dX3_put_23
    · obtain ⟨j, hj0, rfl⟩ := nI_of c_9
      have hl : lv_has ls 4 [(0, .ref b0), (1, .int (nI k_2)), (2, .int (nI j)), (3, .int b)] := hl
      refine lv_iload_n hx hb dX3_put_12 rfl (lv_at hl 2 rfl) ?_
      refine lv_aload_n hx hb dX3_put_13 rfl (lv_at hl 0 rfl) ?_
      refine va_get (D := (dC, dI)) (ci := 3) (v := .ref b3) (C := RX3) (T := TX3) (N := 8) hx hb hts sf_inX3 hown hK hP 0 rfl rfl 3 (by decide) (hts _ (sf_mem fl_X3_18 rfl)) (fun _ h9 => h9) rfl dX3_put_14 ?_
      refine lv_iload_n hx hb dX3_put_17 rfl (lv_at hl 1 rfl) ?_
      refine sf_iald hx hb hK hP 3 2 rfl rfl (by omega) (by decide) dX3_put_18 ?_
      rw [f3_2]
      refine sf_icmp_lt (tgt := 24) hx hb (by omega) (by omega) dX3_put_19 (by decide) (fun c_19 => ?_) (fun c_19 => ?_)
      · have hzj : zi (nI j) (zLn z k_2) = some j := zi_some c_19 (by omega)
        have hb6 := f6_2 j c_19
        refine lv_aload_n hx hb dX3_put_24 rfl (lv_at hl 0 rfl) ?_
        refine va_get (D := (dC, dI)) (ci := 3) (v := .ref b1) (C := RX3) (T := TX3) (N := 8) hx hb hts sf_inX3 hown hK hP 0 rfl rfl 0 (by decide) (hts _ (sf_mem fl_X3_8 rfl)) (fun _ h9 => h9) rfl dX3_put_25 ?_
        refine lv_aload_n hx hb dX3_put_28 rfl (lv_at hl 0 rfl) ?_
        refine va_get (D := (dC, dI)) (ci := 3) (v := .ref b2) (C := RX3) (T := TX3) (N := 8) hx hb hts sf_inX3 hown hK hP 0 rfl rfl 2 (by decide) (hts _ (sf_mem fl_X3_14 rfl)) (fun _ h9 => h9) rfl dX3_put_29 ?_
        refine lv_iload_n hx hb dX3_put_32 rfl (lv_at hl 1 rfl) ?_
        refine sf_iald hx hb hK hP 2 1 rfl rfl (by omega) (by decide) dX3_put_33 ?_
        try dsimp only
        refine lv_iload_n hx hb dX3_put_34 rfl (lv_at hl 2 rfl) ?_
        refine sf_iadd hx hb dX3_put_35 ?_
        refine lv_iload_n hx hb dX3_put_36 rfl (lv_at hl 3 rfl) ?_
        refine lv_i2b hx hb dX3_put_37 rfl ?_
        refine sf_bast hx hb hK hP hD hS 1 0 rfl rfl (pk_vb _) (by omega) (by decide) dX3_put_38 (fun H locs hP hD hS => ?_)
        have hP : va_P (dC, dI) vwCl (mw_w b0 b1 b2 b3 b4 d1 d2 d3 d4 us nu bm tn (upd g ((ss k_2) + j) b.toInt8.toInt32) za ss bk) H := hP
        have hD : va_D A (mw_w b0 b1 b2 b3 b4 d1 d2 d3 d4 us nu bm tn (upd g ((ss k_2) + j) b.toInt8.toInt32) za ss bk) := hD
        refine lv_iconst (v := nI 1) hx hb dX3_put_39 (by decide) ?_
        exact W.zret (v := nI 1) hx hb hr (by decide) (fun t ht hW => ⟨⟨_, (us, nu, bm, tn, (upd g ((ss k_2) + j) b.toInt8.toInt32), za, ss, bk), rfl, by rw [zs_put_3 f1_2 hzj]; exact ⟨rfl, mw_R_bytes hR (sb_fitU hR.2.2.2.2.2.2.2.2.2.2.2.2 (pk_fb _)) (fun x hx tx hne i hi => pk_un (mw_apart hR q1_2 hx f2_2 tx hne hi c_19)) (sf_put_f f5_2)⟩, by rw [ht]; exact hP, hD⟩, hS.F ht⟩) hS.2.2 dX3_put_40
      · have hzj : zi (nI j) (zLn z k_2) = none := zi_none (by omega) (fun k hk q => by
          have := (nI_eq hj0 (by omega)).mp q
          omega)
        refine lv_iconst (v := nI 0) hx hb dX3_put_22 (by decide) ?_
        exact W.zret (v := nI 0) hx hb hr (by decide) (fun t ht hW => ⟨⟨_, (us, nu, bm, tn, g, za, ss, bk), rfl, by rw [zs_put_2 f1_2 hzj]; exact ⟨rfl, hR⟩, by rw [ht]; exact hP, hD⟩, hS.F ht⟩) hS.2.2 dX3_put_23
  · have f1_2 := mw_zn hR h_2
    refine sf_if_eq (tgt := 22) hx hb (by decide) dX3_put_5 (by decide) (fun _ => ?_) (fun c_5 => absurd c_5 (by decide))
    refine lv_iconst (v := nI 0) hx hb dX3_put_22 (by decide) ?_
    exact W.zret (v := nI 0) hx hb hr (by decide) (fun t ht hW => ⟨⟨_, (us, nu, bm, tn, g, za, ss, bk), rfl, by rw [zs_put_1 f1_2]; exact ⟨rfl, hR⟩, by rw [ht]; exact hP, hD⟩, hS.F ht⟩) hS.2.2 dX3_put_23
set_option maxHeartbeats 4000000 in
set_option maxRecDepth 100000 in
/-- fill(row, i, n, seed) -/
theorem m_fill (l : Launch) (dC : Nat → ClassId) (dI : Nat → Nat → Nat) (b0 b1 b2 b3 b4 : Nat) (d1 d2 d3 d4 : ClassId) (us nu bm tn : Nat) (g za : Nat → Int32) (ss bk : Nat → Nat) (sz : Nat) (z : sf_Z) (hR : mw_R us nu bm tn g za ss bk z) (row i n d : Int32) : Met l yX3_fill wsX3_fill ({ frames := 1, cells := 0, slots := 0, locals := 30 } : Room) (sf_Pre (dC, dI) vwCl [(d1, .byte), (d2, .int), (d3, .int), (d4, .int)] [.ref b0, .int row, .int i, .int n, .int d] (mw_w b0 b1 b2 b3 b4 d1 d2 d3 d4 us nu bm tn g za ss bk) sz) (va_Qi (fun (r : Int32) (u : mw_S) => r = (zs_fill z row i n d).1 ∧ mw_Ru u (zs_fill z row i n d).2) (sf_E (dC, dI) vwCl (va_A (mw_w b0 b1 b2 b3 b4 d1 d2 d3 d4 us nu bm tn g za ss bk) sz) (fun (u : mw_S) => mw_w b0 b1 b2 b3 b4 d1 d2 d3 d4 u.1 u.2.1 u.2.2.1 u.2.2.2.1 u.2.2.2.2.1 u.2.2.2.2.2.1 u.2.2.2.2.2.2.1 u.2.2.2.2.2.2.2)) (va_A (mw_w b0 b1 b2 b3 b4 d1 d2 d3 d4 us nu bm tn g za ss bk) sz)) 0 0 (va_A (mw_w b0 b1 b2 b3 b4 d1 d2 d3 d4 us nu bm tn g za ss bk) sz) := by
  refine Met.ofW (cc := cX3_fill) (maxL := 6) (ret := (some .boolean)) (by decide) rfl ?_
  intro p e s m args below meth c s₁ B hml hv
  obtain ⟨rfl, hsz, hP, hK, hD0, hN⟩ := hv
  have hx := B.exec
  have hb := B.bytes
  have hr := B.returns
  have hts := atoms_spec (ws := wsX3_fill) B.pre
  have hown : s.vm.findClass RX3 = some m.cls := findClass_of_methodNamed B.named
  have hlocks := B.notSynchronized
  subst hsz
  have hD := hD0.self (sz := s.heap.size)
  generalize hAe : va_A (mw_w b0 b1 b2 b3 b4 d1 d2 d3 d4 us nu bm tn g za ss bk) s.heap.size = A at hD ⊢
  have hA : ∀ q : Nat, s.heap.size ≤ q → A q := fun q h => by rw [← hAe]; exact Or.inr h
  have hS : va_S A s.heap s.heap [] := va_S.rf
  have hl := lv_entry ([.ref b0, .int row, .int i, .int n, .int d]) (n := 6) (Nat.le_of_ble_eq_true rfl)
  rw [lg_entry_eq]
  generalize (lg_sl ([.ref b0, .int row, .int i, .int n, .int d]) ++ List.replicate (6 - (lg_sl ([.ref b0, .int row, .int i, .int n, .int d])).length) Slot.unset).toArray = ls at hl ⊢
  have hl : lv_has ls 6 [(0, .ref b0), (1, .int row), (2, .int i), (3, .int n), (4, .int d)] := hl
  refine lv_aload_n hx hb dX3_fill_0 rfl (lv_at hl 0 rfl) ?_
  refine lv_iload_n hx hb dX3_fill_1 rfl (lv_at hl 1 rfl) ?_
  refine vp_callSi (va_Run.run (sf_runV (b := b0) (As := [.int row]) (rest := []) ⟨hx, hb, hml, hown, hts⟩ sf_has (m_isRow l dC dI b0 b1 b2 b3 b4 d1 d2 d3 d4 us nu bm tn g za ss bk _ _ hR.2.1) k_X3_52 ⟨sf_blind, va_recv hK hP (ci := 3) (q0 := 0) rfl rfl, sf_preU hP hK hD hN⟩ rfl hl.1 (Nat.le_of_ble_eq_true rfl) ⟨(Nat.le_of_ble_eq_true rfl), (Nat.le_of_ble_eq_true rfl)⟩ ⟨rfl, rfl⟩ ⟨Nat.zero_le _, Nat.zero_le _⟩ dX3_fill_2)) (fun r_2 h_2 => ?_)
  rcases h_2 with ⟨rfl, h_2⟩ | ⟨rfl, h_2⟩
  · obtain ⟨k_2, q1_2, q2_2, q3_2⟩ := h_2
    subst q2_2
    have hl : lv_has ls 6 [(0, .ref b0), (1, .int (nI k_2)), (2, .int i), (3, .int n), (4, .int d)] := hl
    obtain ⟨f1_2, f2_2, f3_2, f4_2, f5_2, f6_2, f7_2⟩ := mw_zs hR q1_2 q3_2
    have hnu := hR.2.1
    refine sf_if_eq (tgt := 38) hx hb (by decide) dX3_fill_5 (by decide) (fun c_5 => absurd c_5 (by decide)) (fun _ => ?_)
    refine lv_iload_n hx hb dX3_fill_8 rfl (lv_at hl 2 rfl) ?_
    refine lv_if_lt (tgt := 38) hx hb dX3_fill_9 (by decide) (fun c_9 => ?_) (fun c_9 => ?_)
    · have hno : ∀ a m : Nat, a + m ≤ zLn z k_2 → i = nI a → n ≠ nI m := fun a m h q q2 => nI_pos (n := a) (by omega) (by rw [← q]; exact c_9)
      refine lv_iconst (v := nI 0) hx hb dX3_fill_38 (by decide) ?_
      exact W.zret (v := nI 0) hx hb hr (by decide) (fun t ht hW => ⟨⟨_, (us, nu, bm, tn, g, za, ss, bk), rfl, by rw [zs_fill_2 f1_2 f4_2 hno]; exact ⟨rfl, hR⟩, by rw [ht]; exact hP, hD⟩, hS.F ht⟩) hS.2.2 dX3_fill_39
    · obtain ⟨i0, hi0, rfl⟩ := nI_of c_9
      have hl : lv_has ls 6 [(0, .ref b0), (1, .int (nI k_2)), (2, .int (nI i0)), (3, .int n), (4, .int d)] := hl
      refine lv_iload_n hx hb dX3_fill_12 rfl (lv_at hl 3 rfl) ?_
      refine lv_if_lt (tgt := 38) hx hb dX3_fill_13 (by decide) (fun c_13 => ?_) (fun c_13 => ?_)
      · have hno : ∀ a m : Nat, a + m ≤ zLn z k_2 → nI i0 = nI a → n ≠ nI m := fun a m h q q2 => nI_pos (n := m) (by omega) (by rw [← q2]; exact c_13)
        refine lv_iconst (v := nI 0) hx hb dX3_fill_38 (by decide) ?_
        exact W.zret (v := nI 0) hx hb hr (by decide) (fun t ht hW => ⟨⟨_, (us, nu, bm, tn, g, za, ss, bk), rfl, by rw [zs_fill_2 f1_2 f4_2 hno]; exact ⟨rfl, hR⟩, by rw [ht]; exact hP, hD⟩, hS.F ht⟩) hS.2.2 dX3_fill_39
      · obtain ⟨n0, hn0, rfl⟩ := nI_of c_13
        have hl : lv_has ls 6 [(0, .ref b0), (1, .int (nI k_2)), (2, .int (nI i0)), (3, .int (nI n0)), (4, .int d)] := hl
        refine lv_iload_n hx hb dX3_fill_16 rfl (lv_at hl 2 rfl) ?_
        refine lv_aload_n hx hb dX3_fill_17 rfl (lv_at hl 0 rfl) ?_
        refine va_get (D := (dC, dI)) (ci := 3) (v := .ref b3) (C := RX3) (T := TX3) (N := 8) hx hb hts sf_inX3 hown hK hP 0 rfl rfl 3 (by decide) (hts _ (sf_mem fl_X3_18 rfl)) (fun _ h9 => h9) rfl dX3_fill_18 ?_
        refine lv_iload_n hx hb dX3_fill_21 rfl (lv_at hl 1 rfl) ?_
        refine sf_iald hx hb hK hP 3 2 rfl rfl (by omega) (by decide) dX3_fill_22 ?_
        rw [f3_2]
        refine sf_icmp_gt (tgt := 38) hx hb (by omega) (by omega) dX3_fill_23 (by decide) (fun c_23 => ?_) (fun c_23 => ?_)
        · have hno : ∀ a m : Nat, a + m ≤ zLn z k_2 → nI i0 = nI a → nI n0 ≠ nI m := fun a m h q q2 => by
            have e1 := (nI_eq hi0 (by omega)).mp q
            have e2 := (nI_eq hn0 (by omega)).mp q2
            omega
          refine lv_iconst (v := nI 0) hx hb dX3_fill_38 (by decide) ?_
          exact W.zret (v := nI 0) hx hb hr (by decide) (fun t ht hW => ⟨⟨_, (us, nu, bm, tn, g, za, ss, bk), rfl, by rw [zs_fill_2 f1_2 f4_2 hno]; exact ⟨rfl, hR⟩, by rw [ht]; exact hP, hD⟩, hS.F ht⟩) hS.2.2 dX3_fill_39
        · refine lv_iload_n hx hb dX3_fill_26 rfl (lv_at hl 3 rfl) ?_
          refine lv_aload_n hx hb dX3_fill_27 rfl (lv_at hl 0 rfl) ?_
          refine va_get (D := (dC, dI)) (ci := 3) (v := .ref b3) (C := RX3) (T := TX3) (N := 8) hx hb hts sf_inX3 hown hK hP 0 rfl rfl 3 (by decide) (hts _ (sf_mem fl_X3_18 rfl)) (fun _ h9 => h9) rfl dX3_fill_28 ?_
          refine lv_iload_n hx hb dX3_fill_31 rfl (lv_at hl 1 rfl) ?_
          refine sf_iald hx hb hK hP 3 2 rfl rfl (by omega) (by decide) dX3_fill_32 ?_
          rw [f3_2]
          refine lv_iload_n hx hb dX3_fill_33 rfl (lv_at hl 2 rfl) ?_
          refine sf_isub hx hb (by omega) dX3_fill_34 ?_
          refine sf_icmp_le (tgt := 40) hx hb (by omega) (by omega) dX3_fill_35 (by decide) (fun c_35 => ?_) (fun c_35 => ?_)
          · refine lv_iconst (v := nI 0) hx hb dX3_fill_40 (by decide) ?_
            refine lv_istore (lv' := [(5, .int (nI 0)), (0, .ref b0), (1, .int (nI k_2)), (2, .int (nI i0)), (3, .int (nI n0)), (4, .int d)]) hx hb dX3_fill_41 hl (by decide) rfl (fun ls hl => ?_)
            refine sf_loop (σ := Nat × (Nat → Int32)) (fun u => n0 - u.1) (fun u H locs ls => u.1 ≤ n0 ∧ (∀ p, u.2 p = if (ss k_2 + i0) ≤ p ∧ p < (ss k_2 + i0) + u.1 then zfb d (p - (ss k_2 + i0)) else g p) ∧ sb_Fit u.2 ∧ va_P (dC, dI) vwCl (mw_w b0 b1 b2 b3 b4 d1 d2 d3 d4 us nu bm tn u.2 za ss bk) H ∧ va_D A (mw_w b0 b1 b2 b3 b4 d1 d2 d3 d4 us nu bm tn u.2 za ss bk) ∧ va_S A s.heap H locs ∧ lv_has ls 6 [(0, .ref b0), (1, .int (nI k_2)), (2, .int (nI i0)), (3, .int (nI n0)), (4, .int d), (5, .int (nI u.1))]) ?_ (0, g) _ _ _ ?_
            · intro u H locs ls hI2 ih
              obtain ⟨c0, g2⟩ := u
              obtain ⟨k1, k2, k3, hP, hD, hS, hl⟩ := hI2
              dsimp only at k1 k2 k3 hP hD hl ih
              refine lv_iload hx hb dX3_fill_43 (lv_at hl 5 rfl) ?_
              refine lv_iload_n hx hb dX3_fill_45 rfl (lv_at hl 3 rfl) ?_
              refine sf_icmp_ge (tgt := 87) hx hb (by omega) (by omega) dX3_fill_46 (by decide) (fun c_46 => ?_) (fun c_46 => ?_)
              · refine lv_iconst (v := nI 1) hx hb dX3_fill_87 (by decide) ?_
                exact W.zret (v := nI 1) hx hb hr (by decide) (fun t ht hW => ⟨⟨_, (us, nu, bm, tn, g2, za, ss, bk), rfl, by rw [zs_fill_3 f1_2 f4_2 (by omega)]; exact ⟨rfl, mw_R_fill hR q1_2 f2_2 k3 (by omega) (by rw [show c0 = n0 by omega] at k2; exact k2)⟩, by rw [ht]; exact hP, hD⟩, hS.F ht⟩) hS.2.2 dX3_fill_88
              · have hb6 := f6_2 (i0 + c0) (by omega)
                refine lv_aload_n hx hb dX3_fill_49 rfl (lv_at hl 0 rfl) ?_
                refine va_get (D := (dC, dI)) (ci := 3) (v := .ref b1) (C := RX3) (T := TX3) (N := 8) hx hb hts sf_inX3 hown hK hP 0 rfl rfl 0 (by decide) (hts _ (sf_mem fl_X3_8 rfl)) (fun _ h9 => h9) rfl dX3_fill_50 ?_
                refine lv_aload_n hx hb dX3_fill_53 rfl (lv_at hl 0 rfl) ?_
                refine va_get (D := (dC, dI)) (ci := 3) (v := .ref b2) (C := RX3) (T := TX3) (N := 8) hx hb hts sf_inX3 hown hK hP 0 rfl rfl 2 (by decide) (hts _ (sf_mem fl_X3_14 rfl)) (fun _ h9 => h9) rfl dX3_fill_54 ?_
                refine lv_iload_n hx hb dX3_fill_57 rfl (lv_at hl 1 rfl) ?_
                refine sf_iald hx hb hK hP 2 1 rfl rfl (by omega) (by decide) dX3_fill_58 ?_
                try dsimp only
                refine lv_iload_n hx hb dX3_fill_59 rfl (lv_at hl 2 rfl) ?_
                refine sf_iadd hx hb dX3_fill_60 ?_
                refine lv_iload hx hb dX3_fill_61 (lv_at hl 5 rfl) ?_
                refine sf_iadd hx hb dX3_fill_63 ?_
                refine lv_iload hx hb dX3_fill_64 (lv_at hl 4 rfl) ?_
                refine lv_bipush (v := nI 7) hx hb dX3_fill_66 (by decide) ?_
                refine lv_iload hx hb dX3_fill_68 (lv_at hl 5 rfl) ?_
                refine sf_imul hx hb dX3_fill_70 ?_
                refine lv_iadd hx hb dX3_fill_71 ?_
                refine lv_iload hx hb dX3_fill_72 (lv_at hl 5 rfl) ?_
                refine lv_sipush (v := nI 250) hx hb dX3_fill_74 (by decide) ?_
                refine sf_idiv hx hb (by omega) (by omega) (by omega) dX3_fill_77 ?_
                refine lv_iadd hx hb dX3_fill_78 ?_
                refine lv_i2b hx hb dX3_fill_79 rfl ?_
                refine sf_bast hx hb hK hP hD hS 1 0 rfl rfl (pk_vb _) (by omega) (by decide) dX3_fill_80 (fun H locs hP hD hS => ?_)
                have hP : va_P (dC, dI) vwCl (mw_w b0 b1 b2 b3 b4 d1 d2 d3 d4 us nu bm tn (upd g2 (((ss k_2) + i0) + c0) (((d + (nI (7 * c0))) + (nI (c0 / 250))).toInt8.toInt32)) za ss bk) H := hP
                have hD : va_D A (mw_w b0 b1 b2 b3 b4 d1 d2 d3 d4 us nu bm tn (upd g2 (((ss k_2) + i0) + c0) (((d + (nI (7 * c0))) + (nI (c0 / 250))).toInt8.toInt32)) za ss bk) := hD
                refine lv_iinc (v := nI (c0 + 1)) (lv' := [(5, .int (nI (c0 + 1))), (0, .ref b0), (1, .int (nI k_2)), (2, .int (nI i0)), (3, .int (nI n0)), (4, .int d)]) hx hb dX3_fill_81 hl (k := 5) rfl (nI_1 c0) (by decide) rfl (fun ls hl => ?_)
                refine lv_goto (tgt := 43) hx hb dX3_fill_84 (by decide) ?_
                exact ih (c0 + 1, upd g2 (ss k_2 + i0 + c0) (zfb d c0)) _ _ _ (by dsimp only; omega) ⟨by dsimp only; omega, sf_fill_go (h := zfb d) k2, sb_fitU k3 (pk_fb _), hP, hD, hS, lv_sub hl [1, 2, 3, 4, 5, 0] rfl⟩
            · exact ⟨Nat.zero_le _, fun p => by rw [if_neg (by omega)], hR.2.2.2.2.2.2.2.2.2.2.2.2, hP, hD, hS, lv_sub hl [1, 2, 3, 4, 5, 0] rfl⟩
          · have hno : ∀ a m : Nat, a + m ≤ zLn z k_2 → nI i0 = nI a → nI n0 ≠ nI m := fun a m h q q2 => by
              have e1 := (nI_eq hi0 (by omega)).mp q
              have e2 := (nI_eq hn0 (by omega)).mp q2
              omega
            refine lv_iconst (v := nI 0) hx hb dX3_fill_38 (by decide) ?_
            exact W.zret (v := nI 0) hx hb hr (by decide) (fun t ht hW => ⟨⟨_, (us, nu, bm, tn, g, za, ss, bk), rfl, by rw [zs_fill_2 f1_2 f4_2 hno]; exact ⟨rfl, hR⟩, by rw [ht]; exact hP, hD⟩, hS.F ht⟩) hS.2.2 dX3_fill_39
  · have f1_2 := mw_zn hR h_2
    refine sf_if_eq (tgt := 38) hx hb (by decide) dX3_fill_5 (by decide) (fun _ => ?_) (fun c_5 => absurd c_5 (by decide))
    refine lv_iconst (v := nI 0) hx hb dX3_fill_38 (by decide) ?_
    exact W.zret (v := nI 0) hx hb hr (by decide) (fun t ht hW => ⟨⟨_, (us, nu, bm, tn, g, za, ss, bk), rfl, by rw [zs_fill_1 f1_2]; exact ⟨rfl, hR⟩, by rw [ht]; exact hP, hD⟩, hS.F ht⟩) hS.2.2 dX3_fill_39
theorem mw_res_f {z : sf_Z} {k n : Nat} {g g2 : Nat → Int32} {ss ss2 : Nat → Nat} (f4 : mln z k = zLn z k) (f5 : ∀ i, i < zLn z k → zBy z k i = g (ss k + i)) (e6 : ∀ i, i < n → g2 (ss2 k + i) = if i < mln z k then g (ss k + i) else 0) : ∀ i, i < n → (fun i => if i < zLn z k then zBy z k i else 0) i = g2 (ss2 k + i) := by
  intro i hi
  show (if i < zLn z k then zBy z k i else 0) = _
  rw [e6 i hi, f4]
  by_cases q : i < zLn z k
  · rw [if_pos q, if_pos q]; exact f5 i q
  · rw [if_neg q, if_neg q]
set_option maxHeartbeats 4000000 in
set_option maxRecDepth 100000 in
/-- resize(row, n) -/
theorem m_resize (l : Launch) (dC : Nat → ClassId) (dI : Nat → Nat → Nat) (b0 b1 b2 b3 b4 : Nat) (d1 d2 d3 d4 : ClassId) (us nu bm tn : Nat) (g za : Nat → Int32) (ss bk : Nat → Nat) (sz : Nat) (z : sf_Z) (hR : mw_R us nu bm tn g za ss bk z) (row n : Int32) : Met l yX3_resize wsX3_resize ({ frames := 2, cells := 0, slots := 0, locals := 60 } : Room) (sf_Pre (dC, dI) vwCl [(d1, .byte), (d2, .int), (d3, .int), (d4, .int)] [.ref b0, .int row, .int n] (mw_w b0 b1 b2 b3 b4 d1 d2 d3 d4 us nu bm tn g za ss bk) sz) (va_Qi (fun (r : Int32) (u : mw_S) => r = (zs_resize z row n).1 ∧ mw_Ru u (zs_resize z row n).2) (sf_E (dC, dI) vwCl (va_A (mw_w b0 b1 b2 b3 b4 d1 d2 d3 d4 us nu bm tn g za ss bk) sz) (fun (u : mw_S) => mw_w b0 b1 b2 b3 b4 d1 d2 d3 d4 u.1 u.2.1 u.2.2.1 u.2.2.2.1 u.2.2.2.2.1 u.2.2.2.2.2.1 u.2.2.2.2.2.2.1 u.2.2.2.2.2.2.2)) (va_A (mw_w b0 b1 b2 b3 b4 d1 d2 d3 d4 us nu bm tn g za ss bk) sz)) 0 0 (va_A (mw_w b0 b1 b2 b3 b4 d1 d2 d3 d4 us nu bm tn g za ss bk) sz) := by
  refine Met.ofW (cc := cX3_resize) (maxL := 3) (ret := (some .int)) (by decide) rfl ?_
  intro p e s m args below meth c s₁ B hml hv
  obtain ⟨rfl, hsz, hP, hK, hD0, hN⟩ := hv
  have hx := B.exec
  have hb := B.bytes
  have hr := B.returns
  have hts := atoms_spec (ws := wsX3_resize) B.pre
  have hown : s.vm.findClass RX3 = some m.cls := findClass_of_methodNamed B.named
  have hlocks := B.notSynchronized
  subst hsz
  have hD := hD0.self (sz := s.heap.size)
  generalize hAe : va_A (mw_w b0 b1 b2 b3 b4 d1 d2 d3 d4 us nu bm tn g za ss bk) s.heap.size = A at hD ⊢
  have hA : ∀ q : Nat, s.heap.size ≤ q → A q := fun q h => by rw [← hAe]; exact Or.inr h
  have hS : va_S A s.heap s.heap [] := va_S.rf
  have hl := lv_entry ([.ref b0, .int row, .int n]) (n := 3) (Nat.le_of_ble_eq_true rfl)
  rw [lg_entry_eq]
  generalize (lg_sl ([.ref b0, .int row, .int n]) ++ List.replicate (3 - (lg_sl ([.ref b0, .int row, .int n])).length) Slot.unset).toArray = ls at hl ⊢
  have hl : lv_has ls 3 [(0, .ref b0), (1, .int row), (2, .int n)] := hl
  refine lv_aload_n hx hb dX3_resize_0 rfl (lv_at hl 0 rfl) ?_
  refine lv_iload_n hx hb dX3_resize_1 rfl (lv_at hl 1 rfl) ?_
  refine vp_callSi (va_Run.run (sf_runV (b := b0) (As := [.int row]) (rest := []) ⟨hx, hb, hml, hown, hts⟩ sf_has (m_isRow l dC dI b0 b1 b2 b3 b4 d1 d2 d3 d4 us nu bm tn g za ss bk _ _ hR.2.1) k_X3_52 ⟨sf_blind, va_recv hK hP (ci := 3) (q0 := 0) rfl rfl, sf_preU hP hK hD hN⟩ rfl hl.1 (Nat.le_of_ble_eq_true rfl) ⟨(Nat.le_of_ble_eq_true rfl), (Nat.le_of_ble_eq_true rfl)⟩ ⟨rfl, rfl⟩ ⟨Nat.zero_le _, Nat.zero_le _⟩ dX3_resize_2)) (fun r_2 h_2 => ?_)
  rcases h_2 with ⟨rfl, h_2⟩ | ⟨rfl, h_2⟩
  · obtain ⟨k_2, q1_2, q2_2, q3_2⟩ := h_2
    subst q2_2
    have hl : lv_has ls 3 [(0, .ref b0), (1, .int (nI k_2)), (2, .int n)] := hl
    obtain ⟨f1_2, f2_2, f3_2, f4_2, f5_2, f6_2, f7_2⟩ := mw_zs hR q1_2 q3_2
    have hnu := hR.2.1
    refine sf_if_eq (tgt := 19) hx hb (by decide) dX3_resize_5 (by decide) (fun c_5 => absurd c_5 (by decide)) (fun _ => ?_)
    refine lv_iload_n hx hb dX3_resize_8 rfl (lv_at hl 2 rfl) ?_
    refine lv_if_lt (tgt := 19) hx hb dX3_resize_9 (by decide) (fun c_9 => ?_) (fun c_9 => ?_)
    · have hzn : zi n 16385 = none := zi_none (by omega) (fun k hk q => nI_pos (n := k) (by omega) (by rw [← q]; exact c_9))
      refine lv_iconst (v := -1) hx hb dX3_resize_19 (by decide) ?_
      exact W.iret (v := -1) hx hb hr (fun t ht hW => ⟨⟨_, (us, nu, bm, tn, g, za, ss, bk), rfl, by rw [zs_res_2 f1_2 hzn]; exact ⟨rfl, hR⟩, by rw [ht]; exact hP, hD⟩, hS.F ht⟩) hS.2.2 dX3_resize_20
    · obtain ⟨m, hm0, rfl⟩ := nI_of c_9
      have hl : lv_has ls 3 [(0, .ref b0), (1, .int (nI k_2)), (2, .int (nI m))] := hl
      refine lv_iload_n hx hb dX3_resize_12 rfl (lv_at hl 2 rfl) ?_
      refine lv_sipush (v := nI 16384) hx hb dX3_resize_13 (by decide) ?_
      refine sf_icmp_le (tgt := 21) hx hb (by omega) (by omega) dX3_resize_16 (by decide) (fun c_16 => ?_) (fun c_16 => ?_)
      · refine lv_aload_n hx hb dX3_resize_21 rfl (lv_at hl 0 rfl) ?_
        refine lv_iload_n hx hb dX3_resize_22 rfl (lv_at hl 1 rfl) ?_
        refine lv_iload_n hx hb dX3_resize_23 rfl (lv_at hl 2 rfl) ?_
        refine vp_callSi (va_Run.run (sf_runV (b := b0) (As := [.int (nI k_2), .int (nI m)]) (rest := []) ⟨hx, hb, hml, hown, hts⟩ sf_has (m_hasRoom l dC dI b0 b1 b2 b3 b4 d1 d2 d3 d4 us nu bm tn g za ss bk _ k_2 m (zLn z k_2) (by omega) f3_2 f4_2 c_16 (by have := hR.2.2.2.2.2.2.2.2.2.1; have := hR.2.2.2.2.2.2.2.2.2.2.2.1; omega)) k_X3_56 ⟨sf_blind, va_recv hK hP (ci := 3) (q0 := 0) rfl rfl, sf_preU hP hK hD hN⟩ rfl hl.1 (Nat.le_of_ble_eq_true rfl) ⟨(Nat.le_of_ble_eq_true rfl), (Nat.le_of_ble_eq_true rfl)⟩ ⟨rfl, rfl⟩ ⟨Nat.zero_le _, Nat.zero_le _⟩ dX3_resize_24)) (fun r_24 h_24 => ?_)
        rcases h_24 with ⟨rfl, h_24⟩ | ⟨rfl, h_24⟩
        · refine sf_if_ne (tgt := 33) hx hb (by decide) dX3_resize_27 (by decide) (fun _ => ?_) (fun c_27 => absurd c_27 (by decide))
          refine lv_aload_n hx hb dX3_resize_33 rfl (lv_at hl 0 rfl) ?_
          refine lv_iload_n hx hb dX3_resize_34 rfl (lv_at hl 1 rfl) ?_
          refine lv_iload_n hx hb dX3_resize_35 rfl (lv_at hl 2 rfl) ?_
          have hmk : mln z k_2 = zLn z k_2 := mln_1 f2_2
          have hus := mw_us hR
          have hrm := mw_room hR q1_2 (n := m) (by rw [hmk, ← hR.2.2.2.2.2.2.2.2.2.1]; exact h_24)
          have htn := hR.2.2.2.2.2.2.2.2.2.1
          have hoc := hR.2.2.2.2.2.2.2.2.2.2.2.1
          refine sf_cv (sf_runV (b := b0) (As := [.int (nI k_2), .int (nI m)]) (rest := []) ⟨hx, hb, hml, hown, hts⟩ sf_has (m_change l dC dI b0 b1 b2 b3 b4 d1 d2 d3 d4 us nu bm tn g za ss bk _ k_2 m (mln z) hR.2.2.2.2.2.2.2.1 q1_2 hnu (mw_hz hR) (by rw [hmk]; exact f3_2) (by rw [hmk]; exact f4_2) c_16 hR.2.2.2.2.2.2.2.2.2.2.2.2 hus hrm (by omega) (by rw [hmk]; omega)) k_X3_42 ⟨sf_blind, va_recv hK hP (ci := 3) (q0 := 0) rfl rfl, sf_preU hP hK hD hN⟩ rfl hl.1 (Nat.le_of_ble_eq_true rfl) ⟨(Nat.le_of_ble_eq_true rfl), (Nat.le_of_ble_eq_true rfl)⟩ ⟨rfl, rfl⟩ ⟨Nat.zero_le _, Nat.zero_le _⟩ dX3_resize_36) hD hS hA (fun u_36 H locs h_36 hP hD hS => ?_)
          obtain ⟨g2, ss2⟩ := u_36
          obtain ⟨p1, p2, p3, p4⟩ := h_36
          dsimp only at p1 p2 p3 p4
          have hP : va_P (dC, dI) vwCl (mw_w b0 b1 b2 b3 b4 d1 d2 d3 d4 (us + m - mln z k_2) nu bm (tn + sf_P m - sf_P (mln z k_2)) g2 (upd za k_2 (nI m)) ss2 bk) H := hP
          have hD : va_D A (mw_w b0 b1 b2 b3 b4 d1 d2 d3 d4 (us + m - mln z k_2) nu bm (tn + sf_P m - sf_P (mln z k_2)) g2 (upd za k_2 (nI m)) ss2 bk) := hD
          refine lv_iload_n hx hb dX3_resize_39 rfl (lv_at hl 2 rfl) ?_
          exact W.iret (v := nI m) hx hb hr (fun t ht hW => ⟨⟨_, ((us + m - mln z k_2), nu, bm, (tn + sf_P m - sf_P (mln z k_2)), g2, (upd za k_2 (nI m)), ss2, bk), rfl, by rw [zs_res_4 f1_2 c_16 (by rw [← hR.2.2.2.2.2.2.2.2.2.1]; exact h_24)]; exact ⟨rfl, mw_R_len hR q1_2 f2_2 c_16 (by rw [← hR.2.2.2.2.2.2.2.2.2.1]; exact h_24) p1 p2 (mw_res_f hmk f5_2 p3) p4⟩, by rw [ht]; exact hP, hD⟩, hS.F ht⟩) hS.2.2 dX3_resize_40
        · refine sf_if_ne (tgt := 33) hx hb (by decide) dX3_resize_27 (by decide) (fun c_27 => absurd c_27 (by decide)) (fun _ => ?_)
          refine lv_bipush (v := -2) hx hb dX3_resize_30 (by decide) ?_
          exact W.iret (v := -2) hx hb hr (fun t ht hW => ⟨⟨_, (us, nu, bm, tn, g, za, ss, bk), rfl, by rw [zs_res_3 f1_2 c_16 (by rw [← hR.2.2.2.2.2.2.2.2.2.1]; exact h_24)]; exact ⟨rfl, hR⟩, by rw [ht]; exact hP, hD⟩, hS.F ht⟩) hS.2.2 dX3_resize_32
      · have hzn : zi (nI m) 16385 = none := zi_none (by omega) (fun k hk q => by
          have := (nI_eq hm0 (by omega)).mp q
          omega)
        refine lv_iconst (v := -1) hx hb dX3_resize_19 (by decide) ?_
        exact W.iret (v := -1) hx hb hr (fun t ht hW => ⟨⟨_, (us, nu, bm, tn, g, za, ss, bk), rfl, by rw [zs_res_2 f1_2 hzn]; exact ⟨rfl, hR⟩, by rw [ht]; exact hP, hD⟩, hS.F ht⟩) hS.2.2 dX3_resize_20
  · have f1_2 := mw_zn hR h_2
    refine sf_if_eq (tgt := 19) hx hb (by decide) dX3_resize_5 (by decide) (fun _ => ?_) (fun c_5 => absurd c_5 (by decide))
    refine lv_iconst (v := -1) hx hb dX3_resize_19 (by decide) ?_
    exact W.iret (v := -1) hx hb hr (fun t ht hW => ⟨⟨_, (us, nu, bm, tn, g, za, ss, bk), rfl, by rw [zs_res_1 f1_2]; exact ⟨rfl, hR⟩, by rw [ht]; exact hP, hD⟩, hS.F ht⟩) hS.2.2 dX3_resize_20
theorem mw_cp_b {us nu bm tn : Nat} {g za : Nat → Int32} {ss bk : Nat → Nat} {z : sf_Z} {k n : Nat} (h : mw_R us nu bm tn g za ss bk z) (hk : k < nu) (tk1 : zTk z k = 1) (e : zLn z k = n) : ∀ i, i < n → ss k + i < 400000 := by
  intro i hi
  have hus := mw_us h
  have := h.2.2.2.2.2.2.2.1.2.1 k hk (by rw [mln_1 tk1]; omega)
  rw [mln_1 tk1] at this
  omega
theorem mw_cp_r {us nu bm tn : Nat} {g2 g3 za : Nat → Int32} {ss bk : Nat → Nat} {z : sf_Z} {k k2 n c : Nat} (h : mw_R us nu bm tn g2 za ss bk z) (hk : k < nu) (tk1 : zTk z k = 1) (hk2 : k2 < nu) (tk2 : zTk z k2 = 1) (e1 : zLn z k = n) (e2 : zLn z k2 = n) (q : ∀ x, g3 x = if ss k ≤ x ∧ x < ss k + c then g2 (ss k2 + (x - ss k)) else g2 x) (hc : c < n) : g3 (ss k2 + c) = g2 (ss k2 + c) := by
  rw [q, if_neg]
  intro e
  by_cases ek : k2 = k
  · subst ek
    omega
  · exact mw_apart h hk hk2 tk1 tk2 ek (a := c) (b := ss k2 + c - ss k) (by omega) (by omega) (by omega)
set_option maxHeartbeats 4000000 in
set_option maxRecDepth 100000 in
/-- copy(row, src) -/
theorem m_copy (l : Launch) (dC : Nat → ClassId) (dI : Nat → Nat → Nat) (b0 b1 b2 b3 b4 : Nat) (d1 d2 d3 d4 : ClassId) (us nu bm tn : Nat) (g za : Nat → Int32) (ss bk : Nat → Nat) (sz : Nat) (z : sf_Z) (hR : mw_R us nu bm tn g za ss bk z) (row src : Int32) : Met l yX3_copy wsX3_copy ({ frames := 2, cells := 0, slots := 0, locals := 60 } : Room) (sf_Pre (dC, dI) vwCl [(d1, .byte), (d2, .int), (d3, .int), (d4, .int)] [.ref b0, .int row, .int src] (mw_w b0 b1 b2 b3 b4 d1 d2 d3 d4 us nu bm tn g za ss bk) sz) (va_Qi (fun (r : Int32) (u : mw_S) => r = (zs_copy z row src).1 ∧ mw_Ru u (zs_copy z row src).2) (sf_E (dC, dI) vwCl (va_A (mw_w b0 b1 b2 b3 b4 d1 d2 d3 d4 us nu bm tn g za ss bk) sz) (fun (u : mw_S) => mw_w b0 b1 b2 b3 b4 d1 d2 d3 d4 u.1 u.2.1 u.2.2.1 u.2.2.2.1 u.2.2.2.2.1 u.2.2.2.2.2.1 u.2.2.2.2.2.2.1 u.2.2.2.2.2.2.2)) (va_A (mw_w b0 b1 b2 b3 b4 d1 d2 d3 d4 us nu bm tn g za ss bk) sz)) 0 0 (va_A (mw_w b0 b1 b2 b3 b4 d1 d2 d3 d4 us nu bm tn g za ss bk) sz) := by
  refine Met.ofW (cc := cX3_copy) (maxL := 5) (ret := (some .int)) (by decide) rfl ?_
  intro p e s m args below meth c s₁ B hml hv
  obtain ⟨rfl, hsz, hP, hK, hD0, hN⟩ := hv
  have hx := B.exec
  have hb := B.bytes
  have hr := B.returns
  have hts := atoms_spec (ws := wsX3_copy) B.pre
  have hown : s.vm.findClass RX3 = some m.cls := findClass_of_methodNamed B.named
  have hlocks := B.notSynchronized
  subst hsz
  have hD := hD0.self (sz := s.heap.size)
  generalize hAe : va_A (mw_w b0 b1 b2 b3 b4 d1 d2 d3 d4 us nu bm tn g za ss bk) s.heap.size = A at hD ⊢
  have hA : ∀ q : Nat, s.heap.size ≤ q → A q := fun q h => by rw [← hAe]; exact Or.inr h
  have hS : va_S A s.heap s.heap [] := va_S.rf
  have hl := lv_entry ([.ref b0, .int row, .int src]) (n := 5) (Nat.le_of_ble_eq_true rfl)
  rw [lg_entry_eq]
  generalize (lg_sl ([.ref b0, .int row, .int src]) ++ List.replicate (5 - (lg_sl ([.ref b0, .int row, .int src])).length) Slot.unset).toArray = ls at hl ⊢
  have hl : lv_has ls 5 [(0, .ref b0), (1, .int row), (2, .int src)] := hl
  refine lv_aload_n hx hb dX3_copy_0 rfl (lv_at hl 0 rfl) ?_
  refine lv_iload_n hx hb dX3_copy_1 rfl (lv_at hl 1 rfl) ?_
  refine vp_callSi (va_Run.run (sf_runV (b := b0) (As := [.int row]) (rest := []) ⟨hx, hb, hml, hown, hts⟩ sf_has (m_isRow l dC dI b0 b1 b2 b3 b4 d1 d2 d3 d4 us nu bm tn g za ss bk _ _ hR.2.1) k_X3_52 ⟨sf_blind, va_recv hK hP (ci := 3) (q0 := 0) rfl rfl, sf_preU hP hK hD hN⟩ rfl hl.1 (Nat.le_of_ble_eq_true rfl) ⟨(Nat.le_of_ble_eq_true rfl), (Nat.le_of_ble_eq_true rfl)⟩ ⟨rfl, rfl⟩ ⟨Nat.zero_le _, Nat.zero_le _⟩ dX3_copy_2)) (fun r_2 h_2 => ?_)
  rcases h_2 with ⟨rfl, h_2⟩ | ⟨rfl, h_2⟩
  · obtain ⟨k_2, q1_2, q2_2, q3_2⟩ := h_2
    subst q2_2
    have hl : lv_has ls 5 [(0, .ref b0), (1, .int (nI k_2)), (2, .int src)] := hl
    obtain ⟨f1_2, f2_2, f3_2, f4_2, f5_2, f6_2, f7_2⟩ := mw_zs hR q1_2 q3_2
    have hnu := hR.2.1
    refine sf_if_eq (tgt := 16) hx hb (by decide) dX3_copy_5 (by decide) (fun c_5 => absurd c_5 (by decide)) (fun _ => ?_)
    refine lv_aload_n hx hb dX3_copy_8 rfl (lv_at hl 0 rfl) ?_
    refine lv_iload_n hx hb dX3_copy_9 rfl (lv_at hl 2 rfl) ?_
    refine vp_callSi (va_Run.run (sf_runV (b := b0) (As := [.int src]) (rest := []) ⟨hx, hb, hml, hown, hts⟩ sf_has (m_isRow l dC dI b0 b1 b2 b3 b4 d1 d2 d3 d4 us nu bm tn g za ss bk _ _ hR.2.1) k_X3_52 ⟨sf_blind, va_recv hK hP (ci := 3) (q0 := 0) rfl rfl, sf_preU hP hK hD hN⟩ rfl hl.1 (Nat.le_of_ble_eq_true rfl) ⟨(Nat.le_of_ble_eq_true rfl), (Nat.le_of_ble_eq_true rfl)⟩ ⟨rfl, rfl⟩ ⟨Nat.zero_le _, Nat.zero_le _⟩ dX3_copy_10)) (fun r_10 h_10 => ?_)
    rcases h_10 with ⟨rfl, h_10⟩ | ⟨rfl, h_10⟩
    · obtain ⟨k_10, q1_10, q2_10, q3_10⟩ := h_10
      subst q2_10
      have hl : lv_has ls 5 [(0, .ref b0), (1, .int (nI k_2)), (2, .int (nI k_10))] := hl
      obtain ⟨f1_10, f2_10, f3_10, f4_10, f5_10, f6_10, f7_10⟩ := mw_zs hR q1_10 q3_10
      have hnu := hR.2.1
      refine sf_if_ne (tgt := 18) hx hb (by decide) dX3_copy_13 (by decide) (fun _ => ?_) (fun c_13 => absurd c_13 (by decide))
      refine lv_aload_n hx hb dX3_copy_18 rfl (lv_at hl 0 rfl) ?_
      refine va_get (D := (dC, dI)) (ci := 3) (v := .ref b3) (C := RX3) (T := TX3) (N := 8) hx hb hts sf_inX3 hown hK hP 0 rfl rfl 3 (by decide) (hts _ (sf_mem fl_X3_18 rfl)) (fun _ h9 => h9) rfl dX3_copy_19 ?_
      refine lv_iload_n hx hb dX3_copy_22 rfl (lv_at hl 2 rfl) ?_
      refine sf_iald hx hb hK hP 3 2 rfl rfl (by omega) (by decide) dX3_copy_23 ?_
      rw [f3_10]
      refine lv_istore_n (lv' := [(3, .int (nI (zLn z k_10))), (0, .ref b0), (1, .int (nI k_2)), (2, .int (nI k_10))]) hx hb dX3_copy_24 rfl hl (by decide) rfl (fun ls hl => ?_)
      refine lv_aload_n hx hb dX3_copy_25 rfl (lv_at hl 1 rfl) ?_
      refine lv_iload_n hx hb dX3_copy_26 rfl (lv_at hl 2 rfl) ?_
      refine lv_iload_n hx hb dX3_copy_27 rfl (lv_at hl 0 rfl) ?_
      refine vp_callSi (va_Run.run (sf_runV (b := b0) (As := [.int (nI k_2), .int (nI (zLn z k_10))]) (rest := []) ⟨hx, hb, hml, hown, hts⟩ sf_has (m_hasRoom l dC dI b0 b1 b2 b3 b4 d1 d2 d3 d4 us nu bm tn g za ss bk _ k_2 (zLn z k_10) (zLn z k_2) (by omega) f3_2 f4_2 f4_10 (by have := hR.2.2.2.2.2.2.2.2.2.1; have := hR.2.2.2.2.2.2.2.2.2.2.2.1; omega)) k_X3_56 ⟨sf_blind, va_recv hK hP (ci := 3) (q0 := 0) rfl rfl, sf_preU hP hK hD hN⟩ rfl hl.1 (Nat.le_of_ble_eq_true rfl) ⟨(Nat.le_of_ble_eq_true rfl), (Nat.le_of_ble_eq_true rfl)⟩ ⟨rfl, rfl⟩ ⟨Nat.zero_le _, Nat.zero_le _⟩ dX3_copy_28)) (fun r_28 h_28 => ?_)
      rcases h_28 with ⟨rfl, h_28⟩ | ⟨rfl, h_28⟩
      · refine sf_if_ne (tgt := 37) hx hb (by decide) dX3_copy_31 (by decide) (fun _ => ?_) (fun c_31 => absurd c_31 (by decide))
        refine lv_aload_n hx hb dX3_copy_37 rfl (lv_at hl 1 rfl) ?_
        refine lv_iload_n hx hb dX3_copy_38 rfl (lv_at hl 2 rfl) ?_
        refine lv_iload_n hx hb dX3_copy_39 rfl (lv_at hl 0 rfl) ?_
        have hmk : mln z k_2 = zLn z k_2 := mln_1 f2_2
        have hus := mw_us hR
        have hrm := mw_room hR q1_2 (n := zLn z k_10) (by rw [hmk, ← hR.2.2.2.2.2.2.2.2.2.1]; exact h_28)
        have htn := hR.2.2.2.2.2.2.2.2.2.1
        have hoc := hR.2.2.2.2.2.2.2.2.2.2.2.1
        refine sf_cv (sf_runV (b := b0) (As := [.int (nI k_2), .int (nI (zLn z k_10))]) (rest := []) ⟨hx, hb, hml, hown, hts⟩ sf_has (m_change l dC dI b0 b1 b2 b3 b4 d1 d2 d3 d4 us nu bm tn g za ss bk _ k_2 (zLn z k_10) (mln z) hR.2.2.2.2.2.2.2.1 q1_2 hnu (mw_hz hR) (by rw [hmk]; exact f3_2) (by rw [hmk]; exact f4_2) f4_10 hR.2.2.2.2.2.2.2.2.2.2.2.2 hus hrm (by omega) (by rw [hmk]; omega)) k_X3_42 ⟨sf_blind, va_recv hK hP (ci := 3) (q0 := 0) rfl rfl, sf_preU hP hK hD hN⟩ rfl hl.1 (Nat.le_of_ble_eq_true rfl) ⟨(Nat.le_of_ble_eq_true rfl), (Nat.le_of_ble_eq_true rfl)⟩ ⟨rfl, rfl⟩ ⟨Nat.zero_le _, Nat.zero_le _⟩ dX3_copy_40) hD hS hA (fun u_40 H locs h_40 hP hD hS => ?_)
        obtain ⟨g2, ss2⟩ := u_40
        obtain ⟨p1, p2, p3, p4⟩ := h_40
        dsimp only at p1 p2 p3 p4
        have hP : va_P (dC, dI) vwCl (mw_w b0 b1 b2 b3 b4 d1 d2 d3 d4 (us + (zLn z k_10) - mln z k_2) nu bm (tn + sf_P (zLn z k_10) - sf_P (mln z k_2)) g2 (upd za k_2 (nI (zLn z k_10))) ss2 bk) H := hP
        have hD : va_D A (mw_w b0 b1 b2 b3 b4 d1 d2 d3 d4 (us + (zLn z k_10) - mln z k_2) nu bm (tn + sf_P (zLn z k_10) - sf_P (mln z k_2)) g2 (upd za k_2 (nI (zLn z k_10))) ss2 bk) := hD
        have hR2 := mw_R_len (f := fun i => g2 (ss2 k_2 + i)) hR q1_2 f2_2 f4_10 (by rw [← hR.2.2.2.2.2.2.2.2.2.1]; exact h_28) p1 p2 (fun _ _ => rfl) p4
        have hb2 : ∀ i, i < zLn z k_10 → ss2 k_2 + i < 400000 := mw_cp_b hR2 q1_2 f2_2 (va_up_self _ _ _)
        have hb10 : ∀ i, i < zLn z k_10 → ss2 k_10 + i < 400000 := mw_cp_b hR2 q1_10 f2_10 sf_up_same
        refine lv_iconst (v := nI 0) hx hb dX3_copy_43 (by decide) ?_
        refine lv_istore (lv' := [(4, .int (nI 0)), (3, .int (nI (zLn z k_10))), (0, .ref b0), (1, .int (nI k_2)), (2, .int (nI k_10))]) hx hb dX3_copy_44 hl (by decide) rfl (fun ls hl => ?_)
        refine sf_loop (σ := Nat × (Nat → Int32)) (fun u => zLn z k_10 - u.1) (fun u H locs ls => u.1 ≤ zLn z k_10 ∧ (∀ x, u.2 x = if ss2 k_2 ≤ x ∧ x < ss2 k_2 + u.1 then g2 (ss2 k_10 + (x - ss2 k_2)) else g2 x) ∧ sb_Fit u.2 ∧ va_P (dC, dI) vwCl (mw_w b0 b1 b2 b3 b4 d1 d2 d3 d4 (us + (zLn z k_10) - mln z k_2) nu bm (tn + sf_P (zLn z k_10) - sf_P (mln z k_2)) u.2 (upd za k_2 (nI (zLn z k_10))) ss2 bk) H ∧ va_D A (mw_w b0 b1 b2 b3 b4 d1 d2 d3 d4 (us + (zLn z k_10) - mln z k_2) nu bm (tn + sf_P (zLn z k_10) - sf_P (mln z k_2)) u.2 (upd za k_2 (nI (zLn z k_10))) ss2 bk) ∧ va_S A s.heap H locs ∧ lv_has ls 5 [(0, .ref b0), (1, .int (nI k_2)), (2, .int (nI k_10)), (3, .int (nI (zLn z k_10))), (4, .int (nI u.1))]) ?_ (0, g2) _ _ _ ?_
        · intro u H locs ls hI2 ih
          obtain ⟨c0, g3⟩ := u
          obtain ⟨k1, k2, k3, hP, hD, hS, hl⟩ := hI2
          dsimp only at k1 k2 k3 hP hD hl ih
          have hnar := mw_nar (k3 (ss2 k_10 + c0))
          refine lv_iload hx hb dX3_copy_46 (lv_at hl 4 rfl) ?_
          refine lv_iload_n hx hb dX3_copy_48 rfl (lv_at hl 3 rfl) ?_
          refine sf_icmp_ge (tgt := 86) hx hb (by omega) (by omega) dX3_copy_49 (by decide) (fun c_49 => ?_) (fun c_49 => ?_)
          · refine lv_iload_n hx hb dX3_copy_86 rfl (lv_at hl 3 rfl) ?_
            exact W.iret (v := nI (zLn z k_10)) hx hb hr (fun t ht hW => ⟨⟨_, ((us + (zLn z k_10) - mln z k_2), nu, bm, (tn + sf_P (zLn z k_10) - sf_P (mln z k_2)), g3, (upd za k_2 (nI (zLn z k_10))), ss2, bk), rfl, by rw [zs_cpy_4 f1_2 f1_10 (by rw [← hR.2.2.2.2.2.2.2.2.2.1]; exact h_28)]; exact ⟨rfl, mw_R_copy hR q1_2 f2_2 q1_10 f2_10 hR2 p2 p3 k3 (by rw [show c0 = zLn z k_10 by omega] at k2; exact k2)⟩, by rw [ht]; exact hP, hD⟩, hS.F ht⟩) hS.2.2 dX3_copy_87
          · have hbA := hb2 c0 (by omega)
            have hbB := hb10 c0 (by omega)
            refine lv_aload_n hx hb dX3_copy_52 rfl (lv_at hl 0 rfl) ?_
            refine va_get (D := (dC, dI)) (ci := 3) (v := .ref b1) (C := RX3) (T := TX3) (N := 8) hx hb hts sf_inX3 hown hK hP 0 rfl rfl 0 (by decide) (hts _ (sf_mem fl_X3_8 rfl)) (fun _ h9 => h9) rfl dX3_copy_53 ?_
            refine lv_aload_n hx hb dX3_copy_56 rfl (lv_at hl 0 rfl) ?_
            refine va_get (D := (dC, dI)) (ci := 3) (v := .ref b2) (C := RX3) (T := TX3) (N := 8) hx hb hts sf_inX3 hown hK hP 0 rfl rfl 2 (by decide) (hts _ (sf_mem fl_X3_14 rfl)) (fun _ h9 => h9) rfl dX3_copy_57 ?_
            refine lv_iload_n hx hb dX3_copy_60 rfl (lv_at hl 1 rfl) ?_
            refine sf_iald hx hb hK hP 2 1 rfl rfl (by omega) (by decide) dX3_copy_61 ?_
            try dsimp only
            refine lv_iload hx hb dX3_copy_62 (lv_at hl 4 rfl) ?_
            refine sf_iadd hx hb dX3_copy_64 ?_
            refine lv_aload_n hx hb dX3_copy_65 rfl (lv_at hl 0 rfl) ?_
            refine va_get (D := (dC, dI)) (ci := 3) (v := .ref b1) (C := RX3) (T := TX3) (N := 8) hx hb hts sf_inX3 hown hK hP 0 rfl rfl 0 (by decide) (hts _ (sf_mem fl_X3_8 rfl)) (fun _ h9 => h9) rfl dX3_copy_66 ?_
            refine lv_aload_n hx hb dX3_copy_69 rfl (lv_at hl 0 rfl) ?_
            refine va_get (D := (dC, dI)) (ci := 3) (v := .ref b2) (C := RX3) (T := TX3) (N := 8) hx hb hts sf_inX3 hown hK hP 0 rfl rfl 2 (by decide) (hts _ (sf_mem fl_X3_14 rfl)) (fun _ h9 => h9) rfl dX3_copy_70 ?_
            refine lv_iload_n hx hb dX3_copy_73 rfl (lv_at hl 2 rfl) ?_
            refine sf_iald hx hb hK hP 2 1 rfl rfl (by omega) (by decide) dX3_copy_74 ?_
            try dsimp only
            refine lv_iload hx hb dX3_copy_75 (lv_at hl 4 rfl) ?_
            refine sf_iadd hx hb dX3_copy_77 ?_
            refine sf_bald hx hb hK hP 1 0 rfl rfl (by omega) (by decide) dX3_copy_78 ?_
            refine sf_bast hx hb hK hP hD hS 1 0 rfl rfl hnar (by omega) (by decide) dX3_copy_79 (fun H locs hP hD hS => ?_)
            have hP : va_P (dC, dI) vwCl (mw_w b0 b1 b2 b3 b4 d1 d2 d3 d4 (us + (zLn z k_10) - mln z k_2) nu bm (tn + sf_P (zLn z k_10) - sf_P (mln z k_2)) (upd g3 ((ss2 k_2) + c0) (g3 ((ss2 k_10) + c0))) (upd za k_2 (nI (zLn z k_10))) ss2 bk) H := hP
            have hD : va_D A (mw_w b0 b1 b2 b3 b4 d1 d2 d3 d4 (us + (zLn z k_10) - mln z k_2) nu bm (tn + sf_P (zLn z k_10) - sf_P (mln z k_2)) (upd g3 ((ss2 k_2) + c0) (g3 ((ss2 k_10) + c0))) (upd za k_2 (nI (zLn z k_10))) ss2 bk) := hD
            refine lv_iinc (v := nI (c0 + 1)) (lv' := [(4, .int (nI (c0 + 1))), (0, .ref b0), (1, .int (nI k_2)), (2, .int (nI k_10)), (3, .int (nI (zLn z k_10)))]) hx hb dX3_copy_80 hl (k := 4) rfl (nI_1 c0) (by decide) rfl (fun ls hl => ?_)
            refine lv_goto (tgt := 46) hx hb dX3_copy_83 (by decide) ?_
            exact ih (c0 + 1, upd g3 (ss2 k_2 + c0) (g3 (ss2 k_10 + c0))) _ _ _ (by dsimp only; omega) ⟨by dsimp only; omega, mw_cp_step k2 (mw_cp_r hR2 q1_2 f2_2 q1_10 f2_10 (va_up_self _ _ _) sf_up_same k2 (by omega)), sb_fitU k3 (k3 _), hP, hD, hS, lv_sub hl [1, 2, 3, 4, 0] rfl⟩
        · exact ⟨Nat.zero_le _, fun p => by rw [if_neg (by omega)], p4, hP, hD, hS, lv_sub hl [2, 3, 4, 1, 0] rfl⟩
      · refine sf_if_ne (tgt := 37) hx hb (by decide) dX3_copy_31 (by decide) (fun c_31 => absurd c_31 (by decide)) (fun _ => ?_)
        refine lv_bipush (v := -2) hx hb dX3_copy_34 (by decide) ?_
        exact W.iret (v := -2) hx hb hr (fun t ht hW => ⟨⟨_, (us, nu, bm, tn, g, za, ss, bk), rfl, by rw [zs_cpy_3 f1_2 f1_10 (by rw [← hR.2.2.2.2.2.2.2.2.2.1]; exact h_28)]; exact ⟨rfl, hR⟩, by rw [ht]; exact hP, hD⟩, hS.F ht⟩) hS.2.2 dX3_copy_36
    · have f1_10 := mw_zn hR h_10
      refine sf_if_ne (tgt := 18) hx hb (by decide) dX3_copy_13 (by decide) (fun c_13 => absurd c_13 (by decide)) (fun _ => ?_)
      refine lv_iconst (v := -1) hx hb dX3_copy_16 (by decide) ?_
      exact W.iret (v := -1) hx hb hr (fun t ht hW => ⟨⟨_, (us, nu, bm, tn, g, za, ss, bk), rfl, by rw [zs_cpy_2 f1_10]; exact ⟨rfl, hR⟩, by rw [ht]; exact hP, hD⟩, hS.F ht⟩) hS.2.2 dX3_copy_17
  · have f1_2 := mw_zn hR h_2
    refine sf_if_eq (tgt := 16) hx hb (by decide) dX3_copy_5 (by decide) (fun _ => ?_) (fun c_5 => absurd c_5 (by decide))
    refine lv_iconst (v := -1) hx hb dX3_copy_16 (by decide) ?_
    exact W.iret (v := -1) hx hb hr (fun t ht hW => ⟨⟨_, (us, nu, bm, tn, g, za, ss, bk), rfl, by rw [zs_cpy_1 f1_2]; exact ⟨rfl, hR⟩, by rw [ht]; exact hP, hD⟩, hS.F ht⟩) hS.2.2 dX3_copy_17
set_option maxHeartbeats 4000000 in
set_option maxRecDepth 100000 in
/-- give(row) -/
theorem m_give (l : Launch) (dC : Nat → ClassId) (dI : Nat → Nat → Nat) (b0 b1 b2 b3 b4 : Nat) (d1 d2 d3 d4 : ClassId) (us nu bm tn : Nat) (g za : Nat → Int32) (ss bk : Nat → Nat) (sz : Nat) (z : sf_Z) (hR : mw_R us nu bm tn g za ss bk z) (row : Int32) (hbal : zMd z = zCt z + (zFr z).length) (hct : ∀ k, zrow z row = some k → 1 ≤ zCt z) : Met l yX3_give wsX3_give ({ frames := 2, cells := 0, slots := 0, locals := 60 } : Room) (sf_Pre (dC, dI) vwCl [(d1, .byte), (d2, .int), (d3, .int), (d4, .int)] [.ref b0, .int row] (mw_w b0 b1 b2 b3 b4 d1 d2 d3 d4 us nu bm tn g za ss bk) sz) (va_Qi (fun (r : Int32) (u : mw_S) => r = (zs_give z row).1 ∧ mw_Ru u (zs_give z row).2) (sf_E (dC, dI) vwCl (va_A (mw_w b0 b1 b2 b3 b4 d1 d2 d3 d4 us nu bm tn g za ss bk) sz) (fun (u : mw_S) => mw_w b0 b1 b2 b3 b4 d1 d2 d3 d4 u.1 u.2.1 u.2.2.1 u.2.2.2.1 u.2.2.2.2.1 u.2.2.2.2.2.1 u.2.2.2.2.2.2.1 u.2.2.2.2.2.2.2)) (va_A (mw_w b0 b1 b2 b3 b4 d1 d2 d3 d4 us nu bm tn g za ss bk) sz)) 0 0 (va_A (mw_w b0 b1 b2 b3 b4 d1 d2 d3 d4 us nu bm tn g za ss bk) sz) := by
  refine Met.ofW (cc := cX3_give) (maxL := 2) (ret := (some .boolean)) (by decide) rfl ?_
  intro p e s m args below meth c s₁ B hml hv
  obtain ⟨rfl, hsz, hP, hK, hD0, hN⟩ := hv
  have hx := B.exec
  have hb := B.bytes
  have hr := B.returns
  have hts := atoms_spec (ws := wsX3_give) B.pre
  have hown : s.vm.findClass RX3 = some m.cls := findClass_of_methodNamed B.named
  have hlocks := B.notSynchronized
  subst hsz
  have hD := hD0.self (sz := s.heap.size)
  generalize hAe : va_A (mw_w b0 b1 b2 b3 b4 d1 d2 d3 d4 us nu bm tn g za ss bk) s.heap.size = A at hD ⊢
  have hA : ∀ q : Nat, s.heap.size ≤ q → A q := fun q h => by rw [← hAe]; exact Or.inr h
  have hS : va_S A s.heap s.heap [] := va_S.rf
  have hl := lv_entry ([.ref b0, .int row]) (n := 2) (Nat.le_of_ble_eq_true rfl)
  rw [lg_entry_eq]
  generalize (lg_sl ([.ref b0, .int row]) ++ List.replicate (2 - (lg_sl ([.ref b0, .int row])).length) Slot.unset).toArray = ls at hl ⊢
  have hl : lv_has ls 2 [(0, .ref b0), (1, .int row)] := hl
  refine lv_aload_n hx hb dX3_give_0 rfl (lv_at hl 0 rfl) ?_
  refine lv_iload_n hx hb dX3_give_1 rfl (lv_at hl 1 rfl) ?_
  refine vp_callSi (va_Run.run (sf_runV (b := b0) (As := [.int row]) (rest := []) ⟨hx, hb, hml, hown, hts⟩ sf_has (m_isRow l dC dI b0 b1 b2 b3 b4 d1 d2 d3 d4 us nu bm tn g za ss bk _ _ hR.2.1) k_X3_52 ⟨sf_blind, va_recv hK hP (ci := 3) (q0 := 0) rfl rfl, sf_preU hP hK hD hN⟩ rfl hl.1 (Nat.le_of_ble_eq_true rfl) ⟨(Nat.le_of_ble_eq_true rfl), (Nat.le_of_ble_eq_true rfl)⟩ ⟨rfl, rfl⟩ ⟨Nat.zero_le _, Nat.zero_le _⟩ dX3_give_2)) (fun r_2 h_2 => ?_)
  rcases h_2 with ⟨rfl, h_2⟩ | ⟨rfl, h_2⟩
  · obtain ⟨k_2, q1_2, q2_2, q3_2⟩ := h_2
    subst q2_2
    have hl : lv_has ls 2 [(0, .ref b0), (1, .int (nI k_2))] := hl
    obtain ⟨f1_2, f2_2, f3_2, f4_2, f5_2, f6_2, f7_2⟩ := mw_zs hR q1_2 q3_2
    have hnu := hR.2.1
    refine sf_if_ne (tgt := 10) hx hb (by decide) dX3_give_5 (by decide) (fun _ => ?_) (fun c_5 => absurd c_5 (by decide))
    refine lv_aload_n hx hb dX3_give_10 rfl (lv_at hl 0 rfl) ?_
    refine lv_iload_n hx hb dX3_give_11 rfl (lv_at hl 1 rfl) ?_
    refine lv_iconst (v := nI 0) hx hb dX3_give_12 (by decide) ?_
    have hmk : mln z k_2 = zLn z k_2 := mln_1 f2_2
    have hus := mw_us hR
    have hrm := mw_room hR q1_2 (n := 0) (by rw [hmk, ← hR.2.2.2.2.2.2.2.2.2.1]; exact Or.inl (sf_P_mono (Nat.zero_le _)))
    have htn := hR.2.2.2.2.2.2.2.2.2.1
    have hoc := hR.2.2.2.2.2.2.2.2.2.2.2.1
    refine sf_cv (sf_runV (b := b0) (As := [.int (nI k_2), .int (nI 0)]) (rest := []) ⟨hx, hb, hml, hown, hts⟩ sf_has (m_change l dC dI b0 b1 b2 b3 b4 d1 d2 d3 d4 us nu bm tn g za ss bk _ k_2 0 (mln z) hR.2.2.2.2.2.2.2.1 q1_2 hnu (mw_hz hR) (by rw [hmk]; exact f3_2) (by rw [hmk]; exact f4_2) (by omega) hR.2.2.2.2.2.2.2.2.2.2.2.2 hus hrm (by omega) (by rw [hmk]; omega)) k_X3_42 ⟨sf_blind, va_recv hK hP (ci := 3) (q0 := 0) rfl rfl, sf_preU hP hK hD hN⟩ rfl hl.1 (Nat.le_of_ble_eq_true rfl) ⟨(Nat.le_of_ble_eq_true rfl), (Nat.le_of_ble_eq_true rfl)⟩ ⟨rfl, rfl⟩ ⟨Nat.zero_le _, Nat.zero_le _⟩ dX3_give_13) hD hS hA (fun u_13 H locs h_13 hP hD hS => ?_)
    obtain ⟨g2, ss2⟩ := u_13
    obtain ⟨p1, p2, p3, p4⟩ := h_13
    dsimp only at p1 p2 p3 p4
    have hP : va_P (dC, dI) vwCl (mw_w b0 b1 b2 b3 b4 d1 d2 d3 d4 (us + 0 - mln z k_2) nu bm (tn + sf_P 0 - sf_P (mln z k_2)) g2 (upd za k_2 (nI 0)) ss2 bk) H := hP
    have hD : va_D A (mw_w b0 b1 b2 b3 b4 d1 d2 d3 d4 (us + 0 - mln z k_2) nu bm (tn + sf_P 0 - sf_P (mln z k_2)) g2 (upd za k_2 (nI 0)) ss2 bk) := hD
    have hbm := mw_bal hR hbal
    have hct1 := hct k_2 f1_2
    refine lv_aload_n hx hb dX3_give_16 rfl (lv_at hl 0 rfl) ?_
    refine va_get (D := (dC, dI)) (ci := 3) (v := .ref b3) (C := RX3) (T := TX3) (N := 8) hx hb hts sf_inX3 hown hK hP 0 rfl rfl 3 (by decide) (hts _ (sf_mem fl_X3_18 rfl)) (fun _ h9 => h9) rfl dX3_give_17 ?_
    refine lv_iload_n hx hb dX3_give_20 rfl (lv_at hl 1 rfl) ?_
    refine lv_iconst (v := -1) hx hb dX3_give_21 (by decide) ?_
    refine sf_iast hx hb hK hP hD hS 3 2 rfl rfl (by omega) (by decide) dX3_give_22 (fun H locs hP hD hS => ?_)
    have hP : va_P (dC, dI) vwCl (mw_w b0 b1 b2 b3 b4 d1 d2 d3 d4 (us + 0 - mln z k_2) nu bm (tn + sf_P 0 - sf_P (mln z k_2)) g2 (upd (upd za k_2 (nI 0)) k_2 (-1)) ss2 bk) H := hP
    have hD : va_D A (mw_w b0 b1 b2 b3 b4 d1 d2 d3 d4 (us + 0 - mln z k_2) nu bm (tn + sf_P 0 - sf_P (mln z k_2)) g2 (upd (upd za k_2 (nI 0)) k_2 (-1)) ss2 bk) := hD
    refine lv_aload_n hx hb dX3_give_23 rfl (lv_at hl 0 rfl) ?_
    refine va_get (D := (dC, dI)) (ci := 3) (v := .ref b4) (C := RX3) (T := TX3) (N := 8) hx hb hts sf_inX3 hown hK hP 0 rfl rfl 5 (by decide) (hts _ (sf_mem fl_X3_21 rfl)) (fun _ h9 => h9) rfl dX3_give_24 ?_
    refine lv_aload_n hx hb dX3_give_27 rfl (lv_at hl 0 rfl) ?_
    refine va_get (D := (dC, dI)) (ci := 3) (v := .int (nI bm)) (C := RX3) (T := TX3) (N := 8) hx hb hts sf_inX3 hown hK hP 0 rfl rfl 6 (by decide) (hts _ (sf_mem fl_X3_28 rfl)) (fun _ h9 => h9) rfl dX3_give_28 ?_
    refine lv_iload_n hx hb dX3_give_31 rfl (lv_at hl 1 rfl) ?_
    refine sf_iast hx hb hK hP hD hS 4 3 rfl rfl (by omega) (by decide) dX3_give_32 (fun H locs hP hD hS => ?_)
    dsimp only [List.set] at hP hD
    rw [mw_updN] at hP hD
    have hP : va_P (dC, dI) vwCl (mw_w b0 b1 b2 b3 b4 d1 d2 d3 d4 (us + 0 - mln z k_2) nu bm (tn + sf_P 0 - sf_P (mln z k_2)) g2 (upd (upd za k_2 (nI 0)) k_2 (-1)) ss2 (va_up bk bm k_2)) H := hP
    have hD : va_D A (mw_w b0 b1 b2 b3 b4 d1 d2 d3 d4 (us + 0 - mln z k_2) nu bm (tn + sf_P 0 - sf_P (mln z k_2)) g2 (upd (upd za k_2 (nI 0)) k_2 (-1)) ss2 (va_up bk bm k_2)) := hD
    refine lv_aload_n hx hb dX3_give_33 rfl (lv_at hl 0 rfl) ?_
    refine lv_dup hx hb dX3_give_34 rfl ?_
    refine va_get (D := (dC, dI)) (ci := 3) (v := .int (nI bm)) (C := RX3) (T := TX3) (N := 8) hx hb hts sf_inX3 hown hK hP 0 rfl rfl 6 (by decide) (hts _ (sf_mem fl_X3_28 rfl)) (fun _ h9 => h9) rfl dX3_give_35 ?_
    refine lv_iconst (v := nI 1) hx hb dX3_give_38 (by decide) ?_
    refine sf_iadd hx hb dX3_give_39 ?_
    refine va_put (D := (dC, dI)) (ci := 3) (v := .int (nI (bm + 1))) (ty := .int) (C := RX3) (T := TX3) (N := 8) hx hb hts sf_inX3 tyX3 tyX3_ok nmX3 hown hK hP hD hS 0 rfl rfl 6 (by decide) (hts _ (sf_mem fl_X3_28 rfl)) (fun _ h9 => h9) rfl (by decide +kernel) rfl rfl (Nat.le_of_ble_eq_true rfl) dX3_give_40 (fun H locs hP hD hS => ?_)
    have hP : va_P (dC, dI) vwCl (mw_w b0 b1 b2 b3 b4 d1 d2 d3 d4 (us + 0 - mln z k_2) nu (bm + 1) (tn + sf_P 0 - sf_P (mln z k_2)) g2 (upd (upd za k_2 (nI 0)) k_2 (-1)) ss2 (va_up bk bm k_2)) H := hP
    have hD : va_D A (mw_w b0 b1 b2 b3 b4 d1 d2 d3 d4 (us + 0 - mln z k_2) nu (bm + 1) (tn + sf_P 0 - sf_P (mln z k_2)) g2 (upd (upd za k_2 (nI 0)) k_2 (-1)) ss2 (va_up bk bm k_2)) := hD
    refine lv_iconst (v := nI 1) hx hb dX3_give_43 (by decide) ?_
    exact W.zret (v := nI 1) hx hb hr (by decide) (fun t ht hW => ⟨⟨_, ((us + 0 - mln z k_2), nu, bm + 1, (tn + sf_P 0 - sf_P (mln z k_2)), g2, (upd (upd za k_2 (nI 0)) k_2 (-1)), ss2, (va_up bk bm k_2)), rfl, by rw [zs_give_2 f1_2]; exact ⟨rfl, mw_R_give hR q1_2 f2_2 p1 p2 p4⟩, by rw [ht]; exact hP, hD⟩, hS.F ht⟩) hS.2.2 dX3_give_44
  · have f1_2 := mw_zn hR h_2
    refine sf_if_ne (tgt := 10) hx hb (by decide) dX3_give_5 (by decide) (fun c_5 => absurd c_5 (by decide)) (fun _ => ?_)
    refine lv_iconst (v := nI 0) hx hb dX3_give_8 (by decide) ?_
    exact W.zret (v := nI 0) hx hb hr (by decide) (fun t ht hW => ⟨⟨_, (us, nu, bm, tn, g, za, ss, bk), rfl, by rw [zs_give_1 f1_2]; exact ⟨rfl, hR⟩, by rw [ht]; exact hP, hD⟩, hS.F ht⟩) hS.2.2 dX3_give_9
theorem mw_us2 {us nu bm tn : Nat} {g za : Nat → Int32} {ss bk : Nat → Nat} {z : sf_Z} (h : mw_R us nu bm tn g za ss bk z) : us ≤ zOc z := by
  have := mw_sum_le (f := mln z) (h := fun k => sf_P (mln z k)) (n := nu) (fun k _ => sf_P_ge _)
  rw [← h.2.2.2.2.2.2.2.2.2.2.1, ← h.2.2.2.2.2.2.2.1.1] at this
  exact this
theorem mw_full {us nu bm tn m : Nat} {g za : Nat → Int32} {ss bk : Nat → Nat} {z : sf_Z} (hm : m ≤ 16384) (h : mw_R us nu bm tn g za ss bk z) (hbal : zMd z = zCt z + (zFr z).length) (h20 : nu - bm = 20000) : zs_take z (nI m) = (-2, z) := by
  have hb := mw_bal h hbal
  by_cases q : 400000 < zOc z + sf_P m
  · exact zs_take_2 hm q
  · have e1 : bm = 0 := by have := h.2.1; omega
    refine zs_take_4 hm (by omega) (by rw [h.2.2.1, e1]; rfl) (by have := h.1; have := h.2.1; omega)
set_option maxHeartbeats 4000000 in
set_option maxRecDepth 100000 in
/-- take(n) -/
theorem m_take (l : Launch) (dC : Nat → ClassId) (dI : Nat → Nat → Nat) (b0 b1 b2 b3 b4 : Nat) (d1 d2 d3 d4 : ClassId) (us nu bm tn : Nat) (g za : Nat → Int32) (ss bk : Nat → Nat) (sz : Nat) (z : sf_Z) (hR : mw_R us nu bm tn g za ss bk z) (n : Int32) (hbal : zMd z = zCt z + (zFr z).length) : Met l yX3_take wsX3_take ({ frames := 2, cells := 0, slots := 0, locals := 60 } : Room) (sf_Pre (dC, dI) vwCl [(d1, .byte), (d2, .int), (d3, .int), (d4, .int)] [.ref b0, .int n] (mw_w b0 b1 b2 b3 b4 d1 d2 d3 d4 us nu bm tn g za ss bk) sz) (va_Qi (fun (r : Int32) (u : mw_S) => r = (zs_take z n).1 ∧ mw_Ru u (zs_take z n).2) (sf_E (dC, dI) vwCl (va_A (mw_w b0 b1 b2 b3 b4 d1 d2 d3 d4 us nu bm tn g za ss bk) sz) (fun (u : mw_S) => mw_w b0 b1 b2 b3 b4 d1 d2 d3 d4 u.1 u.2.1 u.2.2.1 u.2.2.2.1 u.2.2.2.2.1 u.2.2.2.2.2.1 u.2.2.2.2.2.2.1 u.2.2.2.2.2.2.2)) (va_A (mw_w b0 b1 b2 b3 b4 d1 d2 d3 d4 us nu bm tn g za ss bk) sz)) 0 0 (va_A (mw_w b0 b1 b2 b3 b4 d1 d2 d3 d4 us nu bm tn g za ss bk) sz) := by
  refine Met.ofW (cc := cX3_take) (maxL := 3) (ret := (some .int)) (by decide) rfl ?_
  intro p e s m args below meth c s₁ B hml hv
  obtain ⟨rfl, hsz, hP, hK, hD0, hN⟩ := hv
  have hx := B.exec
  have hb := B.bytes
  have hr := B.returns
  have hts := atoms_spec (ws := wsX3_take) B.pre
  have hown : s.vm.findClass RX3 = some m.cls := findClass_of_methodNamed B.named
  have hlocks := B.notSynchronized
  subst hsz
  have hD := hD0.self (sz := s.heap.size)
  generalize hAe : va_A (mw_w b0 b1 b2 b3 b4 d1 d2 d3 d4 us nu bm tn g za ss bk) s.heap.size = A at hD ⊢
  have hA : ∀ q : Nat, s.heap.size ≤ q → A q := fun q h => by rw [← hAe]; exact Or.inr h
  have hS : va_S A s.heap s.heap [] := va_S.rf
  have hl := lv_entry ([.ref b0, .int n]) (n := 3) (Nat.le_of_ble_eq_true rfl)
  rw [lg_entry_eq]
  generalize (lg_sl ([.ref b0, .int n]) ++ List.replicate (3 - (lg_sl ([.ref b0, .int n])).length) Slot.unset).toArray = ls at hl ⊢
  have hl : lv_has ls 3 [(0, .ref b0), (1, .int n)] := hl
  have hbm := mw_bal hR hbal
  have hnu := hR.2.1
  have htn := hR.2.2.2.2.2.2.2.2.2.1
  have hoc := hR.2.2.2.2.2.2.2.2.2.2.2.1
  have hus := mw_us hR
  have huz := mw_us2 hR
  have hfrz := hR.2.2.1
  have hmd := hR.1
  refine lv_iload_n hx hb dX3_take_0 rfl (lv_at hl 1 rfl) ?_
  refine lv_if_lt (tgt := 11) hx hb dX3_take_1 (by decide) (fun c_1 => ?_) (fun c_1 => ?_)
  · have hzn : zi n 16385 = none := zi_none (by omega) (fun k hk q => nI_pos (n := k) (by omega) (by rw [← q]; exact c_1))
    refine lv_iconst (v := -1) hx hb dX3_take_11 (by decide) ?_
    exact W.iret (v := -1) hx hb hr (fun t ht hW => ⟨⟨_, (us, nu, bm, tn, g, za, ss, bk), rfl, by rw [zs_take_1 hzn]; exact ⟨rfl, hR⟩, by rw [ht]; exact hP, hD⟩, hS.F ht⟩) hS.2.2 dX3_take_12
  · obtain ⟨m, hm0, rfl⟩ := nI_of c_1
    have hl : lv_has ls 3 [(0, .ref b0), (1, .int (nI m))] := hl
    refine lv_iload_n hx hb dX3_take_4 rfl (lv_at hl 1 rfl) ?_
    refine lv_sipush (v := nI 16384) hx hb dX3_take_5 (by decide) ?_
    refine sf_icmp_le (tgt := 13) hx hb (by omega) (by omega) dX3_take_8 (by decide) (fun c_8 => ?_) (fun c_8 => ?_)
    · have hPm := sf_P_le c_8
      have hPm2 := sf_P_ge m
      refine lv_aload_n hx hb dX3_take_13 rfl (lv_at hl 0 rfl) ?_
      refine vp_callSi (va_Run.run (sf_runV (b := b0) (As := []) (rest := []) ⟨hx, hb, hml, hown, hts⟩ sf_has (m_many l dC dI b0 b1 b2 b3 b4 d1 d2 d3 d4 us nu bm tn g za ss bk _ hbm.1) k_X3_31 ⟨sf_blind, va_recv hK hP (ci := 3) (q0 := 0) rfl rfl, sf_preU hP hK hD hN⟩ rfl hl.1 (Nat.le_of_ble_eq_true rfl) ⟨(Nat.le_of_ble_eq_true rfl), (Nat.le_of_ble_eq_true rfl)⟩ ⟨rfl, rfl⟩ ⟨Nat.zero_le _, Nat.zero_le _⟩ dX3_take_14)) (fun r_14 h_14 => ?_)
      subst h_14
      refine lv_sipush (v := nI 20000) hx hb dX3_take_17 (by decide) ?_
      refine sf_icmp_eq (tgt := 37) hx hb (by omega) (by omega) dX3_take_20 (by decide) (fun c_20 => ?_) (fun c_20 => ?_)
      · have hful : zs_take z (nI m) = (-2, z) := mw_full c_8 hR hbal (by omega)
        refine lv_bipush (v := -2) hx hb dX3_take_37 (by decide) ?_
        exact W.iret (v := -2) hx hb hr (fun t ht hW => ⟨⟨_, (us, nu, bm, tn, g, za, ss, bk), rfl, by rw [hful]; exact ⟨rfl, hR⟩, by rw [ht]; exact hP, hD⟩, hS.F ht⟩) hS.2.2 dX3_take_39
      · refine lv_aload_n hx hb dX3_take_23 rfl (lv_at hl 0 rfl) ?_
        refine va_get (D := (dC, dI)) (ci := 3) (v := .int (nI tn)) (C := RX3) (T := TX3) (N := 8) hx hb hts sf_inX3 hown hK hP 0 rfl rfl 7 (by decide) (hts _ (sf_mem fl_X3_35 rfl)) (fun _ h9 => h9) rfl dX3_take_24 ?_
        refine lv_iload_n hx hb dX3_take_27 rfl (lv_at hl 1 rfl) ?_
        refine vp_callSi (va_Run.run (sf_runS (As := [.int (nI m)]) (rest := [.int (nI tn)]) ⟨hx, hb, hml, hown, hts⟩ sf_has (m_placesOf l m c_8) k_X3_38 ⟨sf_blindT, sf_preT⟩ rfl hl.1 (Nat.le_of_ble_eq_true rfl) ⟨(Nat.le_of_ble_eq_true rfl), (Nat.le_of_ble_eq_true rfl)⟩ ⟨rfl, rfl⟩ ⟨Nat.zero_le _, Nat.zero_le _⟩ dX3_take_28)) (fun r_28 h_28 => ?_)
        subst h_28
        refine sf_iadd hx hb dX3_take_31 ?_
        refine lv_ldc (v := nI 400000) hx hb hown (hts _ (sf_mem cn_X3_7 rfl)) dX3_take_32 ?_
        refine sf_icmp_le (tgt := 40) hx hb (by omega) (by omega) dX3_take_34 (by decide) (fun c_34 => ?_) (fun c_34 => ?_)
        · refine lv_aload_n hx hb dX3_take_40 rfl (lv_at hl 0 rfl) ?_
          refine va_get (D := (dC, dI)) (ci := 3) (v := .int (nI nu)) (C := RX3) (T := TX3) (N := 8) hx hb hts sf_inX3 hown hK hP 0 rfl rfl 4 (by decide) (hts _ (sf_mem fl_X3_24 rfl)) (fun _ h9 => h9) rfl dX3_take_41 ?_
          refine lv_istore_n (lv' := [(2, .int (nI nu)), (0, .ref b0), (1, .int (nI m))]) hx hb dX3_take_44 rfl hl (by decide) rfl (fun ls hl => ?_)
          refine lv_aload_n hx hb dX3_take_45 rfl (lv_at hl 1 rfl) ?_
          refine va_get (D := (dC, dI)) (ci := 3) (v := .int (nI bm)) (C := RX3) (T := TX3) (N := 8) hx hb hts sf_inX3 hown hK hP 0 rfl rfl 6 (by decide) (hts _ (sf_mem fl_X3_28 rfl)) (fun _ h9 => h9) rfl dX3_take_46 ?_
          refine sf_if_le (tgt := 75) hx hb (by omega) dX3_take_49 (by decide) (fun c_49 => ?_) (fun c_49 => ?_)
          · have hfr2 : zFr z = [] := by rw [hfrz, c_49]; rfl
            have hnn : nu < 20000 := by omega
            have hkt : nu < nu → zTk z nu ≠ 1 := fun h => absurd h (Nat.lt_irrefl _)
            have hall : ∀ j, j < nu + 1 → j ≠ nu → j < nu := fun j h q => by omega
            refine lv_aload_n hx hb dX3_take_75 rfl (lv_at hl 1 rfl) ?_
            refine lv_dup hx hb dX3_take_76 rfl ?_
            refine va_get (D := (dC, dI)) (ci := 3) (v := .int (nI nu)) (C := RX3) (T := TX3) (N := 8) hx hb hts sf_inX3 hown hK hP 0 rfl rfl 4 (by decide) (hts _ (sf_mem fl_X3_24 rfl)) (fun _ h9 => h9) rfl dX3_take_77 ?_
            refine lv_iconst (v := nI 1) hx hb dX3_take_80 (by decide) ?_
            refine sf_iadd hx hb dX3_take_81 ?_
            refine va_put (D := (dC, dI)) (ci := 3) (v := .int (nI (nu + 1))) (ty := .int) (C := RX3) (T := TX3) (N := 8) hx hb hts sf_inX3 tyX3 tyX3_ok nmX3 hown hK hP hD hS 0 rfl rfl 4 (by decide) (hts _ (sf_mem fl_X3_24 rfl)) (fun _ h9 => h9) rfl (by decide +kernel) rfl rfl (Nat.le_of_ble_eq_true rfl) dX3_take_82 (fun H locs hP hD hS => ?_)
            have hP : va_P (dC, dI) vwCl (mw_w b0 b1 b2 b3 b4 d1 d2 d3 d4 us (nu + 1) bm tn g za ss bk) H := hP
            have hD : va_D A (mw_w b0 b1 b2 b3 b4 d1 d2 d3 d4 us (nu + 1) bm tn g za ss bk) := hD
            refine lv_aload_n hx hb dX3_take_85 rfl (lv_at hl 1 rfl) ?_
            refine va_get (D := (dC, dI)) (ci := 3) (v := .ref b3) (C := RX3) (T := TX3) (N := 8) hx hb hts sf_inX3 hown hK hP 0 rfl rfl 3 (by decide) (hts _ (sf_mem fl_X3_18 rfl)) (fun _ h9 => h9) rfl dX3_take_86 ?_
            refine lv_iload_n hx hb dX3_take_89 rfl (lv_at hl 0 rfl) ?_
            refine lv_iconst (v := nI 0) hx hb dX3_take_90 (by decide) ?_
            refine sf_iast hx hb hK hP hD hS 3 2 rfl rfl (by omega) (by decide) dX3_take_91 (fun H locs hP hD hS => ?_)
            have hP : va_P (dC, dI) vwCl (mw_w b0 b1 b2 b3 b4 d1 d2 d3 d4 us (nu + 1) bm tn g (upd za nu (nI 0)) ss bk) H := hP
            have hD : va_D A (mw_w b0 b1 b2 b3 b4 d1 d2 d3 d4 us (nu + 1) bm tn g (upd za nu (nI 0)) ss bk) := hD
            refine lv_aload_n hx hb dX3_take_92 rfl (lv_at hl 1 rfl) ?_
            refine lv_iload_n hx hb dX3_take_93 rfl (lv_at hl 0 rfl) ?_
            refine lv_iload_n hx hb dX3_take_94 rfl (lv_at hl 2 rfl) ?_
            obtain ⟨y1, y2, y3⟩ := mw_L_0 hR (nu2 := (nu + 1)) (k := nu) (by omega) hall (by omega) hkt (by omega)
            obtain ⟨lz, hlz⟩ : ∃ lz, va_up (mln z) nu 0 = lz := ⟨_, rfl⟩
            have hl0 : lz nu = 0 := by rw [← hlz, va_up_self]
            rw [hlz] at y1 y3
            refine sf_cv (sf_runV (b := b0) (As := [.int (nI nu), .int (nI m)]) (rest := []) ⟨hx, hb, hml, hown, hts⟩ sf_has (m_change l dC dI b0 b1 b2 b3 b4 d1 d2 d3 d4 us (nu + 1) bm tn g (upd za nu (nI 0)) ss bk _ nu m lz y1 (by omega) (by omega) y3 (by rw [pk_us, hl0]) (by omega) c_8 hR.2.2.2.2.2.2.2.2.2.2.2.2 hus (by omega) (by omega) (by rw [hl0]; exact Nat.zero_le _)) k_X3_42 ⟨sf_blind, va_recv hK hP (ci := 3) (q0 := 0) rfl rfl, sf_preU hP hK hD hN⟩ rfl hl.1 (Nat.le_of_ble_eq_true rfl) ⟨(Nat.le_of_ble_eq_true rfl), (Nat.le_of_ble_eq_true rfl)⟩ ⟨rfl, rfl⟩ ⟨Nat.zero_le _, Nat.zero_le _⟩ dX3_take_95) hD hS hA (fun u_95 H locs h_95 hP hD hS => ?_)
            obtain ⟨g2, ss2⟩ := u_95
            obtain ⟨p1, p2, p3, p4⟩ := h_95
            dsimp only at p1 p2 p3 p4
            rw [hl0] at hP hD p1 p3
            have hP : va_P (dC, dI) vwCl (mw_w b0 b1 b2 b3 b4 d1 d2 d3 d4 (us + m - 0) (nu + 1) bm (tn + sf_P m - sf_P 0) g2 (upd (upd za nu (nI 0)) nu (nI m)) ss2 bk) H := hP
            have hD : va_D A (mw_w b0 b1 b2 b3 b4 d1 d2 d3 d4 (us + m - 0) (nu + 1) bm (tn + sf_P m - sf_P 0) g2 (upd (upd za nu (nI 0)) nu (nI m)) ss2 bk) := hD
            rw [← hlz] at p1 p2
            refine lv_iload_n hx hb dX3_take_98 rfl (lv_at hl 0 rfl) ?_
            have hfin := mw_R_take (k := nu) (nu2 := nu + 1) (bm2 := bm) (fr2 := []) (n := m) hR (by omega) (by omega) (by omega) hall hkt (by rw [c_49]; rfl) (fun x hx => absurd hx List.not_mem_nil) List.nodup_nil c_8 (by omega) y2 p1 p2 (fun i hi => by rw [p3 i hi, if_neg (by omega)]) p4
            exact W.iret (v := nI nu) hx hb hr (fun t ht hW => ⟨⟨_, ((us + m - 0), nu + 1, bm, (tn + sf_P m - sf_P 0), g2, (upd (upd za nu (nI 0)) nu (nI m)), ss2, bk), rfl, by rw [zs_take_5 c_8 (by omega) hfr2 (by omega), ← hmd]; exact ⟨rfl, hfin⟩, by rw [ht]; exact hP, hD⟩, hS.F ht⟩) hS.2.2 dX3_take_99
          · have hfr2 : zFr z = bk (bm - 1) :: mw_fr bk (bm - 1) := by rw [hfrz, show bm = (bm - 1) + 1 by omega]; rfl
            obtain ⟨k, hkk⟩ : ∃ k, bk (bm - 1) = k := ⟨_, rfl⟩
            rw [hkk] at hfr2
            have hk4 := hR.2.2.2.1 k (by rw [hfr2]; simp)
            have hnd := hR.2.2.2.2.1
            rw [hfr2, List.nodup_cons] at hnd
            have hk5 : k < nu := hk4.1
            have hkt : k < nu → zTk z k ≠ 1 := fun _ => by omega
            have hall : ∀ j, j < nu → j ≠ k → j < nu := fun _ h _ => h
            refine lv_aload_n hx hb dX3_take_52 rfl (lv_at hl 1 rfl) ?_
            refine lv_dup hx hb dX3_take_53 rfl ?_
            refine va_get (D := (dC, dI)) (ci := 3) (v := .int (nI bm)) (C := RX3) (T := TX3) (N := 8) hx hb hts sf_inX3 hown hK hP 0 rfl rfl 6 (by decide) (hts _ (sf_mem fl_X3_28 rfl)) (fun _ h9 => h9) rfl dX3_take_54 ?_
            refine lv_iconst (v := nI 1) hx hb dX3_take_57 (by decide) ?_
            refine sf_isub hx hb (by omega) dX3_take_58 ?_
            refine va_put (D := (dC, dI)) (ci := 3) (v := .int (nI (bm - 1))) (ty := .int) (C := RX3) (T := TX3) (N := 8) hx hb hts sf_inX3 tyX3 tyX3_ok nmX3 hown hK hP hD hS 0 rfl rfl 6 (by decide) (hts _ (sf_mem fl_X3_28 rfl)) (fun _ h9 => h9) rfl (by decide +kernel) rfl rfl (Nat.le_of_ble_eq_true rfl) dX3_take_59 (fun H locs hP hD hS => ?_)
            have hP : va_P (dC, dI) vwCl (mw_w b0 b1 b2 b3 b4 d1 d2 d3 d4 us nu (bm - 1) tn g za ss bk) H := hP
            have hD : va_D A (mw_w b0 b1 b2 b3 b4 d1 d2 d3 d4 us nu (bm - 1) tn g za ss bk) := hD
            refine lv_aload_n hx hb dX3_take_62 rfl (lv_at hl 1 rfl) ?_
            refine va_get (D := (dC, dI)) (ci := 3) (v := .ref b4) (C := RX3) (T := TX3) (N := 8) hx hb hts sf_inX3 hown hK hP 0 rfl rfl 5 (by decide) (hts _ (sf_mem fl_X3_21 rfl)) (fun _ h9 => h9) rfl dX3_take_63 ?_
            refine lv_aload_n hx hb dX3_take_66 rfl (lv_at hl 1 rfl) ?_
            refine va_get (D := (dC, dI)) (ci := 3) (v := .int (nI (bm - 1))) (C := RX3) (T := TX3) (N := 8) hx hb hts sf_inX3 hown hK hP 0 rfl rfl 6 (by decide) (hts _ (sf_mem fl_X3_28 rfl)) (fun _ h9 => h9) rfl dX3_take_67 ?_
            refine sf_iald hx hb hK hP 4 3 rfl rfl (by omega) (by decide) dX3_take_70 ?_
            try dsimp only
            rw [hkk]
            refine lv_istore_n (lv' := [(2, .int (nI k)), (0, .ref b0), (1, .int (nI m))]) hx hb dX3_take_71 rfl hl (by decide) rfl (fun ls hl => ?_)
            refine lv_goto (tgt := 85) hx hb dX3_take_72 (by decide) ?_
            refine lv_aload_n hx hb dX3_take_85 rfl (lv_at hl 1 rfl) ?_
            refine va_get (D := (dC, dI)) (ci := 3) (v := .ref b3) (C := RX3) (T := TX3) (N := 8) hx hb hts sf_inX3 hown hK hP 0 rfl rfl 3 (by decide) (hts _ (sf_mem fl_X3_18 rfl)) (fun _ h9 => h9) rfl dX3_take_86 ?_
            refine lv_iload_n hx hb dX3_take_89 rfl (lv_at hl 0 rfl) ?_
            refine lv_iconst (v := nI 0) hx hb dX3_take_90 (by decide) ?_
            refine sf_iast hx hb hK hP hD hS 3 2 rfl rfl (by omega) (by decide) dX3_take_91 (fun H locs hP hD hS => ?_)
            have hP : va_P (dC, dI) vwCl (mw_w b0 b1 b2 b3 b4 d1 d2 d3 d4 us nu (bm - 1) tn g (upd za k (nI 0)) ss bk) H := hP
            have hD : va_D A (mw_w b0 b1 b2 b3 b4 d1 d2 d3 d4 us nu (bm - 1) tn g (upd za k (nI 0)) ss bk) := hD
            refine lv_aload_n hx hb dX3_take_92 rfl (lv_at hl 1 rfl) ?_
            refine lv_iload_n hx hb dX3_take_93 rfl (lv_at hl 0 rfl) ?_
            refine lv_iload_n hx hb dX3_take_94 rfl (lv_at hl 2 rfl) ?_
            obtain ⟨y1, y2, y3⟩ := mw_L_0 hR (nu2 := nu) (k := k) (by omega) hall (by omega) hkt (by omega)
            obtain ⟨lz, hlz⟩ : ∃ lz, va_up (mln z) k 0 = lz := ⟨_, rfl⟩
            have hl0 : lz k = 0 := by rw [← hlz, va_up_self]
            rw [hlz] at y1 y3
            refine sf_cv (sf_runV (b := b0) (As := [.int (nI k), .int (nI m)]) (rest := []) ⟨hx, hb, hml, hown, hts⟩ sf_has (m_change l dC dI b0 b1 b2 b3 b4 d1 d2 d3 d4 us nu (bm - 1) tn g (upd za k (nI 0)) ss bk _ k m lz y1 (by omega) (by omega) y3 (by rw [pk_us, hl0]) (by omega) c_8 hR.2.2.2.2.2.2.2.2.2.2.2.2 hus (by omega) (by omega) (by rw [hl0]; exact Nat.zero_le _)) k_X3_42 ⟨sf_blind, va_recv hK hP (ci := 3) (q0 := 0) rfl rfl, sf_preU hP hK hD hN⟩ rfl hl.1 (Nat.le_of_ble_eq_true rfl) ⟨(Nat.le_of_ble_eq_true rfl), (Nat.le_of_ble_eq_true rfl)⟩ ⟨rfl, rfl⟩ ⟨Nat.zero_le _, Nat.zero_le _⟩ dX3_take_95) hD hS hA (fun u_95 H locs h_95 hP hD hS => ?_)
            obtain ⟨g2, ss2⟩ := u_95
            obtain ⟨p1, p2, p3, p4⟩ := h_95
            dsimp only at p1 p2 p3 p4
            rw [hl0] at hP hD p1 p3
            have hP : va_P (dC, dI) vwCl (mw_w b0 b1 b2 b3 b4 d1 d2 d3 d4 (us + m - 0) nu (bm - 1) (tn + sf_P m - sf_P 0) g2 (upd (upd za k (nI 0)) k (nI m)) ss2 bk) H := hP
            have hD : va_D A (mw_w b0 b1 b2 b3 b4 d1 d2 d3 d4 (us + m - 0) nu (bm - 1) (tn + sf_P m - sf_P 0) g2 (upd (upd za k (nI 0)) k (nI m)) ss2 bk) := hD
            rw [← hlz] at p1 p2
            refine lv_iload_n hx hb dX3_take_98 rfl (lv_at hl 0 rfl) ?_
            have hfin := mw_R_take (k := k) (nu2 := nu) (bm2 := bm - 1) (n := m) hR hk5 hnu (Nat.le_refl _) hall hkt rfl (fun x hx => ⟨(hR.2.2.2.1 x (by rw [hfr2]; exact List.mem_cons_of_mem _ hx)).1, fun e => hnd.1 (e ▸ hx), (hR.2.2.2.1 x (by rw [hfr2]; exact List.mem_cons_of_mem _ hx)).2⟩) hnd.2 c_8 (by omega) y2 p1 p2 (fun i hi => by rw [p3 i hi, if_neg (by omega)]) p4
            exact W.iret (v := nI k) hx hb hr (fun t ht hW => ⟨⟨_, ((us + m - 0), nu, bm - 1, (tn + sf_P m - sf_P 0), g2, (upd (upd za k (nI 0)) k (nI m)), ss2, bk), rfl, by rw [zs_take_3 c_8 (by omega) hfr2, ← hmd]; exact ⟨rfl, hfin⟩, by rw [ht]; exact hP, hD⟩, hS.F ht⟩) hS.2.2 dX3_take_99
        · have hful : zs_take z (nI m) = (-2, z) := zs_take_2 c_8 (by omega)
          refine lv_bipush (v := -2) hx hb dX3_take_37 (by decide) ?_
          exact W.iret (v := -2) hx hb hr (fun t ht hW => ⟨⟨_, (us, nu, bm, tn, g, za, ss, bk), rfl, by rw [hful]; exact ⟨rfl, hR⟩, by rw [ht]; exact hP, hD⟩, hS.F ht⟩) hS.2.2 dX3_take_39
    · have hzn : zi (nI m) 16385 = none := zi_none (by omega) (fun k hk q => by
        have := (nI_eq hm0 (by omega)).mp q
        omega)
      refine lv_iconst (v := -1) hx hb dX3_take_11 (by decide) ?_
      exact W.iret (v := -1) hx hb hr (fun t ht hW => ⟨⟨_, (us, nu, bm, tn, g, za, ss, bk), rfl, by rw [zs_take_1 hzn]; exact ⟨rfl, hR⟩, by rw [ht]; exact hP, hD⟩, hS.F ht⟩) hS.2.2 dX3_take_12
end
section
/-! the reference's constructor; rows for the law -/
set_option maxHeartbeats 4000000 in
set_option maxRecDepth 100000 in
/-- ByteShelfModel() -/
theorem m_init (l : Launch) (dC : Nat → ClassId) (dI : Nat → Nat → Nat) (b0 sz : Nat) : Met l yX3_init wsX3_init ({ frames := 1, cells := 4, slots := 460000, locals := 30 } : Room) (sf_Pre (dC, dI) vwCl [] [.ref b0] [(b0, .inr (3, [.null, .int (nI 0), .null, .null, .int (nI 0), .null, .int (nI 0), .int (nI 0)]))] sz) (va_Qv (fun _ : Nat × Nat × Nat × Nat × ClassId × ClassId × ClassId × ClassId => True) (fun u t => va_P (dC, dI) vwCl (mw_w b0 u.1 u.2.1 u.2.2.1 u.2.2.2.1 u.2.2.2.2.1 u.2.2.2.2.2.1 u.2.2.2.2.2.2.1 u.2.2.2.2.2.2.2 0 0 0 0 (fun _ => 0) (fun _ => 0) (fun _ => 0) (fun _ => 0)) t.heap ∧ va_K (dC, dI) vwCl [(u.2.2.2.2.1, .byte), (u.2.2.2.2.2.1, .int), (u.2.2.2.2.2.2.1, .int), (u.2.2.2.2.2.2.2, .int)] t ∧ va_D (va_A [(b0, .inr (3, [.null, .int (nI 0), .null, .null, .int (nI 0), .null, .int (nI 0), .int (nI 0)]))] sz) (mw_w b0 u.1 u.2.1 u.2.2.1 u.2.2.2.1 u.2.2.2.2.1 u.2.2.2.2.2.1 u.2.2.2.2.2.2.1 u.2.2.2.2.2.2.2 0 0 0 0 (fun _ => 0) (fun _ => 0) (fun _ => 0) (fun _ => 0))) (va_A [(b0, .inr (3, [.null, .int (nI 0), .null, .null, .int (nI 0), .null, .int (nI 0), .int (nI 0)]))] sz)) 4 460000 (va_A [(b0, .inr (3, [.null, .int (nI 0), .null, .null, .int (nI 0), .null, .int (nI 0), .int (nI 0)]))] sz) := by
  refine Met.ofW (cc := cX3_init) (maxL := 1) (ret := none) (by decide) rfl ?_
  intro p e s m args below meth c s₁ B hml hv
  obtain ⟨rfl, hsz, hP, hK, hD0, hN⟩ := hv
  have hx := B.exec
  have hb := B.bytes
  have hr := B.returns
  have hts := atoms_spec (ws := wsX3_init) B.pre
  have hown : s.vm.findClass RX3 = some m.cls := findClass_of_methodNamed B.named
  have hlocks := B.notSynchronized
  subst hsz
  have hD := hD0.self (sz := s.heap.size)
  generalize hAe : va_A ([(b0, .inr (3, [.null, .int (nI 0), .null, .null, .int (nI 0), .null, .int (nI 0), .int (nI 0)]))]) s.heap.size = A at hD ⊢
  have hA : ∀ q : Nat, s.heap.size ≤ q → A q := fun q h => by rw [← hAe]; exact Or.inr h
  have hS : va_S A s.heap s.heap [] := va_S.rf
  have hl := lv_entry ([.ref b0]) (n := 1) (Nat.le_of_ble_eq_true rfl)
  rw [lg_entry_eq]
  generalize (lg_sl ([.ref b0]) ++ List.replicate (1 - (lg_sl ([.ref b0])).length) Slot.unset).toArray = ls at hl ⊢
  have hl : lv_has ls 1 [(0, .ref b0)] := hl
  have hin : meth.name = "<init>" := (name_of_methodNamed B.named B.method).1
  refine lv_aload_n hx hb dX3_init_0 rfl (lv_at hl 0 rfl) ?_
  refine W.objInit hx hb hown (hts _ (sf_mem ml_X3_1 rfl)) (hts _ (sf_mem im_O_init rfl)) (hts _ (sf_mem co_O_init rfl)) rfl (by rw [hml]; exact hl.1) rfl dX3_init_1 (Nat.le_of_ble_eq_true rfl) (Nat.le_of_ble_eq_true rfl) ?_
  refine W.eq (g2 := F0 m 4 ls []) rfl ?_
  refine lv_aload_n hx hb dX3_init_4 rfl (lv_at hl 0 rfl) ?_
  refine lv_ldc (v := nI 400000) hx hb hown (hts _ (sf_mem cn_X3_7 rfl)) dX3_init_5 ?_
  refine va_newa (atype := .byte) (ty := .byte) (N' := 400000) (a0 := (400000, .inl (fun _ => 0))) hx hb (hts _ (sf_mem ac_byte rfl)) rfl hK hP hD hS hA (fun _ => rfl) (nI_pos (by decide)) (nI_clamp (by decide)) (by decide) (Nat.le_of_ble_eq_true rfl) (Nat.le_of_ble_eq_true rfl) dX3_init_7 (fun b1 cb1 H hK hP hD hS => ?_)
  have hP : va_P (dC, dI) vwCl ([(b0, .inr (3, [.null, .int (nI 0), .null, .null, .int (nI 0), .null, .int (nI 0), .int (nI 0)])), (b1, .inl (cb1, 400000, .inl (fun _ => 0)))]) H := hP
  have hD : va_D A ([(b0, .inr (3, [.null, .int (nI 0), .null, .null, .int (nI 0), .null, .int (nI 0), .int (nI 0)])), (b1, .inl (cb1, 400000, .inl (fun _ => 0)))]) := hD
  refine W.widen (k := 1) (n := 400000) (Nat.le_of_ble_eq_true rfl) (Nat.le_of_ble_eq_true rfl) ?_
  refine va_putF (D := (dC, dI)) (ci := 3) (v := .ref b1) (ty := .array .byte) (C := RX3) (T := TX3) (N := 8) hx hb hts sf_inX3 tyX3 tyX3_ok nmX3 hown hK hP hD hS 0 rfl rfl 0 (by decide) (hts _ (sf_mem fl_X3_8 rfl)) (fun _ h9 => h9) rfl hin rfl (by decide +kernel) rfl rfl (Nat.le_of_ble_eq_true rfl) dX3_init_9 (fun H locs hP hD hS => ?_)
  have hP : va_P (dC, dI) vwCl ([(b0, .inr (3, [.ref b1, .int (nI 0), .null, .null, .int (nI 0), .null, .int (nI 0), .int (nI 0)])), (b1, .inl (cb1, 400000, .inl (fun _ => 0)))]) H := hP
  have hD : va_D A ([(b0, .inr (3, [.ref b1, .int (nI 0), .null, .null, .int (nI 0), .null, .int (nI 0), .int (nI 0)])), (b1, .inl (cb1, 400000, .inl (fun _ => 0)))]) := hD
  refine lv_aload_n hx hb dX3_init_12 rfl (lv_at hl 0 rfl) ?_
  refine lv_sipush (v := nI 20000) hx hb dX3_init_13 (by decide) ?_
  refine va_newa (atype := .int) (ty := .int) (N' := 20000) (a0 := (20000, .inl (fun _ => 0))) hx hb (hts _ (sf_mem ac_int rfl)) rfl hK hP hD hS hA (fun _ => rfl) (nI_pos (by decide)) (nI_clamp (by decide)) (by decide) (Nat.le_of_ble_eq_true rfl) (Nat.le_of_ble_eq_true rfl) dX3_init_16 (fun b2 cb2 H hK hP hD hS => ?_)
  have hP : va_P (dC, dI) vwCl ([(b0, .inr (3, [.ref b1, .int (nI 0), .null, .null, .int (nI 0), .null, .int (nI 0), .int (nI 0)])), (b1, .inl (cb1, 400000, .inl (fun _ => 0))), (b2, .inl (cb2, 20000, .inl (fun _ => 0)))]) H := hP
  have hD : va_D A ([(b0, .inr (3, [.ref b1, .int (nI 0), .null, .null, .int (nI 0), .null, .int (nI 0), .int (nI 0)])), (b1, .inl (cb1, 400000, .inl (fun _ => 0))), (b2, .inl (cb2, 20000, .inl (fun _ => 0)))]) := hD
  refine W.widen (k := 2) (n := 420000) (Nat.le_of_ble_eq_true rfl) (Nat.le_of_ble_eq_true rfl) ?_
  refine va_putF (D := (dC, dI)) (ci := 3) (v := .ref b2) (ty := .array .int) (C := RX3) (T := TX3) (N := 8) hx hb hts sf_inX3 tyX3 tyX3_ok nmX3 hown hK hP hD hS 0 rfl rfl 2 (by decide) (hts _ (sf_mem fl_X3_14 rfl)) (fun _ h9 => h9) rfl hin rfl (by decide +kernel) rfl rfl (Nat.le_of_ble_eq_true rfl) dX3_init_18 (fun H locs hP hD hS => ?_)
  have hP : va_P (dC, dI) vwCl ([(b0, .inr (3, [.ref b1, .int (nI 0), .ref b2, .null, .int (nI 0), .null, .int (nI 0), .int (nI 0)])), (b1, .inl (cb1, 400000, .inl (fun _ => 0))), (b2, .inl (cb2, 20000, .inl (fun _ => 0)))]) H := hP
  have hD : va_D A ([(b0, .inr (3, [.ref b1, .int (nI 0), .ref b2, .null, .int (nI 0), .null, .int (nI 0), .int (nI 0)])), (b1, .inl (cb1, 400000, .inl (fun _ => 0))), (b2, .inl (cb2, 20000, .inl (fun _ => 0)))]) := hD
  refine lv_aload_n hx hb dX3_init_21 rfl (lv_at hl 0 rfl) ?_
  refine lv_sipush (v := nI 20000) hx hb dX3_init_22 (by decide) ?_
  refine va_newa (atype := .int) (ty := .int) (N' := 20000) (a0 := (20000, .inl (fun _ => 0))) hx hb (hts _ (sf_mem ac_int rfl)) rfl hK hP hD hS hA (fun _ => rfl) (nI_pos (by decide)) (nI_clamp (by decide)) (by decide) (Nat.le_of_ble_eq_true rfl) (Nat.le_of_ble_eq_true rfl) dX3_init_25 (fun b3 cb3 H hK hP hD hS => ?_)
  have hP : va_P (dC, dI) vwCl ([(b0, .inr (3, [.ref b1, .int (nI 0), .ref b2, .null, .int (nI 0), .null, .int (nI 0), .int (nI 0)])), (b1, .inl (cb1, 400000, .inl (fun _ => 0))), (b2, .inl (cb2, 20000, .inl (fun _ => 0))), (b3, .inl (cb3, 20000, .inl (fun _ => 0)))]) H := hP
  have hD : va_D A ([(b0, .inr (3, [.ref b1, .int (nI 0), .ref b2, .null, .int (nI 0), .null, .int (nI 0), .int (nI 0)])), (b1, .inl (cb1, 400000, .inl (fun _ => 0))), (b2, .inl (cb2, 20000, .inl (fun _ => 0))), (b3, .inl (cb3, 20000, .inl (fun _ => 0)))]) := hD
  refine W.widen (k := 3) (n := 440000) (Nat.le_of_ble_eq_true rfl) (Nat.le_of_ble_eq_true rfl) ?_
  refine va_putF (D := (dC, dI)) (ci := 3) (v := .ref b3) (ty := .array .int) (C := RX3) (T := TX3) (N := 8) hx hb hts sf_inX3 tyX3 tyX3_ok nmX3 hown hK hP hD hS 0 rfl rfl 3 (by decide) (hts _ (sf_mem fl_X3_18 rfl)) (fun _ h9 => h9) rfl hin rfl (by decide +kernel) rfl rfl (Nat.le_of_ble_eq_true rfl) dX3_init_27 (fun H locs hP hD hS => ?_)
  have hP : va_P (dC, dI) vwCl ([(b0, .inr (3, [.ref b1, .int (nI 0), .ref b2, .ref b3, .int (nI 0), .null, .int (nI 0), .int (nI 0)])), (b1, .inl (cb1, 400000, .inl (fun _ => 0))), (b2, .inl (cb2, 20000, .inl (fun _ => 0))), (b3, .inl (cb3, 20000, .inl (fun _ => 0)))]) H := hP
  have hD : va_D A ([(b0, .inr (3, [.ref b1, .int (nI 0), .ref b2, .ref b3, .int (nI 0), .null, .int (nI 0), .int (nI 0)])), (b1, .inl (cb1, 400000, .inl (fun _ => 0))), (b2, .inl (cb2, 20000, .inl (fun _ => 0))), (b3, .inl (cb3, 20000, .inl (fun _ => 0)))]) := hD
  refine lv_aload_n hx hb dX3_init_30 rfl (lv_at hl 0 rfl) ?_
  refine lv_sipush (v := nI 20000) hx hb dX3_init_31 (by decide) ?_
  refine va_newa (atype := .int) (ty := .int) (N' := 20000) (a0 := (20000, .inl (fun _ => 0))) hx hb (hts _ (sf_mem ac_int rfl)) rfl hK hP hD hS hA (fun _ => rfl) (nI_pos (by decide)) (nI_clamp (by decide)) (by decide) (Nat.le_of_ble_eq_true rfl) (Nat.le_of_ble_eq_true rfl) dX3_init_34 (fun b4 cb4 H hK hP hD hS => ?_)
  have hP : va_P (dC, dI) vwCl ([(b0, .inr (3, [.ref b1, .int (nI 0), .ref b2, .ref b3, .int (nI 0), .null, .int (nI 0), .int (nI 0)])), (b1, .inl (cb1, 400000, .inl (fun _ => 0))), (b2, .inl (cb2, 20000, .inl (fun _ => 0))), (b3, .inl (cb3, 20000, .inl (fun _ => 0))), (b4, .inl (cb4, 20000, .inl (fun _ => 0)))]) H := hP
  have hD : va_D A ([(b0, .inr (3, [.ref b1, .int (nI 0), .ref b2, .ref b3, .int (nI 0), .null, .int (nI 0), .int (nI 0)])), (b1, .inl (cb1, 400000, .inl (fun _ => 0))), (b2, .inl (cb2, 20000, .inl (fun _ => 0))), (b3, .inl (cb3, 20000, .inl (fun _ => 0))), (b4, .inl (cb4, 20000, .inl (fun _ => 0)))]) := hD
  refine W.widen (k := 4) (n := 460000) (Nat.le_of_ble_eq_true rfl) (Nat.le_of_ble_eq_true rfl) ?_
  refine va_putF (D := (dC, dI)) (ci := 3) (v := .ref b4) (ty := .array .int) (C := RX3) (T := TX3) (N := 8) hx hb hts sf_inX3 tyX3 tyX3_ok nmX3 hown hK hP hD hS 0 rfl rfl 5 (by decide) (hts _ (sf_mem fl_X3_21 rfl)) (fun _ h9 => h9) rfl hin rfl (by decide +kernel) rfl rfl (Nat.le_of_ble_eq_true rfl) dX3_init_36 (fun H locs hP hD hS => ?_)
  have hP : va_P (dC, dI) vwCl ([(b0, .inr (3, [.ref b1, .int (nI 0), .ref b2, .ref b3, .int (nI 0), .ref b4, .int (nI 0), .int (nI 0)])), (b1, .inl (cb1, 400000, .inl (fun _ => 0))), (b2, .inl (cb2, 20000, .inl (fun _ => 0))), (b3, .inl (cb3, 20000, .inl (fun _ => 0))), (b4, .inl (cb4, 20000, .inl (fun _ => 0)))]) H := hP
  have hD : va_D A ([(b0, .inr (3, [.ref b1, .int (nI 0), .ref b2, .ref b3, .int (nI 0), .ref b4, .int (nI 0), .int (nI 0)])), (b1, .inl (cb1, 400000, .inl (fun _ => 0))), (b2, .inl (cb2, 20000, .inl (fun _ => 0))), (b3, .inl (cb3, 20000, .inl (fun _ => 0))), (b4, .inl (cb4, 20000, .inl (fun _ => 0)))]) := hD
  exact W.vret hx hb hr (fun t ht hW => ⟨⟨(b1, b2, b3, b4, cb1, cb2, cb3, cb4), rfl, trivial, by rw [ht]; exact hP, va_K.moved hW.alike hK, hD⟩, hS.F ht⟩) hS.2.2 dX3_init_39
theorem sf_Pl {D : va_G} {cl : List vw_C} {a b : va_W} {H : Heap} (h : va_P D cl (a ++ b) H) : va_P D cl a H := fun k q hk => h k q (by rw [List.getElem?_append_left (List.getElem?_eq_some_iff.mp hk).1]; exact hk)
theorem sf_Pr {D : va_G} {cl : List vw_C} {a b : va_W} {H : Heap} (h : va_P D cl (a ++ b) H) : va_P D cl b H := fun k q hk => h (a.length + k) q (by rw [List.getElem?_append_right (by omega), Nat.add_sub_cancel_left]; exact hk)
theorem sf_Dl {A : Nat → Prop} {a b : va_W} (h : va_D A (a ++ b)) : va_D A a := by
  have e : ∀ (k : Nat) (q : Nat × va_E), a[k]? = some q → (a ++ b)[k]? = some q := fun k q hk => by rw [List.getElem?_append_left (List.getElem?_eq_some_iff.mp hk).1]; exact hk
  exact ⟨fun i j p q hi hj => h.1 i j p q (e i p hi) (e j q hj), fun k q hk => h.2 k q (e k q hk)⟩
theorem sf_Dr {A : Nat → Prop} {a b : va_W} (h : va_D A (a ++ b)) : va_D A b := by
  have e : ∀ (k : Nat) (q : Nat × va_E), b[k]? = some q → (a ++ b)[a.length + k]? = some q := fun k q hk => by rw [List.getElem?_append_right (by omega), Nat.add_sub_cancel_left]; exact hk
  exact ⟨fun i j p q hi hj hpq => by have := h.1 _ _ p q (e i p hi) (e j q hj) hpq; omega, fun k q hk => h.2 _ q (e k q hk)⟩
theorem sf_Ds {A : Nat → Prop} {a b : va_W} (h : va_D A (a ++ b)) : va_D A (b ++ a) := va_D.swap (a := []) h
/-- behind a call on the cells wc: the other cells wm stay -/
theorem sf_frame {A : Nat → Prop} {D : va_G} {cl : List vw_C} {wc wm w1 : va_W} {H H1 : Heap} (hPm : va_P D cl wm H) (hD : va_D A (wc ++ wm)) (hk : ∀ q : Nat, q < H.size → ¬ va_A wc H.size q → H1[q]? = H[q]?) (hF : ∀ q, va_A wc H.size q → A q) (hD1 : va_D (va_A wc H.size) w1) : va_P D cl wm H1 ∧ va_D A (w1 ++ wm) := by
  have apart : ∀ (k : Nat) (q : Nat × va_E), wm[k]? = some q → q.1 < H.size ∧ ¬ va_A wc H.size q.1 := by
    intro k q hq
    have hl := (hPm k q hq).lt
    refine ⟨hl, fun h => ?_⟩
    rcases h with ⟨k2, e, h⟩ | h
    · have hlt := (List.getElem?_eq_some_iff.mp h).1
      have e1 : (wc ++ wm)[k2]? = some (q.1, e) := by rw [List.getElem?_append_left hlt]; exact h
      have e2 : (wc ++ wm)[wc.length + k]? = some q := by rw [List.getElem?_append_right (by omega), Nat.add_sub_cancel_left]; exact hq
      have := hD.1 _ _ _ _ e1 e2 rfl
      omega
    · omega
  refine ⟨fun k q hq => (hPm k q hq).kept (hk q.1 (apart k q hq).1 (apart k q hq).2), va_D.app (hD1.weaken (fun k q _ h => hF q.1 h)) (sf_Dr hD) (fun i j x y hx hy hxy => (apart j y hy).2 (by rw [← hxy]; exact hD1.2 i x hx))⟩
section LWR
variable {p : Program} {l : Launch} {e : Env} {R : Room} {s : State} {m : MethodId} {args : Array Value} {below : List Frame} {meth : Method} {c : Code} {H : Heap} {locs : List Loc} {cells slots : Nat} {Q : State → Prop}
variable {cc : ByteArray} {pc : Nat} {ls : Array Slot} {rest st0 : List Value} {a : Array Value} {A : Nat → Prop} {H0 : Heap} {mc ms : Nat} {D : va_G} {cl : List vw_C} {wc wm : va_W}
theorem lw_ci {S : Type} {post : Int32 → S → Prop} {wsf : S → va_W} (hr : va_Run p l e R s m args below meth c H locs cells slots mc ms (F0 m pc ls st0) rest (va_Qi post (sf_E D cl (va_A wc H.size) wsf) (va_A wc H.size) a) (va_A wc H.size)) (hPm : va_P D cl wm H) (hD : va_D A (wc ++ wm)) (hS : va_S A H0 H locs) (hA : ∀ q, H0.size ≤ q → A q)
    (kk : ∀ (r : Int32) (u : S) (H1 : Heap) (locs1 : List Loc), post r u → va_P D cl (wsf u) H1 → va_P D cl wm H1 → va_D A (wsf u ++ wm) → va_S A H0 H1 locs1 → W p l e R s m args below meth c H1 locs1 (cells + mc) (slots + ms) Q (F0 m (pc + 3) ls (.int r :: rest))) : W p l e R s m args below meth c H locs cells slots Q (F0 m pc ls st0) := by
  have hF := sf_in (sf_Dl hD) hS hA
  refine va_calli hr hS (fun q _ h => hF q h) hF (fun r u t H1 locs1 ht hvm hw hB hz1 hk1 hS1 => ?_)
  obtain ⟨h1, h2⟩ := sf_frame hPm hD hk1 hF hB.2
  exact kk r u H1 locs1 hw (by rw [← ht]; exact hB.1) h1 h2 hS1
theorem lw_sld (hexec : p.tables.exec = Jvm.exec) (hb : c.code = cc) {b L : Nat} {xs : Nat → Int32} (hX : va_X b L xs s H0) (hbl : b < H0.size) (hbA : ¬ A b) (hS : va_S A H0 H locs) {i : Nat} (hi : i < L) (hL : L < 2 ^ 31) (hdg : decode cc pc = .ok (.iaload, 1))
    (kk : W p l e R s m args below meth c H locs cells slots Q (F0 m (pc + 1) ls (.int (xs i) :: rest))) : W p l e R s m args below meth c H locs cells slots Q (F0 m pc ls (.int (nI i) :: .ref b :: rest)) := by
  refine va_sld hexec hb hX hbl hbA hS (vp_in_nI hi hL) hdg ?_
  rw [nI_clamp (Nat.lt_trans hi hL)]
  exact kk
theorem lw_loop {σ : Type} (μ κ τ : σ → Nat) (I : σ → Heap → List Loc → Array Slot → Prop)
    (step : ∀ (u : σ) (H : Heap) (locs : List Loc) (ls : Array Slot), I u H locs ls → (∀ (u' : σ) (H' : Heap) (locs' : List Loc) (ls' : Array Slot), μ u' < μ u → I u' H' locs' ls' → W p l e R s m args below meth c H' locs' (κ u') (τ u') Q (F0 m pc ls' [])) → W p l e R s m args below meth c H locs (κ u) (τ u) Q (F0 m pc ls []))
    (u : σ) (H : Heap) (locs : List Loc) (ls : Array Slot) (h : I u H locs ls) : W p l e R s m args below meth c H locs (κ u) (τ u) Q (F0 m pc ls []) := by
  have key : ∀ (n : Nat) (u : σ) (H : Heap) (locs : List Loc) (ls : Array Slot), μ u < n → I u H locs ls → W p l e R s m args below meth c H locs (κ u) (τ u) Q (F0 m pc ls []) := by
    intro n
    induction n with
    | zero => intro u H locs ls h; exact absurd h (Nat.not_lt_zero _)
    | succ n ih =>
      intro u H locs ls hn h
      exact step u H locs ls h (fun u' H' locs' ls' hlt h' => ih u' H' locs' ls' (Nat.lt_of_lt_of_le hlt (Nat.le_of_lt_succ hn)) h')
  exact key (μ u + 1) u H locs ls (Nat.lt_succ_self _) h
end LWR
def zbal (z : sf_Z) : Prop := zMd z = zCt z + (zFr z).length
theorem zbal_take {z : sf_Z} (h : zbal z) (n : Int32) : zbal (zs_take z n).2 := by
  unfold zs_take
  split
  · exact h
  · split
    · exact h
    · split
      · rename_i a t e
        have h : zMd z = zCt z + (zFr z).length := h
        rw [e] at h
        show zMd z = zCt z + 1 + t.length
        simp only [List.length_cons] at h
        omega
      · rename_i e
        split
        · exact h
        · have h : zMd z = zCt z + (zFr z).length := h
          rw [e] at h
          show zMd z + 1 = zCt z + 1 + 0
          simp only [List.length_nil] at h
          omega
theorem zbal_give {z : sf_Z} (h : zbal z) (row : Int32) (hc : ∀ k, zrow z row = some k → 1 ≤ zCt z) : zbal (zs_give z row).2 := by
  unfold zs_give
  split
  · exact h
  · rename_i k e
    have h : zMd z = zCt z + (zFr z).length := h
    have := hc k e
    show zMd z = zCt z - 1 + (k :: zFr z).length
    simp only [List.length_cons]
    omega
theorem zbal_resize {z : sf_Z} (h : zbal z) (row n : Int32) : zbal (zs_resize z row n).2 := by
  unfold zs_resize
  split
  · exact h
  · split
    · exact h
    · split <;> exact h
theorem zbal_put {z : sf_Z} (h : zbal z) (row i b : Int32) : zbal (zs_put z row i b).2 := by
  unfold zs_put
  split
  · exact h
  · split <;> exact h
theorem zbal_fill {z : sf_Z} (h : zbal z) (row i n d : Int32) : zbal (zs_fill z row i n d).2 := by
  unfold zs_fill
  split
  · exact h
  · split
    · split <;> exact h
    · exact h
theorem zbal_copy {z : sf_Z} (h : zbal z) (row o : Int32) : zbal (zs_copy z row o).2 := by
  unfold zs_copy
  split
  · split <;> exact h
  · exact h
theorem sf_ct {LP : List Nat} {gb : Option Nat} {md ct : Nat} {tb : Nat → Option Nat} {nm tk : Nat → Nat} {oc en : Nat} {fs la : Option Nat} {g : Nat → Int32} {st ln : Nat → Nat} {bf af : Nat → Option Nat} {cs fr : List Nat} {z : sf_Z} (hI : sf_CI LP gb md ct tb nm tk oc en fs la g st ln bf af cs fr) (hR : sf_CR LP nm tk ln st g cs fr ct oc z) (row : Int32) : ∀ k, zrow z row = some k → 1 ≤ zCt z := by
  intro k hr
  obtain ⟨h1, h2, h3, h4, h5, h6, h7, h8, h9, h10, h11⟩ := hI
  obtain ⟨z1, z2, z3, z4, z5, z6⟩ := hR
  unfold zrow at hr
  split at hr
  · cases hr
  · rename_i j e
    split at hr
    · rename_i t
      cases hr
      have hk := (zi_inv (by omega) e).2
      rw [z1] at hk
      have hL : LP[k]? = some LP[k] := List.getElem?_eq_getElem hk
      rw [z3 k _ hL] at t
      have hc : LP[k] ∈ cs := by
        rcases h8 _ (List.mem_of_getElem? hL) with q | q
        · exact q
        · have := (h7 _ q).1
          omega
      rw [z5, h11]
      exact List.length_pos_of_mem hc
    · cases hr
theorem lw_16 {j : Nat} (h : j < 16) : j = 0 ∨ j = 1 ∨ j = 2 ∨ j = 3 ∨ j = 4 ∨ j = 5 ∨ j = 6 ∨ j = 7 ∨ j = 8 ∨ j = 9 ∨ j = 10 ∨ j = 11 ∨ j = 12 ∨ j = 13 ∨ j = 14 ∨ j = 15 := by omega
end
section
/-! THE CLAIM OUT OF ONE WALK OF THE LAW'S BODY. Your part is whole_start (and what it stands on); all else here is the same for every law, but numbers. -/
def R_law : String := "ByteShelfLaw"
def lw_P (b : Addr) (xs : List Int32) (args : Array Value) (s : State) : Prop := args = #[.ref b] ∧ s.IntsAt b xs ∧ xs.length ≤ 2560 ∧ (Jvm.Cond.and given_1 narrow_1).before args s = true
def lw_Q (_ : Array Value) (s : State) (o : Outcome) (t : State) : Prop := o = .returned (some (.int 1)) ∧ Framed s o t [] 600000 7302250
def lw_Z (below : List Frame) (a : Array Value) (s : State) : State → Prop := fun t => ∃ o, t.status = .running ∧ Ended t below o ∧ lw_Q a s o t
/-- the law's own end, with 1 on the stack, nothing written that was there before, its room as the claim has it -/
theorem lw_ret {p : Program} {l : Launch} {e : Env} {s : State} {m : MethodId} {below : List Frame} {meth : Method} {c : Code} {b : Nat} (hx : p.tables.exec = Jvm.exec) (hb : c.code = code) (hr : meth.sig.returnType = ret) (hlocks : meth.locks = false) {pc : Nat} {H : Heap} {ls : Array Slot} (hdg : decode code pc = .ok (.ireturn, 1)) : W p l e room_1 s m #[Value.ref b] below meth c H [] 600000 7302250 (lw_Z below #[Value.ref b] s) (F0 m pc ls [.int 1]) := by
  intro T hT X
  obtain ⟨fs, hret, hrun, hended, hW, hframe⟩ := X.leave (v := some (.int 1)) (hlocks := hlocks) (fun h => by rw [hr] at h; cases h)
  have hmeth' : T.vm.method? m = some meth := X.method'
  refine ⟨T.setFrames fs, ?_, .returned (some (.int 1)), hrun, hended, rfl, ⟨_, rfl⟩, hW, hframe⟩
  jvm_step X.here [X.here.top, hx, hb, hdg, hmeth', hr, ret, narrow_b1]
  (try refine ⟨rfl, ?_⟩); (try refine ⟨rfl, ?_⟩)
  first | (intro acts; rw [hret _ acts rfl rfl rfl]) | rw [hret _ _ rfl rfl rfl]
  exact Steps.refl _
/-- what holds at the law's entry: the machine, the code, the tables' words (any of lw_tbl by 'hts w (by decide +kernel)'), the script of L ints xs at the cell b, what the Statement gives of the start (any of its parts by flat_of_before) -/
def lw_At (p : Program) (s : State) (m : MethodId) (meth : Method) (c : Code) (b L : Nat) (xs : Nat → Int32) : Prop :=
  p.tables.exec = Jvm.exec ∧ c.code = code ∧ meth.sig.returnType = ret ∧ c.maxLocals = 4 ∧ s.vm.findClass R_law = some m.cls ∧ (∀ w ∈ lw_tbl, w.before #[Value.ref b] s = true) ∧ va_X b L xs s s.heap ∧ b < s.heap.size ∧ meth.locks = false ∧ (Jvm.Cond.and given_1 narrow_1).before #[Value.ref b] s = true
end
section
/-! the law's loop, and the law -/
set_option maxHeartbeats 4000000 in
set_option maxRecDepth 100000 in
/-- the law's loop: shelf and reference stand for one value -/
theorem law_loop {p : Program} {l : Launch} {e : Env} {s : State} {m : MethodId} {below : List Frame} {meth : Method} {c : Code} {dC : Nat → ClassId} {dI : Nat → Nat → Nat} {b L : Nat} {xs : Nat → Int32} {a0 a1 a2 a3 b0 b1 b2 b3 b4 : Nat} {cB cT d1 d2 d3 d4 : ClassId} (hL : L ≤ 2560) (C0 : lw_At p s m meth c b L xs) (hKc : va_K (dC, dI) vwCl [(cB, .byte), (cT, .object "ByteShelf$Row")] s) (hKm : va_K (dC, dI) vwCl [(d1, .byte), (d2, .int), (d3, .int), (d4, .int)] s) (uc : sf_Sx) (um : mw_S) (H : Heap) (locs : List Loc) (ls : Array Slot) (hOK : sf_OKu uc sf_z0) (hRm : mw_Ru um sf_z0) (hPc : va_P (dC, dI) vwCl (sf_w a0 a1 a2 a3 cB cT uc.1 uc.2.1 uc.2.2.1 uc.2.2.2.1 uc.2.2.2.2.1 uc.2.2.2.2.2.1 uc.2.2.2.2.2.2.1 uc.2.2.2.2.2.2.2.1 uc.2.2.2.2.2.2.2.2.1 uc.2.2.2.2.2.2.2.2.2.1 uc.2.2.2.2.2.2.2.2.2.2.1 uc.2.2.2.2.2.2.2.2.2.2.2.1 uc.2.2.2.2.2.2.2.2.2.2.2.2.1 uc.2.2.2.2.2.2.2.2.2.2.2.2.2.1 uc.2.2.2.2.2.2.2.2.2.2.2.2.2.2.1 uc.2.2.2.2.2.2.2.2.2.2.2.2.2.2.2) H) (hPm : va_P (dC, dI) vwCl (mw_w b0 b1 b2 b3 b4 d1 d2 d3 d4 um.1 um.2.1 um.2.2.1 um.2.2.2.1 um.2.2.2.2.1 um.2.2.2.2.2.1 um.2.2.2.2.2.2.1 um.2.2.2.2.2.2.2) H) (hD : va_D (fun q : Nat => s.heap.size ≤ q) ((sf_w a0 a1 a2 a3 cB cT uc.1 uc.2.1 uc.2.2.1 uc.2.2.2.1 uc.2.2.2.2.1 uc.2.2.2.2.2.1 uc.2.2.2.2.2.2.1 uc.2.2.2.2.2.2.2.1 uc.2.2.2.2.2.2.2.2.1 uc.2.2.2.2.2.2.2.2.2.1 uc.2.2.2.2.2.2.2.2.2.2.1 uc.2.2.2.2.2.2.2.2.2.2.2.1 uc.2.2.2.2.2.2.2.2.2.2.2.2.1 uc.2.2.2.2.2.2.2.2.2.2.2.2.2.1 uc.2.2.2.2.2.2.2.2.2.2.2.2.2.2.1 uc.2.2.2.2.2.2.2.2.2.2.2.2.2.2.2) ++ (mw_w b0 b1 b2 b3 b4 d1 d2 d3 d4 um.1 um.2.1 um.2.2.1 um.2.2.2.1 um.2.2.2.2.1 um.2.2.2.2.2.1 um.2.2.2.2.2.2.1 um.2.2.2.2.2.2.2))) (hS : va_S (fun q : Nat => s.heap.size ≤ q) s.heap H locs) (hl : lv_has ls 4 [(0, .ref b), (1, .ref a0), (2, .ref b0), (3, .int (nI 0))]) : W p l e room_1 s m #[Value.ref b] below meth c H locs 10 1000000 (lw_Z below #[Value.ref b] s) (F0 m 18 ls []) := by
  obtain ⟨hx, hb, hr, hml, hown0, hts, hX, hbl, hlocks, hgv⟩ := C0
  have hown : s.vm.findClass RL = some m.cls := hown0
  have hA : ∀ q : Nat, s.heap.size ≤ q → (fun q : Nat => s.heap.size ≤ q) q := fun _ h => h
  have hbA : ¬ (fun q : Nat => s.heap.size ≤ q) b := Nat.not_le.mpr hbl
  have hN : sf_N s := va_Nw.of rfl (hts _ mn_X0_30)
  refine lw_loop (σ := Nat × sf_Sx × mw_S × sf_Z) (fun u => 2560 - u.1) (fun u => 10 + u.1) (fun u => 1000000 + 6 * u.1) (fun u H locs ls => u.1 ≤ L ∧ sf_OKu u.2.1 u.2.2.2 ∧ mw_Ru u.2.2.1 u.2.2.2 ∧ zbal u.2.2.2 ∧ va_P (dC, dI) vwCl (sf_w a0 a1 a2 a3 cB cT u.2.1.1 u.2.1.2.1 u.2.1.2.2.1 u.2.1.2.2.2.1 u.2.1.2.2.2.2.1 u.2.1.2.2.2.2.2.1 u.2.1.2.2.2.2.2.2.1 u.2.1.2.2.2.2.2.2.2.1 u.2.1.2.2.2.2.2.2.2.2.1 u.2.1.2.2.2.2.2.2.2.2.2.1 u.2.1.2.2.2.2.2.2.2.2.2.2.1 u.2.1.2.2.2.2.2.2.2.2.2.2.2.1 u.2.1.2.2.2.2.2.2.2.2.2.2.2.2.1 u.2.1.2.2.2.2.2.2.2.2.2.2.2.2.2.1 u.2.1.2.2.2.2.2.2.2.2.2.2.2.2.2.2.1 u.2.1.2.2.2.2.2.2.2.2.2.2.2.2.2.2.2) H ∧ va_P (dC, dI) vwCl (mw_w b0 b1 b2 b3 b4 d1 d2 d3 d4 u.2.2.1.1 u.2.2.1.2.1 u.2.2.1.2.2.1 u.2.2.1.2.2.2.1 u.2.2.1.2.2.2.2.1 u.2.2.1.2.2.2.2.2.1 u.2.2.1.2.2.2.2.2.2.1 u.2.2.1.2.2.2.2.2.2.2) H ∧ va_D (fun q : Nat => s.heap.size ≤ q) ((sf_w a0 a1 a2 a3 cB cT u.2.1.1 u.2.1.2.1 u.2.1.2.2.1 u.2.1.2.2.2.1 u.2.1.2.2.2.2.1 u.2.1.2.2.2.2.2.1 u.2.1.2.2.2.2.2.2.1 u.2.1.2.2.2.2.2.2.2.1 u.2.1.2.2.2.2.2.2.2.2.1 u.2.1.2.2.2.2.2.2.2.2.2.1 u.2.1.2.2.2.2.2.2.2.2.2.2.1 u.2.1.2.2.2.2.2.2.2.2.2.2.2.1 u.2.1.2.2.2.2.2.2.2.2.2.2.2.2.1 u.2.1.2.2.2.2.2.2.2.2.2.2.2.2.2.1 u.2.1.2.2.2.2.2.2.2.2.2.2.2.2.2.2.1 u.2.1.2.2.2.2.2.2.2.2.2.2.2.2.2.2.2) ++ (mw_w b0 b1 b2 b3 b4 d1 d2 d3 d4 u.2.2.1.1 u.2.2.1.2.1 u.2.2.1.2.2.1 u.2.2.1.2.2.2.1 u.2.2.1.2.2.2.2.1 u.2.2.1.2.2.2.2.2.1 u.2.2.1.2.2.2.2.2.2.1 u.2.2.1.2.2.2.2.2.2.2)) ∧ va_S (fun q : Nat => s.heap.size ≤ q) s.heap H locs ∧ lv_has ls 4 [(0, .ref b), (1, .ref a0), (2, .ref b0), (3, .int (nI u.1))]) ?_ (0, uc, um, sf_z0) H locs ls ⟨Nat.zero_le _, hOK, hRm, rfl, hPc, hPm, hD, hS, hl⟩
  clear hl hS hD hPm hPc hRm hOK
  clear ls locs H uc um
  intro u H locs ls hI2 ih
  obtain ⟨i, uc, um, z⟩ := u
  obtain ⟨LP, gb, md, ct, tb, nm, tk, oc, en, fs, la, g, st, ln, bf, af⟩ := uc
  obtain ⟨us, nu, bm, tn, gm, za, ss, bk⟩ := um
  obtain ⟨k1, hOK, hRm, hbal, hPc, hPm, hD, hS, hl⟩ := hI2
  dsimp only at k1 hbal hPc hPm hD hl ih ⊢
  obtain ⟨cs, fr, hI, hRc⟩ := hOK
  have hRm : mw_R us nu bm tn gm za ss bk z := hRm
  have hI : sf_CI LP gb md ct tb nm tk oc en fs la g st ln bf af cs fr := hI
  have hRc : sf_CR LP nm tk ln st g cs fr ct oc z := hRc
  have hct := fun row => sf_ct hI hRc row
  obtain ⟨j, hj, ej⟩ := pk_andE (xs i) (m := nI 15) 4 (by decide)
  refine lv_iload_n hx hb dL_law_18 rfl (lv_at hl 3 rfl) ?_
  refine lv_aload_n hx hb dL_law_19 rfl (lv_at hl 0 rfl) ?_
  refine va_slen hx hb hX hbl hbA hS dL_law_20 ?_
  refine lv_iconst (v := nI 5) hx hb dL_law_21 (by decide) ?_
  refine lv_isub hx hb dL_law_22 ?_
  refine lv_icmp_gt (tgt := 448) hx hb dL_law_23 (by decide) (fun c_23 => ?_) (fun c_23 => ?_)
  · refine lv_iconst (v := 1) hx hb dL_law_448 (by decide) ?_
    refine va_forget (fun q hq => hS.2.2 q hq) ?_
    refine W.widen (k := 600000) (n := 7302250) (by omega) (by omega) ?_
    exact lw_ret hx hb hr hlocks dL_law_449
  · have hi5 : i + 5 ≤ L := sf_hb (by omega) (by decide) (by omega) c_23
    refine lv_aload_n hx hb dL_law_26 rfl (lv_at hl 0 rfl) ?_
    refine lv_iload_n hx hb dL_law_27 rfl (lv_at hl 3 rfl) ?_
    refine lw_sld hx hb hX hbl hbA hS (by omega) (by omega) dL_law_28 ?_
    refine lv_bipush (v := nI 15) hx hb dL_law_29 (by decide) ?_
    refine lv_iand hx hb dL_law_31 ?_
    rw [ej]
    rcases lw_16 hj with rfl | rfl | rfl | rfl | rfl | rfl | rfl | rfl | rfl | rfl | rfl | rfl | rfl | rfl | rfl | rfl
    · refine lv_tableIn (off := 64) (tgt := 96) hx hb dL_law_32 (by decide) (by decide) rfl (by decide) ?_
      refine lv_aload_n hx hb dL_law_96 rfl (lv_at hl 1 rfl) ?_
      refine lv_aload_n hx hb dL_law_97 rfl (lv_at hl 0 rfl) ?_
      refine lv_iload_n hx hb dL_law_98 rfl (lv_at hl 3 rfl) ?_
      refine lv_iconst (v := nI 1) hx hb dL_law_99 (by decide) ?_
      refine sf_iadd hx hb dL_law_100 ?_
      refine lw_sld hx hb hX hbl hbA hS (by omega) (by omega) dL_law_101 ?_
      refine lw_ci (sf_runV (b := a0) (As := [.int (xs (i + 1))]) (rest := []) ⟨hx, hb, hml, hown, hts⟩ sf_hasL (c_take l dC dI a0 a1 a2 a3 cB cT LP gb md ct tb nm tk oc en fs la g st ln bf af _ z cs fr hI hRc (xs (i + 1))) k_L_13 ⟨sf_blind, va_recv hKc hPc (ci := 2) (q0 := 0) rfl rfl, sf_preU hPc hKc (sf_Dl hD) hN⟩ rfl hl.1 (Nat.le_of_ble_eq_true rfl) ⟨(Nat.le_of_ble_eq_true rfl), (Nat.le_of_ble_eq_true rfl)⟩ ⟨rfl, rfl⟩ ⟨(by show 10 + i + 1 ≤ 600000; omega), (by show 1000000 + 6 * i + 6 ≤ 7302250; omega)⟩ dL_law_102) hPm hD hS hA (fun r1 u1 H locs h1 hPc hPm hD hS => ?_)
      obtain ⟨e1, hOK1⟩ := h1
      refine lv_aload_n hx hb dL_law_105 rfl (lv_at hl 2 rfl) ?_
      refine lv_aload_n hx hb dL_law_106 rfl (lv_at hl 0 rfl) ?_
      refine lv_iload_n hx hb dL_law_107 rfl (lv_at hl 3 rfl) ?_
      refine lv_iconst (v := nI 1) hx hb dL_law_108 (by decide) ?_
      refine sf_iadd hx hb dL_law_109 ?_
      refine lw_sld hx hb hX hbl hbA hS (by omega) (by omega) dL_law_110 ?_
      refine lw_ci (sf_runV (b := b0) (As := [.int (xs (i + 1))]) (rest := [.int r1]) ⟨hx, hb, hml, hown, hts⟩ sf_hasL (m_take l dC dI b0 b1 b2 b3 b4 d1 d2 d3 d4 us nu bm tn gm za ss bk _ z hRm (xs (i + 1)) hbal) k_L_17 ⟨sf_blind, va_recv hKm hPm (ci := 3) (q0 := 0) rfl rfl, sf_preU hPm hKm (sf_Dr hD) hN⟩ rfl hl.1 (Nat.le_of_ble_eq_true rfl) ⟨(Nat.le_of_ble_eq_true rfl), (Nat.le_of_ble_eq_true rfl)⟩ ⟨rfl, rfl⟩ ⟨(by show 10 + i + 1 + 0 ≤ 600000; omega), (by show 1000000 + 6 * i + 6 + 0 ≤ 7302250; omega)⟩ dL_law_111) hPc (sf_Ds hD) hS hA (fun r2 u2 H locs h2 hPm hPc hD hS => ?_)
      obtain ⟨e2, hRm2⟩ := h2
      refine lv_icmp_eq (tgt := 442) hx hb dL_law_114 (by decide) (fun _ => ?_) (fun c9 => absurd (by rw [e1, e2]) c9)
      refine W.widen (k := 10 + (i + 5)) (n := 1000000 + 6 * (i + 5)) (by omega) (by omega) ?_
      refine lv_iinc (v := nI (i + 5)) (lv' := [(3, .int (nI (i + 5))), (0, .ref b), (1, .ref a0), (2, .ref b0)]) hx hb dL_law_442 hl (k := 3) rfl (nI_add i 5) (by decide) rfl (fun ls hl => ?_)
      refine lv_goto (tgt := 18) hx hb dL_law_445 (by decide) ?_
      exact ih (i + 5, u1, u2, (zs_take z (xs (i + 1))).2) _ _ _ (by dsimp only; omega) ⟨hi5, hOK1, hRm2, zbal_take hbal (xs (i + 1)), hPc, hPm, sf_Ds hD, hS, lv_sub hl [1, 2, 3, 0] rfl⟩
    · refine lv_tableIn (off := 87) (tgt := 119) hx hb dL_law_32 (by decide) (by decide) rfl (by decide) ?_
      refine lv_aload_n hx hb dL_law_119 rfl (lv_at hl 1 rfl) ?_
      refine lv_aload_n hx hb dL_law_120 rfl (lv_at hl 0 rfl) ?_
      refine lv_iload_n hx hb dL_law_121 rfl (lv_at hl 3 rfl) ?_
      refine lv_iconst (v := nI 1) hx hb dL_law_122 (by decide) ?_
      refine sf_iadd hx hb dL_law_123 ?_
      refine lw_sld hx hb hX hbl hbA hS (by omega) (by omega) dL_law_124 ?_
      refine lw_ci (sf_runV (b := a0) (As := [.int (xs (i + 1))]) (rest := []) ⟨hx, hb, hml, hown, hts⟩ sf_hasL (c_give l dC dI a0 a1 a2 a3 cB cT LP gb md ct tb nm tk oc en fs la g st ln bf af _ z cs fr hI hRc (xs (i + 1))) k_L_18 ⟨sf_blind, va_recv hKc hPc (ci := 2) (q0 := 0) rfl rfl, sf_preU hPc hKc (sf_Dl hD) hN⟩ rfl hl.1 (Nat.le_of_ble_eq_true rfl) ⟨(Nat.le_of_ble_eq_true rfl), (Nat.le_of_ble_eq_true rfl)⟩ ⟨rfl, rfl⟩ ⟨(by show 10 + i + 0 ≤ 600000; omega), (by show 1000000 + 6 * i + 0 ≤ 7302250; omega)⟩ dL_law_125) hPm hD hS hA (fun r1 u1 H locs h1 hPc hPm hD hS => ?_)
      obtain ⟨e1, hOK1⟩ := h1
      refine lv_aload_n hx hb dL_law_128 rfl (lv_at hl 2 rfl) ?_
      refine lv_aload_n hx hb dL_law_129 rfl (lv_at hl 0 rfl) ?_
      refine lv_iload_n hx hb dL_law_130 rfl (lv_at hl 3 rfl) ?_
      refine lv_iconst (v := nI 1) hx hb dL_law_131 (by decide) ?_
      refine sf_iadd hx hb dL_law_132 ?_
      refine lw_sld hx hb hX hbl hbA hS (by omega) (by omega) dL_law_133 ?_
      refine lw_ci (sf_runV (b := b0) (As := [.int (xs (i + 1))]) (rest := [.int r1]) ⟨hx, hb, hml, hown, hts⟩ sf_hasL (m_give l dC dI b0 b1 b2 b3 b4 d1 d2 d3 d4 us nu bm tn gm za ss bk _ z hRm (xs (i + 1)) hbal (hct _)) k_L_22 ⟨sf_blind, va_recv hKm hPm (ci := 3) (q0 := 0) rfl rfl, sf_preU hPm hKm (sf_Dr hD) hN⟩ rfl hl.1 (Nat.le_of_ble_eq_true rfl) ⟨(Nat.le_of_ble_eq_true rfl), (Nat.le_of_ble_eq_true rfl)⟩ ⟨rfl, rfl⟩ ⟨(by show 10 + i + 0 + 0 ≤ 600000; omega), (by show 1000000 + 6 * i + 0 + 0 ≤ 7302250; omega)⟩ dL_law_134) hPc (sf_Ds hD) hS hA (fun r2 u2 H locs h2 hPm hPc hD hS => ?_)
      obtain ⟨e2, hRm2⟩ := h2
      refine lv_icmp_eq (tgt := 442) hx hb dL_law_137 (by decide) (fun _ => ?_) (fun c9 => absurd (by rw [e1, e2]) c9)
      refine W.widen (k := 10 + (i + 5)) (n := 1000000 + 6 * (i + 5)) (by omega) (by omega) ?_
      refine lv_iinc (v := nI (i + 5)) (lv' := [(3, .int (nI (i + 5))), (0, .ref b), (1, .ref a0), (2, .ref b0)]) hx hb dL_law_442 hl (k := 3) rfl (nI_add i 5) (by decide) rfl (fun ls hl => ?_)
      refine lv_goto (tgt := 18) hx hb dL_law_445 (by decide) ?_
      exact ih (i + 5, u1, u2, (zs_give z (xs (i + 1))).2) _ _ _ (by dsimp only; omega) ⟨hi5, hOK1, hRm2, zbal_give hbal _ (hct _), hPc, hPm, sf_Ds hD, hS, lv_sub hl [1, 2, 3, 0] rfl⟩
    · refine lv_tableIn (off := 110) (tgt := 142) hx hb dL_law_32 (by decide) (by decide) rfl (by decide) ?_
      refine lv_aload_n hx hb dL_law_142 rfl (lv_at hl 1 rfl) ?_
      refine lv_aload_n hx hb dL_law_143 rfl (lv_at hl 0 rfl) ?_
      refine lv_iload_n hx hb dL_law_144 rfl (lv_at hl 3 rfl) ?_
      refine lv_iconst (v := nI 1) hx hb dL_law_145 (by decide) ?_
      refine sf_iadd hx hb dL_law_146 ?_
      refine lw_sld hx hb hX hbl hbA hS (by omega) (by omega) dL_law_147 ?_
      refine lv_aload_n hx hb dL_law_148 rfl (lv_at hl 0 rfl) ?_
      refine lv_iload_n hx hb dL_law_149 rfl (lv_at hl 3 rfl) ?_
      refine lv_iconst (v := nI 2) hx hb dL_law_150 (by decide) ?_
      refine sf_iadd hx hb dL_law_151 ?_
      refine lw_sld hx hb hX hbl hbA hS (by omega) (by omega) dL_law_152 ?_
      refine lw_ci (sf_runV (b := a0) (As := [.int (xs (i + 1)), .int (xs (i + 2))]) (rest := []) ⟨hx, hb, hml, hown, hts⟩ sf_hasL (c_resize l dC dI a0 a1 a2 a3 cB cT LP gb md ct tb nm tk oc en fs la g st ln bf af _ z cs fr hI hRc (xs (i + 1)) (xs (i + 2))) k_L_23 ⟨sf_blind, va_recv hKc hPc (ci := 2) (q0 := 0) rfl rfl, sf_preU hPc hKc (sf_Dl hD) hN⟩ rfl hl.1 (Nat.le_of_ble_eq_true rfl) ⟨(Nat.le_of_ble_eq_true rfl), (Nat.le_of_ble_eq_true rfl)⟩ ⟨rfl, rfl⟩ ⟨(by show 10 + i + 0 ≤ 600000; omega), (by show 1000000 + 6 * i + 0 ≤ 7302250; omega)⟩ dL_law_153) hPm hD hS hA (fun r1 u1 H locs h1 hPc hPm hD hS => ?_)
      obtain ⟨e1, hOK1⟩ := h1
      refine lv_aload_n hx hb dL_law_156 rfl (lv_at hl 2 rfl) ?_
      refine lv_aload_n hx hb dL_law_157 rfl (lv_at hl 0 rfl) ?_
      refine lv_iload_n hx hb dL_law_158 rfl (lv_at hl 3 rfl) ?_
      refine lv_iconst (v := nI 1) hx hb dL_law_159 (by decide) ?_
      refine sf_iadd hx hb dL_law_160 ?_
      refine lw_sld hx hb hX hbl hbA hS (by omega) (by omega) dL_law_161 ?_
      refine lv_aload_n hx hb dL_law_162 rfl (lv_at hl 0 rfl) ?_
      refine lv_iload_n hx hb dL_law_163 rfl (lv_at hl 3 rfl) ?_
      refine lv_iconst (v := nI 2) hx hb dL_law_164 (by decide) ?_
      refine sf_iadd hx hb dL_law_165 ?_
      refine lw_sld hx hb hX hbl hbA hS (by omega) (by omega) dL_law_166 ?_
      refine lw_ci (sf_runV (b := b0) (As := [.int (xs (i + 1)), .int (xs (i + 2))]) (rest := [.int r1]) ⟨hx, hb, hml, hown, hts⟩ sf_hasL (m_resize l dC dI b0 b1 b2 b3 b4 d1 d2 d3 d4 us nu bm tn gm za ss bk _ z hRm (xs (i + 1)) (xs (i + 2))) k_L_27 ⟨sf_blind, va_recv hKm hPm (ci := 3) (q0 := 0) rfl rfl, sf_preU hPm hKm (sf_Dr hD) hN⟩ rfl hl.1 (Nat.le_of_ble_eq_true rfl) ⟨(Nat.le_of_ble_eq_true rfl), (Nat.le_of_ble_eq_true rfl)⟩ ⟨rfl, rfl⟩ ⟨(by show 10 + i + 0 + 0 ≤ 600000; omega), (by show 1000000 + 6 * i + 0 + 0 ≤ 7302250; omega)⟩ dL_law_167) hPc (sf_Ds hD) hS hA (fun r2 u2 H locs h2 hPm hPc hD hS => ?_)
      obtain ⟨e2, hRm2⟩ := h2
      refine lv_icmp_eq (tgt := 442) hx hb dL_law_170 (by decide) (fun _ => ?_) (fun c9 => absurd (by rw [e1, e2]) c9)
      refine W.widen (k := 10 + (i + 5)) (n := 1000000 + 6 * (i + 5)) (by omega) (by omega) ?_
      refine lv_iinc (v := nI (i + 5)) (lv' := [(3, .int (nI (i + 5))), (0, .ref b), (1, .ref a0), (2, .ref b0)]) hx hb dL_law_442 hl (k := 3) rfl (nI_add i 5) (by decide) rfl (fun ls hl => ?_)
      refine lv_goto (tgt := 18) hx hb dL_law_445 (by decide) ?_
      exact ih (i + 5, u1, u2, (zs_resize z (xs (i + 1)) (xs (i + 2))).2) _ _ _ (by dsimp only; omega) ⟨hi5, hOK1, hRm2, zbal_resize hbal (xs (i + 1)) (xs (i + 2)), hPc, hPm, sf_Ds hD, hS, lv_sub hl [1, 2, 3, 0] rfl⟩
    · refine lv_tableIn (off := 143) (tgt := 175) hx hb dL_law_32 (by decide) (by decide) rfl (by decide) ?_
      refine lv_aload_n hx hb dL_law_175 rfl (lv_at hl 1 rfl) ?_
      refine lv_aload_n hx hb dL_law_176 rfl (lv_at hl 0 rfl) ?_
      refine lv_iload_n hx hb dL_law_177 rfl (lv_at hl 3 rfl) ?_
      refine lv_iconst (v := nI 1) hx hb dL_law_178 (by decide) ?_
      refine sf_iadd hx hb dL_law_179 ?_
      refine lw_sld hx hb hX hbl hbA hS (by omega) (by omega) dL_law_180 ?_
      refine lv_aload_n hx hb dL_law_181 rfl (lv_at hl 0 rfl) ?_
      refine lv_iload_n hx hb dL_law_182 rfl (lv_at hl 3 rfl) ?_
      refine lv_iconst (v := nI 2) hx hb dL_law_183 (by decide) ?_
      refine sf_iadd hx hb dL_law_184 ?_
      refine lw_sld hx hb hX hbl hbA hS (by omega) (by omega) dL_law_185 ?_
      refine lv_aload_n hx hb dL_law_186 rfl (lv_at hl 0 rfl) ?_
      refine lv_iload_n hx hb dL_law_187 rfl (lv_at hl 3 rfl) ?_
      refine lv_iconst (v := nI 3) hx hb dL_law_188 (by decide) ?_
      refine sf_iadd hx hb dL_law_189 ?_
      refine lw_sld hx hb hX hbl hbA hS (by omega) (by omega) dL_law_190 ?_
      refine lw_ci (sf_runV (b := a0) (As := [.int (xs (i + 1)), .int (xs (i + 2)), .int (xs (i + 3))]) (rest := []) ⟨hx, hb, hml, hown, hts⟩ sf_hasL (c_put l dC dI a0 a1 a2 a3 cB cT LP gb md ct tb nm tk oc en fs la g st ln bf af _ z cs fr hI hRc (xs (i + 1)) (xs (i + 2)) (xs (i + 3))) k_L_28 ⟨sf_blind, va_recv hKc hPc (ci := 2) (q0 := 0) rfl rfl, sf_preU hPc hKc (sf_Dl hD) hN⟩ rfl hl.1 (Nat.le_of_ble_eq_true rfl) ⟨(Nat.le_of_ble_eq_true rfl), (Nat.le_of_ble_eq_true rfl)⟩ ⟨rfl, rfl⟩ ⟨(by show 10 + i + 0 ≤ 600000; omega), (by show 1000000 + 6 * i + 0 ≤ 7302250; omega)⟩ dL_law_191) hPm hD hS hA (fun r1 u1 H locs h1 hPc hPm hD hS => ?_)
      obtain ⟨e1, hOK1⟩ := h1
      refine lv_aload_n hx hb dL_law_194 rfl (lv_at hl 2 rfl) ?_
      refine lv_aload_n hx hb dL_law_195 rfl (lv_at hl 0 rfl) ?_
      refine lv_iload_n hx hb dL_law_196 rfl (lv_at hl 3 rfl) ?_
      refine lv_iconst (v := nI 1) hx hb dL_law_197 (by decide) ?_
      refine sf_iadd hx hb dL_law_198 ?_
      refine lw_sld hx hb hX hbl hbA hS (by omega) (by omega) dL_law_199 ?_
      refine lv_aload_n hx hb dL_law_200 rfl (lv_at hl 0 rfl) ?_
      refine lv_iload_n hx hb dL_law_201 rfl (lv_at hl 3 rfl) ?_
      refine lv_iconst (v := nI 2) hx hb dL_law_202 (by decide) ?_
      refine sf_iadd hx hb dL_law_203 ?_
      refine lw_sld hx hb hX hbl hbA hS (by omega) (by omega) dL_law_204 ?_
      refine lv_aload_n hx hb dL_law_205 rfl (lv_at hl 0 rfl) ?_
      refine lv_iload_n hx hb dL_law_206 rfl (lv_at hl 3 rfl) ?_
      refine lv_iconst (v := nI 3) hx hb dL_law_207 (by decide) ?_
      refine sf_iadd hx hb dL_law_208 ?_
      refine lw_sld hx hb hX hbl hbA hS (by omega) (by omega) dL_law_209 ?_
      refine lw_ci (sf_runV (b := b0) (As := [.int (xs (i + 1)), .int (xs (i + 2)), .int (xs (i + 3))]) (rest := [.int r1]) ⟨hx, hb, hml, hown, hts⟩ sf_hasL (m_put l dC dI b0 b1 b2 b3 b4 d1 d2 d3 d4 us nu bm tn gm za ss bk _ z hRm (xs (i + 1)) (xs (i + 2)) (xs (i + 3))) k_L_32 ⟨sf_blind, va_recv hKm hPm (ci := 3) (q0 := 0) rfl rfl, sf_preU hPm hKm (sf_Dr hD) hN⟩ rfl hl.1 (Nat.le_of_ble_eq_true rfl) ⟨(Nat.le_of_ble_eq_true rfl), (Nat.le_of_ble_eq_true rfl)⟩ ⟨rfl, rfl⟩ ⟨(by show 10 + i + 0 + 0 ≤ 600000; omega), (by show 1000000 + 6 * i + 0 + 0 ≤ 7302250; omega)⟩ dL_law_210) hPc (sf_Ds hD) hS hA (fun r2 u2 H locs h2 hPm hPc hD hS => ?_)
      obtain ⟨e2, hRm2⟩ := h2
      refine lv_icmp_eq (tgt := 442) hx hb dL_law_213 (by decide) (fun _ => ?_) (fun c9 => absurd (by rw [e1, e2]) c9)
      refine W.widen (k := 10 + (i + 5)) (n := 1000000 + 6 * (i + 5)) (by omega) (by omega) ?_
      refine lv_iinc (v := nI (i + 5)) (lv' := [(3, .int (nI (i + 5))), (0, .ref b), (1, .ref a0), (2, .ref b0)]) hx hb dL_law_442 hl (k := 3) rfl (nI_add i 5) (by decide) rfl (fun ls hl => ?_)
      refine lv_goto (tgt := 18) hx hb dL_law_445 (by decide) ?_
      exact ih (i + 5, u1, u2, (zs_put z (xs (i + 1)) (xs (i + 2)) (xs (i + 3))).2) _ _ _ (by dsimp only; omega) ⟨hi5, hOK1, hRm2, zbal_put hbal (xs (i + 1)) (xs (i + 2)) (xs (i + 3)), hPc, hPm, sf_Ds hD, hS, lv_sub hl [1, 2, 3, 0] rfl⟩
    · refine lv_tableIn (off := 186) (tgt := 218) hx hb dL_law_32 (by decide) (by decide) rfl (by decide) ?_
      refine lv_aload_n hx hb dL_law_218 rfl (lv_at hl 1 rfl) ?_
      refine lv_aload_n hx hb dL_law_219 rfl (lv_at hl 0 rfl) ?_
      refine lv_iload_n hx hb dL_law_220 rfl (lv_at hl 3 rfl) ?_
      refine lv_iconst (v := nI 1) hx hb dL_law_221 (by decide) ?_
      refine sf_iadd hx hb dL_law_222 ?_
      refine lw_sld hx hb hX hbl hbA hS (by omega) (by omega) dL_law_223 ?_
      refine lv_aload_n hx hb dL_law_224 rfl (lv_at hl 0 rfl) ?_
      refine lv_iload_n hx hb dL_law_225 rfl (lv_at hl 3 rfl) ?_
      refine lv_iconst (v := nI 2) hx hb dL_law_226 (by decide) ?_
      refine sf_iadd hx hb dL_law_227 ?_
      refine lw_sld hx hb hX hbl hbA hS (by omega) (by omega) dL_law_228 ?_
      refine lv_aload_n hx hb dL_law_229 rfl (lv_at hl 0 rfl) ?_
      refine lv_iload_n hx hb dL_law_230 rfl (lv_at hl 3 rfl) ?_
      refine lv_iconst (v := nI 3) hx hb dL_law_231 (by decide) ?_
      refine sf_iadd hx hb dL_law_232 ?_
      refine lw_sld hx hb hX hbl hbA hS (by omega) (by omega) dL_law_233 ?_
      refine lv_aload_n hx hb dL_law_234 rfl (lv_at hl 0 rfl) ?_
      refine lv_iload_n hx hb dL_law_235 rfl (lv_at hl 3 rfl) ?_
      refine lv_iconst (v := nI 4) hx hb dL_law_236 (by decide) ?_
      refine sf_iadd hx hb dL_law_237 ?_
      refine lw_sld hx hb hX hbl hbA hS (by omega) (by omega) dL_law_238 ?_
      refine lw_ci (sf_runV (b := a0) (As := [.int (xs (i + 1)), .int (xs (i + 2)), .int (xs (i + 3)), .int (xs (i + 4))]) (rest := []) ⟨hx, hb, hml, hown, hts⟩ sf_hasL (c_fill l dC dI a0 a1 a2 a3 cB cT LP gb md ct tb nm tk oc en fs la g st ln bf af _ z cs fr hI hRc (xs (i + 1)) (xs (i + 2)) (xs (i + 3)) (xs (i + 4))) k_L_33 ⟨sf_blind, va_recv hKc hPc (ci := 2) (q0 := 0) rfl rfl, sf_preU hPc hKc (sf_Dl hD) hN⟩ rfl hl.1 (Nat.le_of_ble_eq_true rfl) ⟨(Nat.le_of_ble_eq_true rfl), (Nat.le_of_ble_eq_true rfl)⟩ ⟨rfl, rfl⟩ ⟨(by show 10 + i + 0 ≤ 600000; omega), (by show 1000000 + 6 * i + 0 ≤ 7302250; omega)⟩ dL_law_239) hPm hD hS hA (fun r1 u1 H locs h1 hPc hPm hD hS => ?_)
      obtain ⟨e1, hOK1⟩ := h1
      refine lv_aload_n hx hb dL_law_242 rfl (lv_at hl 2 rfl) ?_
      refine lv_aload_n hx hb dL_law_243 rfl (lv_at hl 0 rfl) ?_
      refine lv_iload_n hx hb dL_law_244 rfl (lv_at hl 3 rfl) ?_
      refine lv_iconst (v := nI 1) hx hb dL_law_245 (by decide) ?_
      refine sf_iadd hx hb dL_law_246 ?_
      refine lw_sld hx hb hX hbl hbA hS (by omega) (by omega) dL_law_247 ?_
      refine lv_aload_n hx hb dL_law_248 rfl (lv_at hl 0 rfl) ?_
      refine lv_iload_n hx hb dL_law_249 rfl (lv_at hl 3 rfl) ?_
      refine lv_iconst (v := nI 2) hx hb dL_law_250 (by decide) ?_
      refine sf_iadd hx hb dL_law_251 ?_
      refine lw_sld hx hb hX hbl hbA hS (by omega) (by omega) dL_law_252 ?_
      refine lv_aload_n hx hb dL_law_253 rfl (lv_at hl 0 rfl) ?_
      refine lv_iload_n hx hb dL_law_254 rfl (lv_at hl 3 rfl) ?_
      refine lv_iconst (v := nI 3) hx hb dL_law_255 (by decide) ?_
      refine sf_iadd hx hb dL_law_256 ?_
      refine lw_sld hx hb hX hbl hbA hS (by omega) (by omega) dL_law_257 ?_
      refine lv_aload_n hx hb dL_law_258 rfl (lv_at hl 0 rfl) ?_
      refine lv_iload_n hx hb dL_law_259 rfl (lv_at hl 3 rfl) ?_
      refine lv_iconst (v := nI 4) hx hb dL_law_260 (by decide) ?_
      refine sf_iadd hx hb dL_law_261 ?_
      refine lw_sld hx hb hX hbl hbA hS (by omega) (by omega) dL_law_262 ?_
      refine lw_ci (sf_runV (b := b0) (As := [.int (xs (i + 1)), .int (xs (i + 2)), .int (xs (i + 3)), .int (xs (i + 4))]) (rest := [.int r1]) ⟨hx, hb, hml, hown, hts⟩ sf_hasL (m_fill l dC dI b0 b1 b2 b3 b4 d1 d2 d3 d4 us nu bm tn gm za ss bk _ z hRm (xs (i + 1)) (xs (i + 2)) (xs (i + 3)) (xs (i + 4))) k_L_37 ⟨sf_blind, va_recv hKm hPm (ci := 3) (q0 := 0) rfl rfl, sf_preU hPm hKm (sf_Dr hD) hN⟩ rfl hl.1 (Nat.le_of_ble_eq_true rfl) ⟨(Nat.le_of_ble_eq_true rfl), (Nat.le_of_ble_eq_true rfl)⟩ ⟨rfl, rfl⟩ ⟨(by show 10 + i + 0 + 0 ≤ 600000; omega), (by show 1000000 + 6 * i + 0 + 0 ≤ 7302250; omega)⟩ dL_law_263) hPc (sf_Ds hD) hS hA (fun r2 u2 H locs h2 hPm hPc hD hS => ?_)
      obtain ⟨e2, hRm2⟩ := h2
      refine lv_icmp_eq (tgt := 442) hx hb dL_law_266 (by decide) (fun _ => ?_) (fun c9 => absurd (by rw [e1, e2]) c9)
      refine W.widen (k := 10 + (i + 5)) (n := 1000000 + 6 * (i + 5)) (by omega) (by omega) ?_
      refine lv_iinc (v := nI (i + 5)) (lv' := [(3, .int (nI (i + 5))), (0, .ref b), (1, .ref a0), (2, .ref b0)]) hx hb dL_law_442 hl (k := 3) rfl (nI_add i 5) (by decide) rfl (fun ls hl => ?_)
      refine lv_goto (tgt := 18) hx hb dL_law_445 (by decide) ?_
      exact ih (i + 5, u1, u2, (zs_fill z (xs (i + 1)) (xs (i + 2)) (xs (i + 3)) (xs (i + 4))).2) _ _ _ (by dsimp only; omega) ⟨hi5, hOK1, hRm2, zbal_fill hbal (xs (i + 1)) (xs (i + 2)) (xs (i + 3)) (xs (i + 4)), hPc, hPm, sf_Ds hD, hS, lv_sub hl [1, 2, 3, 0] rfl⟩
    · refine lv_tableIn (off := 239) (tgt := 271) hx hb dL_law_32 (by decide) (by decide) rfl (by decide) ?_
      refine lv_aload_n hx hb dL_law_271 rfl (lv_at hl 1 rfl) ?_
      refine lv_aload_n hx hb dL_law_272 rfl (lv_at hl 0 rfl) ?_
      refine lv_iload_n hx hb dL_law_273 rfl (lv_at hl 3 rfl) ?_
      refine lv_iconst (v := nI 1) hx hb dL_law_274 (by decide) ?_
      refine sf_iadd hx hb dL_law_275 ?_
      refine lw_sld hx hb hX hbl hbA hS (by omega) (by omega) dL_law_276 ?_
      refine lv_aload_n hx hb dL_law_277 rfl (lv_at hl 0 rfl) ?_
      refine lv_iload_n hx hb dL_law_278 rfl (lv_at hl 3 rfl) ?_
      refine lv_iconst (v := nI 2) hx hb dL_law_279 (by decide) ?_
      refine sf_iadd hx hb dL_law_280 ?_
      refine lw_sld hx hb hX hbl hbA hS (by omega) (by omega) dL_law_281 ?_
      refine lw_ci (sf_runV (b := a0) (As := [.int (xs (i + 1)), .int (xs (i + 2))]) (rest := []) ⟨hx, hb, hml, hown, hts⟩ sf_hasL (c_copy l dC dI a0 a1 a2 a3 cB cT LP gb md ct tb nm tk oc en fs la g st ln bf af _ z cs fr hI hRc (xs (i + 1)) (xs (i + 2))) k_L_38 ⟨sf_blind, va_recv hKc hPc (ci := 2) (q0 := 0) rfl rfl, sf_preU hPc hKc (sf_Dl hD) hN⟩ rfl hl.1 (Nat.le_of_ble_eq_true rfl) ⟨(Nat.le_of_ble_eq_true rfl), (Nat.le_of_ble_eq_true rfl)⟩ ⟨rfl, rfl⟩ ⟨(by show 10 + i + 0 ≤ 600000; omega), (by show 1000000 + 6 * i + 0 ≤ 7302250; omega)⟩ dL_law_282) hPm hD hS hA (fun r1 u1 H locs h1 hPc hPm hD hS => ?_)
      obtain ⟨e1, hOK1⟩ := h1
      refine lv_aload_n hx hb dL_law_285 rfl (lv_at hl 2 rfl) ?_
      refine lv_aload_n hx hb dL_law_286 rfl (lv_at hl 0 rfl) ?_
      refine lv_iload_n hx hb dL_law_287 rfl (lv_at hl 3 rfl) ?_
      refine lv_iconst (v := nI 1) hx hb dL_law_288 (by decide) ?_
      refine sf_iadd hx hb dL_law_289 ?_
      refine lw_sld hx hb hX hbl hbA hS (by omega) (by omega) dL_law_290 ?_
      refine lv_aload_n hx hb dL_law_291 rfl (lv_at hl 0 rfl) ?_
      refine lv_iload_n hx hb dL_law_292 rfl (lv_at hl 3 rfl) ?_
      refine lv_iconst (v := nI 2) hx hb dL_law_293 (by decide) ?_
      refine sf_iadd hx hb dL_law_294 ?_
      refine lw_sld hx hb hX hbl hbA hS (by omega) (by omega) dL_law_295 ?_
      refine lw_ci (sf_runV (b := b0) (As := [.int (xs (i + 1)), .int (xs (i + 2))]) (rest := [.int r1]) ⟨hx, hb, hml, hown, hts⟩ sf_hasL (m_copy l dC dI b0 b1 b2 b3 b4 d1 d2 d3 d4 us nu bm tn gm za ss bk _ z hRm (xs (i + 1)) (xs (i + 2))) k_L_41 ⟨sf_blind, va_recv hKm hPm (ci := 3) (q0 := 0) rfl rfl, sf_preU hPm hKm (sf_Dr hD) hN⟩ rfl hl.1 (Nat.le_of_ble_eq_true rfl) ⟨(Nat.le_of_ble_eq_true rfl), (Nat.le_of_ble_eq_true rfl)⟩ ⟨rfl, rfl⟩ ⟨(by show 10 + i + 0 + 0 ≤ 600000; omega), (by show 1000000 + 6 * i + 0 + 0 ≤ 7302250; omega)⟩ dL_law_296) hPc (sf_Ds hD) hS hA (fun r2 u2 H locs h2 hPm hPc hD hS => ?_)
      obtain ⟨e2, hRm2⟩ := h2
      refine lv_icmp_eq (tgt := 442) hx hb dL_law_299 (by decide) (fun _ => ?_) (fun c9 => absurd (by rw [e1, e2]) c9)
      refine W.widen (k := 10 + (i + 5)) (n := 1000000 + 6 * (i + 5)) (by omega) (by omega) ?_
      refine lv_iinc (v := nI (i + 5)) (lv' := [(3, .int (nI (i + 5))), (0, .ref b), (1, .ref a0), (2, .ref b0)]) hx hb dL_law_442 hl (k := 3) rfl (nI_add i 5) (by decide) rfl (fun ls hl => ?_)
      refine lv_goto (tgt := 18) hx hb dL_law_445 (by decide) ?_
      exact ih (i + 5, u1, u2, (zs_copy z (xs (i + 1)) (xs (i + 2))).2) _ _ _ (by dsimp only; omega) ⟨hi5, hOK1, hRm2, zbal_copy hbal (xs (i + 1)) (xs (i + 2)), hPc, hPm, sf_Ds hD, hS, lv_sub hl [1, 2, 3, 0] rfl⟩
    · refine lv_tableIn (off := 272) (tgt := 304) hx hb dL_law_32 (by decide) (by decide) rfl (by decide) ?_
      refine lv_aload_n hx hb dL_law_304 rfl (lv_at hl 1 rfl) ?_
      refine lv_aload_n hx hb dL_law_305 rfl (lv_at hl 0 rfl) ?_
      refine lv_iload_n hx hb dL_law_306 rfl (lv_at hl 3 rfl) ?_
      refine lv_iconst (v := nI 1) hx hb dL_law_307 (by decide) ?_
      refine sf_iadd hx hb dL_law_308 ?_
      refine lw_sld hx hb hX hbl hbA hS (by omega) (by omega) dL_law_309 ?_
      refine lv_aload_n hx hb dL_law_310 rfl (lv_at hl 0 rfl) ?_
      refine lv_iload_n hx hb dL_law_311 rfl (lv_at hl 3 rfl) ?_
      refine lv_iconst (v := nI 2) hx hb dL_law_312 (by decide) ?_
      refine sf_iadd hx hb dL_law_313 ?_
      refine lw_sld hx hb hX hbl hbA hS (by omega) (by omega) dL_law_314 ?_
      refine vp_callSi (va_Run.run (sf_runV (b := a0) (As := [.int (xs (i + 1)), .int (xs (i + 2))]) (rest := []) ⟨hx, hb, hml, hown, hts⟩ sf_hasL (c_get l dC dI a0 a1 a2 a3 cB cT LP gb md ct tb nm tk oc en fs la g st ln bf af _ z cs fr hI hRc (xs (i + 1)) (xs (i + 2))) k_L_42 ⟨sf_blind, va_recv hKc hPc (ci := 2) (q0 := 0) rfl rfl, sf_preU hPc hKc (sf_Dl hD) hN⟩ rfl hl.1 (Nat.le_of_ble_eq_true rfl) ⟨(Nat.le_of_ble_eq_true rfl), (Nat.le_of_ble_eq_true rfl)⟩ ⟨rfl, rfl⟩ ⟨(by show 10 + i + 0 ≤ 600000; omega), (by show 1000000 + 6 * i + 0 ≤ 7302250; omega)⟩ dL_law_315)) (fun r1 e1 => ?_)
      refine lv_aload_n hx hb dL_law_318 rfl (lv_at hl 2 rfl) ?_
      refine lv_aload_n hx hb dL_law_319 rfl (lv_at hl 0 rfl) ?_
      refine lv_iload_n hx hb dL_law_320 rfl (lv_at hl 3 rfl) ?_
      refine lv_iconst (v := nI 1) hx hb dL_law_321 (by decide) ?_
      refine sf_iadd hx hb dL_law_322 ?_
      refine lw_sld hx hb hX hbl hbA hS (by omega) (by omega) dL_law_323 ?_
      refine lv_aload_n hx hb dL_law_324 rfl (lv_at hl 0 rfl) ?_
      refine lv_iload_n hx hb dL_law_325 rfl (lv_at hl 3 rfl) ?_
      refine lv_iconst (v := nI 2) hx hb dL_law_326 (by decide) ?_
      refine sf_iadd hx hb dL_law_327 ?_
      refine lw_sld hx hb hX hbl hbA hS (by omega) (by omega) dL_law_328 ?_
      refine vp_callSi (va_Run.run (sf_runV (b := b0) (As := [.int (xs (i + 1)), .int (xs (i + 2))]) (rest := [.int r1]) ⟨hx, hb, hml, hown, hts⟩ sf_hasL (m_get l dC dI b0 b1 b2 b3 b4 d1 d2 d3 d4 us nu bm tn gm za ss bk _ z hRm (xs (i + 1)) (xs (i + 2))) k_L_45 ⟨sf_blind, va_recv hKm hPm (ci := 3) (q0 := 0) rfl rfl, sf_preU hPm hKm (sf_Dr hD) hN⟩ rfl hl.1 (Nat.le_of_ble_eq_true rfl) ⟨(Nat.le_of_ble_eq_true rfl), (Nat.le_of_ble_eq_true rfl)⟩ ⟨rfl, rfl⟩ ⟨(by show 10 + i + 0 ≤ 600000; omega), (by show 1000000 + 6 * i + 0 ≤ 7302250; omega)⟩ dL_law_329)) (fun r2 e2 => ?_)
      refine lv_icmp_eq (tgt := 442) hx hb dL_law_332 (by decide) (fun _ => ?_) (fun c9 => absurd (by rw [e1, e2]) c9)
      refine W.widen (k := 10 + (i + 5)) (n := 1000000 + 6 * (i + 5)) (by omega) (by omega) ?_
      refine lv_iinc (v := nI (i + 5)) (lv' := [(3, .int (nI (i + 5))), (0, .ref b), (1, .ref a0), (2, .ref b0)]) hx hb dL_law_442 hl (k := 3) rfl (nI_add i 5) (by decide) rfl (fun ls hl => ?_)
      refine lv_goto (tgt := 18) hx hb dL_law_445 (by decide) ?_
      exact ih (i + 5, (LP, gb, md, ct, tb, nm, tk, oc, en, fs, la, g, st, ln, bf, af), (us, nu, bm, tn, gm, za, ss, bk), z) _ _ _ (by dsimp only; omega) ⟨hi5, ⟨cs, fr, hI, hRc⟩, hRm, hbal, hPc, hPm, hD, hS, lv_sub hl [1, 2, 3, 0] rfl⟩
    · refine lv_tableIn (off := 305) (tgt := 337) hx hb dL_law_32 (by decide) (by decide) rfl (by decide) ?_
      refine lv_aload_n hx hb dL_law_337 rfl (lv_at hl 1 rfl) ?_
      refine lv_aload_n hx hb dL_law_338 rfl (lv_at hl 0 rfl) ?_
      refine lv_iload_n hx hb dL_law_339 rfl (lv_at hl 3 rfl) ?_
      refine lv_iconst (v := nI 1) hx hb dL_law_340 (by decide) ?_
      refine sf_iadd hx hb dL_law_341 ?_
      refine lw_sld hx hb hX hbl hbA hS (by omega) (by omega) dL_law_342 ?_
      refine vp_callSi (va_Run.run (sf_runV (b := a0) (As := [.int (xs (i + 1))]) (rest := []) ⟨hx, hb, hml, hown, hts⟩ sf_hasL (c_size l dC dI a0 a1 a2 a3 cB cT LP gb md ct tb nm tk oc en fs la g st ln bf af _ z cs fr hI hRc (xs (i + 1))) k_L_46 ⟨sf_blind, va_recv hKc hPc (ci := 2) (q0 := 0) rfl rfl, sf_preU hPc hKc (sf_Dl hD) hN⟩ rfl hl.1 (Nat.le_of_ble_eq_true rfl) ⟨(Nat.le_of_ble_eq_true rfl), (Nat.le_of_ble_eq_true rfl)⟩ ⟨rfl, rfl⟩ ⟨(by show 10 + i + 0 ≤ 600000; omega), (by show 1000000 + 6 * i + 0 ≤ 7302250; omega)⟩ dL_law_343)) (fun r1 e1 => ?_)
      refine lv_aload_n hx hb dL_law_346 rfl (lv_at hl 2 rfl) ?_
      refine lv_aload_n hx hb dL_law_347 rfl (lv_at hl 0 rfl) ?_
      refine lv_iload_n hx hb dL_law_348 rfl (lv_at hl 3 rfl) ?_
      refine lv_iconst (v := nI 1) hx hb dL_law_349 (by decide) ?_
      refine sf_iadd hx hb dL_law_350 ?_
      refine lw_sld hx hb hX hbl hbA hS (by omega) (by omega) dL_law_351 ?_
      refine vp_callSi (va_Run.run (sf_runV (b := b0) (As := [.int (xs (i + 1))]) (rest := [.int r1]) ⟨hx, hb, hml, hown, hts⟩ sf_hasL (m_size l dC dI b0 b1 b2 b3 b4 d1 d2 d3 d4 us nu bm tn gm za ss bk _ z hRm (xs (i + 1))) k_L_49 ⟨sf_blind, va_recv hKm hPm (ci := 3) (q0 := 0) rfl rfl, sf_preU hPm hKm (sf_Dr hD) hN⟩ rfl hl.1 (Nat.le_of_ble_eq_true rfl) ⟨(Nat.le_of_ble_eq_true rfl), (Nat.le_of_ble_eq_true rfl)⟩ ⟨rfl, rfl⟩ ⟨(by show 10 + i + 0 ≤ 600000; omega), (by show 1000000 + 6 * i + 0 ≤ 7302250; omega)⟩ dL_law_352)) (fun r2 e2 => ?_)
      refine lv_icmp_eq (tgt := 442) hx hb dL_law_355 (by decide) (fun _ => ?_) (fun c9 => absurd (by rw [e1, e2]) c9)
      refine W.widen (k := 10 + (i + 5)) (n := 1000000 + 6 * (i + 5)) (by omega) (by omega) ?_
      refine lv_iinc (v := nI (i + 5)) (lv' := [(3, .int (nI (i + 5))), (0, .ref b), (1, .ref a0), (2, .ref b0)]) hx hb dL_law_442 hl (k := 3) rfl (nI_add i 5) (by decide) rfl (fun ls hl => ?_)
      refine lv_goto (tgt := 18) hx hb dL_law_445 (by decide) ?_
      exact ih (i + 5, (LP, gb, md, ct, tb, nm, tk, oc, en, fs, la, g, st, ln, bf, af), (us, nu, bm, tn, gm, za, ss, bk), z) _ _ _ (by dsimp only; omega) ⟨hi5, ⟨cs, fr, hI, hRc⟩, hRm, hbal, hPc, hPm, hD, hS, lv_sub hl [1, 2, 3, 0] rfl⟩
    · refine lv_tableIn (off := 328) (tgt := 360) hx hb dL_law_32 (by decide) (by decide) rfl (by decide) ?_
      refine lv_aload_n hx hb dL_law_360 rfl (lv_at hl 1 rfl) ?_
      refine lv_aload_n hx hb dL_law_361 rfl (lv_at hl 0 rfl) ?_
      refine lv_iload_n hx hb dL_law_362 rfl (lv_at hl 3 rfl) ?_
      refine lv_iconst (v := nI 1) hx hb dL_law_363 (by decide) ?_
      refine sf_iadd hx hb dL_law_364 ?_
      refine lw_sld hx hb hX hbl hbA hS (by omega) (by omega) dL_law_365 ?_
      refine lv_aload_n hx hb dL_law_366 rfl (lv_at hl 0 rfl) ?_
      refine lv_iload_n hx hb dL_law_367 rfl (lv_at hl 3 rfl) ?_
      refine lv_iconst (v := nI 2) hx hb dL_law_368 (by decide) ?_
      refine sf_iadd hx hb dL_law_369 ?_
      refine lw_sld hx hb hX hbl hbA hS (by omega) (by omega) dL_law_370 ?_
      refine vp_callSi (va_Run.run (sf_runV (b := a0) (As := [.int (xs (i + 1)), .int (xs (i + 2))]) (rest := []) ⟨hx, hb, hml, hown, hts⟩ sf_hasL (c_compare l dC dI a0 a1 a2 a3 cB cT LP gb md ct tb nm tk oc en fs la g st ln bf af _ z cs fr hI hRc (xs (i + 1)) (xs (i + 2))) k_L_50 ⟨sf_blind, va_recv hKc hPc (ci := 2) (q0 := 0) rfl rfl, sf_preU hPc hKc (sf_Dl hD) hN⟩ rfl hl.1 (Nat.le_of_ble_eq_true rfl) ⟨(Nat.le_of_ble_eq_true rfl), (Nat.le_of_ble_eq_true rfl)⟩ ⟨rfl, rfl⟩ ⟨(by show 10 + i + 0 ≤ 600000; omega), (by show 1000000 + 6 * i + 0 ≤ 7302250; omega)⟩ dL_law_371)) (fun r1 e1 => ?_)
      refine lv_aload_n hx hb dL_law_374 rfl (lv_at hl 2 rfl) ?_
      refine lv_aload_n hx hb dL_law_375 rfl (lv_at hl 0 rfl) ?_
      refine lv_iload_n hx hb dL_law_376 rfl (lv_at hl 3 rfl) ?_
      refine lv_iconst (v := nI 1) hx hb dL_law_377 (by decide) ?_
      refine sf_iadd hx hb dL_law_378 ?_
      refine lw_sld hx hb hX hbl hbA hS (by omega) (by omega) dL_law_379 ?_
      refine lv_aload_n hx hb dL_law_380 rfl (lv_at hl 0 rfl) ?_
      refine lv_iload_n hx hb dL_law_381 rfl (lv_at hl 3 rfl) ?_
      refine lv_iconst (v := nI 2) hx hb dL_law_382 (by decide) ?_
      refine sf_iadd hx hb dL_law_383 ?_
      refine lw_sld hx hb hX hbl hbA hS (by omega) (by omega) dL_law_384 ?_
      refine vp_callSi (va_Run.run (sf_runV (b := b0) (As := [.int (xs (i + 1)), .int (xs (i + 2))]) (rest := [.int r1]) ⟨hx, hb, hml, hown, hts⟩ sf_hasL (m_compare l dC dI b0 b1 b2 b3 b4 d1 d2 d3 d4 us nu bm tn gm za ss bk _ z hRm (xs (i + 1)) (xs (i + 2))) k_L_53 ⟨sf_blind, va_recv hKm hPm (ci := 3) (q0 := 0) rfl rfl, sf_preU hPm hKm (sf_Dr hD) hN⟩ rfl hl.1 (Nat.le_of_ble_eq_true rfl) ⟨(Nat.le_of_ble_eq_true rfl), (Nat.le_of_ble_eq_true rfl)⟩ ⟨rfl, rfl⟩ ⟨(by show 10 + i + 0 ≤ 600000; omega), (by show 1000000 + 6 * i + 0 ≤ 7302250; omega)⟩ dL_law_385)) (fun r2 e2 => ?_)
      refine lv_icmp_eq (tgt := 442) hx hb dL_law_388 (by decide) (fun _ => ?_) (fun c9 => absurd (by rw [e1, e2]) c9)
      refine W.widen (k := 10 + (i + 5)) (n := 1000000 + 6 * (i + 5)) (by omega) (by omega) ?_
      refine lv_iinc (v := nI (i + 5)) (lv' := [(3, .int (nI (i + 5))), (0, .ref b), (1, .ref a0), (2, .ref b0)]) hx hb dL_law_442 hl (k := 3) rfl (nI_add i 5) (by decide) rfl (fun ls hl => ?_)
      refine lv_goto (tgt := 18) hx hb dL_law_445 (by decide) ?_
      exact ih (i + 5, (LP, gb, md, ct, tb, nm, tk, oc, en, fs, la, g, st, ln, bf, af), (us, nu, bm, tn, gm, za, ss, bk), z) _ _ _ (by dsimp only; omega) ⟨hi5, ⟨cs, fr, hI, hRc⟩, hRm, hbal, hPc, hPm, hD, hS, lv_sub hl [1, 2, 3, 0] rfl⟩
    · refine lv_tableIn (off := 361) (tgt := 393) hx hb dL_law_32 (by decide) (by decide) rfl (by decide) ?_
      refine lv_aload_n hx hb dL_law_393 rfl (lv_at hl 1 rfl) ?_
      refine lv_aload_n hx hb dL_law_394 rfl (lv_at hl 0 rfl) ?_
      refine lv_iload_n hx hb dL_law_395 rfl (lv_at hl 3 rfl) ?_
      refine lv_iconst (v := nI 1) hx hb dL_law_396 (by decide) ?_
      refine sf_iadd hx hb dL_law_397 ?_
      refine lw_sld hx hb hX hbl hbA hS (by omega) (by omega) dL_law_398 ?_
      refine vp_callSi (va_Run.run (sf_runV (b := a0) (As := [.int (xs (i + 1))]) (rest := []) ⟨hx, hb, hml, hown, hts⟩ sf_hasL (c_sum l dC dI a0 a1 a2 a3 cB cT LP gb md ct tb nm tk oc en fs la g st ln bf af _ z cs fr hI hRc (xs (i + 1))) k_L_54 ⟨sf_blind, va_recv hKc hPc (ci := 2) (q0 := 0) rfl rfl, sf_preU hPc hKc (sf_Dl hD) hN⟩ rfl hl.1 (Nat.le_of_ble_eq_true rfl) ⟨(Nat.le_of_ble_eq_true rfl), (Nat.le_of_ble_eq_true rfl)⟩ ⟨rfl, rfl⟩ ⟨(by show 10 + i + 0 ≤ 600000; omega), (by show 1000000 + 6 * i + 0 ≤ 7302250; omega)⟩ dL_law_399)) (fun r1 e1 => ?_)
      refine lv_aload_n hx hb dL_law_402 rfl (lv_at hl 2 rfl) ?_
      refine lv_aload_n hx hb dL_law_403 rfl (lv_at hl 0 rfl) ?_
      refine lv_iload_n hx hb dL_law_404 rfl (lv_at hl 3 rfl) ?_
      refine lv_iconst (v := nI 1) hx hb dL_law_405 (by decide) ?_
      refine sf_iadd hx hb dL_law_406 ?_
      refine lw_sld hx hb hX hbl hbA hS (by omega) (by omega) dL_law_407 ?_
      refine vp_callSi (va_Run.run (sf_runV (b := b0) (As := [.int (xs (i + 1))]) (rest := [.int r1]) ⟨hx, hb, hml, hown, hts⟩ sf_hasL (m_sum l dC dI b0 b1 b2 b3 b4 d1 d2 d3 d4 us nu bm tn gm za ss bk _ z hRm (xs (i + 1))) k_L_57 ⟨sf_blind, va_recv hKm hPm (ci := 3) (q0 := 0) rfl rfl, sf_preU hPm hKm (sf_Dr hD) hN⟩ rfl hl.1 (Nat.le_of_ble_eq_true rfl) ⟨(Nat.le_of_ble_eq_true rfl), (Nat.le_of_ble_eq_true rfl)⟩ ⟨rfl, rfl⟩ ⟨(by show 10 + i + 0 ≤ 600000; omega), (by show 1000000 + 6 * i + 0 ≤ 7302250; omega)⟩ dL_law_408)) (fun r2 e2 => ?_)
      refine lv_icmp_eq (tgt := 442) hx hb dL_law_411 (by decide) (fun _ => ?_) (fun c9 => absurd (by rw [e1, e2]) c9)
      refine W.widen (k := 10 + (i + 5)) (n := 1000000 + 6 * (i + 5)) (by omega) (by omega) ?_
      refine lv_iinc (v := nI (i + 5)) (lv' := [(3, .int (nI (i + 5))), (0, .ref b), (1, .ref a0), (2, .ref b0)]) hx hb dL_law_442 hl (k := 3) rfl (nI_add i 5) (by decide) rfl (fun ls hl => ?_)
      refine lv_goto (tgt := 18) hx hb dL_law_445 (by decide) ?_
      exact ih (i + 5, (LP, gb, md, ct, tb, nm, tk, oc, en, fs, la, g, st, ln, bf, af), (us, nu, bm, tn, gm, za, ss, bk), z) _ _ _ (by dsimp only; omega) ⟨hi5, ⟨cs, fr, hI, hRc⟩, hRm, hbal, hPc, hPm, hD, hS, lv_sub hl [1, 2, 3, 0] rfl⟩
    · refine lv_tableIn (off := 384) (tgt := 416) hx hb dL_law_32 (by decide) (by decide) rfl (by decide) ?_
      refine lv_aload_n hx hb dL_law_416 rfl (lv_at hl 1 rfl) ?_
      refine vp_callSi (va_Run.run (sf_runV (b := a0) (As := []) (rest := []) ⟨hx, hb, hml, hown, hts⟩ sf_hasL (c_rows l dC dI a0 a1 a2 a3 cB cT LP gb md ct tb nm tk oc en fs la g st ln bf af _ z cs fr hI hRc ) k_L_58 ⟨sf_blind, va_recv hKc hPc (ci := 2) (q0 := 0) rfl rfl, sf_preU hPc hKc (sf_Dl hD) hN⟩ rfl hl.1 (Nat.le_of_ble_eq_true rfl) ⟨(Nat.le_of_ble_eq_true rfl), (Nat.le_of_ble_eq_true rfl)⟩ ⟨rfl, rfl⟩ ⟨(by show 10 + i + 0 ≤ 600000; omega), (by show 1000000 + 6 * i + 0 ≤ 7302250; omega)⟩ dL_law_417)) (fun r1 e1 => ?_)
      refine lv_aload_n hx hb dL_law_420 rfl (lv_at hl 2 rfl) ?_
      refine vp_callSi (va_Run.run (sf_runV (b := b0) (As := []) (rest := [.int r1]) ⟨hx, hb, hml, hown, hts⟩ sf_hasL (m_rows l dC dI b0 b1 b2 b3 b4 d1 d2 d3 d4 us nu bm tn gm za ss bk _ z hRm  hbal) k_L_62 ⟨sf_blind, va_recv hKm hPm (ci := 3) (q0 := 0) rfl rfl, sf_preU hPm hKm (sf_Dr hD) hN⟩ rfl hl.1 (Nat.le_of_ble_eq_true rfl) ⟨(Nat.le_of_ble_eq_true rfl), (Nat.le_of_ble_eq_true rfl)⟩ ⟨rfl, rfl⟩ ⟨(by show 10 + i + 0 ≤ 600000; omega), (by show 1000000 + 6 * i + 0 ≤ 7302250; omega)⟩ dL_law_421)) (fun r2 e2 => ?_)
      refine lv_icmp_eq (tgt := 442) hx hb dL_law_424 (by decide) (fun _ => ?_) (fun c9 => absurd (by rw [e1, e2]) c9)
      refine W.widen (k := 10 + (i + 5)) (n := 1000000 + 6 * (i + 5)) (by omega) (by omega) ?_
      refine lv_iinc (v := nI (i + 5)) (lv' := [(3, .int (nI (i + 5))), (0, .ref b), (1, .ref a0), (2, .ref b0)]) hx hb dL_law_442 hl (k := 3) rfl (nI_add i 5) (by decide) rfl (fun ls hl => ?_)
      refine lv_goto (tgt := 18) hx hb dL_law_445 (by decide) ?_
      exact ih (i + 5, (LP, gb, md, ct, tb, nm, tk, oc, en, fs, la, g, st, ln, bf, af), (us, nu, bm, tn, gm, za, ss, bk), z) _ _ _ (by dsimp only; omega) ⟨hi5, ⟨cs, fr, hI, hRc⟩, hRm, hbal, hPc, hPm, hD, hS, lv_sub hl [1, 2, 3, 0] rfl⟩
    · refine lv_tableIn (off := 397) (tgt := 429) hx hb dL_law_32 (by decide) (by decide) rfl (by decide) ?_
      refine lv_aload_n hx hb dL_law_429 rfl (lv_at hl 1 rfl) ?_
      refine vp_callSi (va_Run.run (sf_runV (b := a0) (As := []) (rest := []) ⟨hx, hb, hml, hown, hts⟩ sf_hasL (c_places l dC dI a0 a1 a2 a3 cB cT LP gb md ct tb nm tk oc en fs la g st ln bf af _ z cs fr hI hRc ) k_L_63 ⟨sf_blind, va_recv hKc hPc (ci := 2) (q0 := 0) rfl rfl, sf_preU hPc hKc (sf_Dl hD) hN⟩ rfl hl.1 (Nat.le_of_ble_eq_true rfl) ⟨(Nat.le_of_ble_eq_true rfl), (Nat.le_of_ble_eq_true rfl)⟩ ⟨rfl, rfl⟩ ⟨(by show 10 + i + 0 ≤ 600000; omega), (by show 1000000 + 6 * i + 0 ≤ 7302250; omega)⟩ dL_law_430)) (fun r1 e1 => ?_)
      refine lv_aload_n hx hb dL_law_433 rfl (lv_at hl 2 rfl) ?_
      refine vp_callSi (va_Run.run (sf_runV (b := b0) (As := []) (rest := [.int r1]) ⟨hx, hb, hml, hown, hts⟩ sf_hasL (m_places l dC dI b0 b1 b2 b3 b4 d1 d2 d3 d4 us nu bm tn gm za ss bk _ z hRm ) k_L_66 ⟨sf_blind, va_recv hKm hPm (ci := 3) (q0 := 0) rfl rfl, sf_preU hPm hKm (sf_Dr hD) hN⟩ rfl hl.1 (Nat.le_of_ble_eq_true rfl) ⟨(Nat.le_of_ble_eq_true rfl), (Nat.le_of_ble_eq_true rfl)⟩ ⟨rfl, rfl⟩ ⟨(by show 10 + i + 0 ≤ 600000; omega), (by show 1000000 + 6 * i + 0 ≤ 7302250; omega)⟩ dL_law_434)) (fun r2 e2 => ?_)
      refine lv_icmp_eq (tgt := 442) hx hb dL_law_437 (by decide) (fun _ => ?_) (fun c9 => absurd (by rw [e1, e2]) c9)
      refine W.widen (k := 10 + (i + 5)) (n := 1000000 + 6 * (i + 5)) (by omega) (by omega) ?_
      refine lv_iinc (v := nI (i + 5)) (lv' := [(3, .int (nI (i + 5))), (0, .ref b), (1, .ref a0), (2, .ref b0)]) hx hb dL_law_442 hl (k := 3) rfl (nI_add i 5) (by decide) rfl (fun ls hl => ?_)
      refine lv_goto (tgt := 18) hx hb dL_law_445 (by decide) ?_
      exact ih (i + 5, (LP, gb, md, ct, tb, nm, tk, oc, en, fs, la, g, st, ln, bf, af), (us, nu, bm, tn, gm, za, ss, bk), z) _ _ _ (by dsimp only; omega) ⟨hi5, ⟨cs, fr, hI, hRc⟩, hRm, hbal, hPc, hPm, hD, hS, lv_sub hl [1, 2, 3, 0] rfl⟩
    · refine lv_tableOut (tgt := 442) hx hb dL_law_32 (by decide) (by decide) ?_
      refine W.widen (k := 10 + (i + 5)) (n := 1000000 + 6 * (i + 5)) (by omega) (by omega) ?_
      refine lv_iinc (v := nI (i + 5)) (lv' := [(3, .int (nI (i + 5))), (0, .ref b), (1, .ref a0), (2, .ref b0)]) hx hb dL_law_442 hl (k := 3) rfl (nI_add i 5) (by decide) rfl (fun ls hl => ?_)
      refine lv_goto (tgt := 18) hx hb dL_law_445 (by decide) ?_
      exact ih (i + 5, (LP, gb, md, ct, tb, nm, tk, oc, en, fs, la, g, st, ln, bf, af), (us, nu, bm, tn, gm, za, ss, bk), z) _ _ _ (by dsimp only; omega) ⟨hi5, ⟨cs, fr, hI, hRc⟩, hRm, hbal, hPc, hPm, hD, hS, lv_sub hl [1, 2, 3, 0] rfl⟩
    · refine lv_tableOut (tgt := 442) hx hb dL_law_32 (by decide) (by decide) ?_
      refine W.widen (k := 10 + (i + 5)) (n := 1000000 + 6 * (i + 5)) (by omega) (by omega) ?_
      refine lv_iinc (v := nI (i + 5)) (lv' := [(3, .int (nI (i + 5))), (0, .ref b), (1, .ref a0), (2, .ref b0)]) hx hb dL_law_442 hl (k := 3) rfl (nI_add i 5) (by decide) rfl (fun ls hl => ?_)
      refine lv_goto (tgt := 18) hx hb dL_law_445 (by decide) ?_
      exact ih (i + 5, (LP, gb, md, ct, tb, nm, tk, oc, en, fs, la, g, st, ln, bf, af), (us, nu, bm, tn, gm, za, ss, bk), z) _ _ _ (by dsimp only; omega) ⟨hi5, ⟨cs, fr, hI, hRc⟩, hRm, hbal, hPc, hPm, hD, hS, lv_sub hl [1, 2, 3, 0] rfl⟩
    · refine lv_tableOut (tgt := 442) hx hb dL_law_32 (by decide) (by decide) ?_
      refine W.widen (k := 10 + (i + 5)) (n := 1000000 + 6 * (i + 5)) (by omega) (by omega) ?_
      refine lv_iinc (v := nI (i + 5)) (lv' := [(3, .int (nI (i + 5))), (0, .ref b), (1, .ref a0), (2, .ref b0)]) hx hb dL_law_442 hl (k := 3) rfl (nI_add i 5) (by decide) rfl (fun ls hl => ?_)
      refine lv_goto (tgt := 18) hx hb dL_law_445 (by decide) ?_
      exact ih (i + 5, (LP, gb, md, ct, tb, nm, tk, oc, en, fs, la, g, st, ln, bf, af), (us, nu, bm, tn, gm, za, ss, bk), z) _ _ _ (by dsimp only; omega) ⟨hi5, ⟨cs, fr, hI, hRc⟩, hRm, hbal, hPc, hPm, hD, hS, lv_sub hl [1, 2, 3, 0] rfl⟩
    · refine lv_tableOut (tgt := 442) hx hb dL_law_32 (by decide) (by decide) ?_
      refine W.widen (k := 10 + (i + 5)) (n := 1000000 + 6 * (i + 5)) (by omega) (by omega) ?_
      refine lv_iinc (v := nI (i + 5)) (lv' := [(3, .int (nI (i + 5))), (0, .ref b), (1, .ref a0), (2, .ref b0)]) hx hb dL_law_442 hl (k := 3) rfl (nI_add i 5) (by decide) rfl (fun ls hl => ?_)
      refine lv_goto (tgt := 18) hx hb dL_law_445 (by decide) ?_
      exact ih (i + 5, (LP, gb, md, ct, tb, nm, tk, oc, en, fs, la, g, st, ln, bf, af), (us, nu, bm, tn, gm, za, ss, bk), z) _ _ _ (by dsimp only; omega) ⟨hi5, ⟨cs, fr, hI, hRc⟩, hRm, hbal, hPc, hPm, hD, hS, lv_sub hl [1, 2, 3, 0] rfl⟩
set_option maxHeartbeats 4000000 in
set_option maxRecDepth 100000 in
/-- from the entry, for every script of at most 2560 ints, the law comes to its end with true -/
theorem whole_start {p : Program} {e : Env} {s : State} {m : MethodId} {below : List Frame} {meth : Method} {c : Code} (l : Launch) {b L : Nat} {xs : Nat → Int32} (hL : L ≤ 2560) (C0 : lw_At p s m meth c b L xs) : W p l e room_1 s m #[Value.ref b] below meth c s.heap [] 0 0 (lw_Z below #[Value.ref b] s) (entryFrame m ([Value.ref b] : List Value).toArray 4) := by
  obtain ⟨hx, hb, hr, hml, hown0, hts, hX, hbl, hlocks, hgv⟩ := id C0
  have hown : s.vm.findClass RL = some m.cls := hown0
  have hA : ∀ q : Nat, s.heap.size ≤ q → (fun q : Nat => s.heap.size ≤ q) q := fun _ h => h
  have hN : sf_N s := va_Nw.of rfl (hts _ mn_X0_30)
  have hO : va_AO "ByteShelf$Row" s := va_AO.of (hts _ ao_Row)
  obtain ⟨c0, iS0, hKn0⟩ := u_known (C := RX0) (T := TX0) (N := 5) (n := 5) hts (fun w h => (List.mem_filter.mp (sf_iX0 w h)).1) (hts _ it_X0)
  obtain ⟨c1, iS1, hKn1⟩ := u_known (C := RX1) (T := TX1) (N := 6) (n := 6) hts (fun w h => (List.mem_filter.mp (sf_iX1 w h)).1) (hts _ it_X1)
  obtain ⟨c2, iS2, hKn2⟩ := u_known (C := RX2) (T := TX2) (N := 5) (n := 5) hts (fun w h => (List.mem_filter.mp (sf_iX2 w h)).1) (hts _ it_X2)
  obtain ⟨c3, iS3, hKn3⟩ := u_known (C := RX3) (T := TX3) (N := 8) (n := 8) hts (fun w h => (List.mem_filter.mp (sf_iX3 w h)).1) (hts _ it_X3)
  obtain ⟨dC, dI, hKc⟩ : ∃ (dC : Nat → ClassId) (dI : Nat → Nat → Nat), ∀ (k : Nat) (q : vw_C), vwCl[k]? = some q → u_Kn s q.1 q.2.1 q.2.2 (dC k) (dI k) := by
    refine ⟨fun k => if k = 0 then c0 else if k = 1 then c1 else if k = 2 then c2 else c3, fun k => if k = 0 then iS0 else if k = 1 then iS1 else if k = 2 then iS2 else iS3, ?_⟩
    intro k q hq
    match k, hq with
    | 0, hq => cases hq; exact hKn0
    | 1, hq => cases hq; exact hKn1
    | 2, hq => cases hq; exact hKn2
    | 3, hq => cases hq; exact hKn3
    | k + 4, hq => simp [vwCl] at hq
  have hS : va_S (fun q : Nat => s.heap.size ≤ q) s.heap s.heap [] := va_S.rf
  have hK : va_K (dC, dI) vwCl [] s := ⟨hKc, fun k q h => by simp at h⟩
  have hP : va_P (dC, dI) vwCl [] s.heap := fun k q h => by simp at h
  have hD : va_D (fun q : Nat => s.heap.size ≤ q) [] := ⟨fun i j p q h => by simp at h, fun k q h => by simp at h⟩
  have hl := lv_entry ([.ref b]) (n := 4) (Nat.le_of_ble_eq_true rfl)
  rw [lg_entry_eq]
  generalize (lg_sl ([.ref b]) ++ List.replicate (4 - (lg_sl ([.ref b])).length) Slot.unset).toArray = ls at hl ⊢
  have hl : lv_has ls 4 [(0, .ref b)] := hl
  refine va_new (ci := 2) (fs := [.null, .null, .null, .int 0, .int 0]) (C := RX2) (T := TX2) (N := 5) hx hb hts (fun w h => (List.mem_filter.mp (sf_iX2 w h)).1) tyX2 tyX2_ok hown (hts _ cl_L_7) (hts _ it_X2) (hts _ in_X2) hK hP hD hS hA rfl (fun j hj => by rcases (show j = 0 ∨ j = 1 ∨ j = 2 ∨ j = 3 ∨ j = 4 by omega) with rfl | rfl | rfl | rfl | rfl <;> rfl) (Nat.le_of_ble_eq_true rfl) (Nat.le_of_ble_eq_true rfl) dL_law_0 (fun a0 H hP hD hS => ?_)
  have hP : va_P (dC, dI) vwCl [(a0, .inr (2, [.null, .null, .null, .int 0, .int 0]))] H := hP
  have hD : va_D (fun q : Nat => s.heap.size ≤ q) [(a0, .inr (2, [.null, .null, .null, .int 0, .int 0]))] := hD
  refine W.widen (k := 1) (n := 5) (Nat.le_of_ble_eq_true rfl) (Nat.le_of_ble_eq_true rfl) ?_
  refine lv_dup hx hb dL_law_3 rfl ?_
  have hF := sf_in hD hS hA
  refine va_callv (sf_runI (b := a0) (As := []) (rest := [.ref a0]) ⟨hx, hb, hml, hown, hts⟩ sf_hasL (c_ByteShelf_init l dC dI a0 _) k_L_9 ⟨sf_blindO, sf_preO hP hK hD hN hO⟩ rfl hl.1 (Nat.le_of_ble_eq_true rfl) ⟨(Nat.le_of_ble_eq_true rfl), (Nat.le_of_ble_eq_true rfl)⟩ ⟨rfl, rfl⟩ ⟨(Nat.le_of_ble_eq_true rfl), (Nat.le_of_ble_eq_true rfl)⟩ dL_law_4) hS (fun q _ h => hF q h) hF (fun u t H locs ht hvm hw hB hz1 hk1 hS => ?_)
  obtain ⟨a1, a2, a3, cB, cT⟩ := u
  obtain ⟨hPc, hK1, hD1⟩ := hB
  rw [ht] at hPc
  have hKc2 := va_K.moved hvm.symm hK1
  have hD := hD1.weaken (fun k q _ h => hF q.1 h)
  dsimp only at hPc hKc2 hD
  refine W.widen (k := 4) (n := 420010) (Nat.le_of_ble_eq_true rfl) (Nat.le_of_ble_eq_true rfl) ?_
  refine lv_astore_n (lv' := [(1, .ref a0), (0, .ref b)]) hx hb dL_law_7 rfl hl (by decide) rfl (fun ls hl => ?_)
  refine va_new (ci := 3) (fs := [.null, .int (nI 0), .null, .null, .int (nI 0), .null, .int (nI 0), .int (nI 0)]) (C := RX3) (T := TX3) (N := 8) hx hb hts (fun w h => (List.mem_filter.mp (sf_iX3 w h)).1) tyX3 tyX3_ok hown (hts _ cl_L_10) (hts _ it_X3) (hts _ in_X3) hK hPc hD hS hA rfl (fun j hj => by rcases (show j = 0 ∨ j = 1 ∨ j = 2 ∨ j = 3 ∨ j = 4 ∨ j = 5 ∨ j = 6 ∨ j = 7 by omega) with rfl | rfl | rfl | rfl | rfl | rfl | rfl | rfl <;> rfl) (Nat.le_of_ble_eq_true rfl) (Nat.le_of_ble_eq_true rfl) dL_law_8 (fun b0 H hP hD hS => ?_)
  have hPc := sf_Pl hP
  have hPm := sf_Pr hP
  have hD := sf_Ds hD
  refine W.widen (k := 5) (n := 420018) (Nat.le_of_ble_eq_true rfl) (Nat.le_of_ble_eq_true rfl) ?_
  refine lv_dup hx hb dL_law_11 rfl ?_
  have hF := sf_in (sf_Dl hD) hS hA
  refine va_callv (sf_runI (b := b0) (As := []) (rest := [.ref b0]) ⟨hx, hb, hml, hown, hts⟩ sf_hasL (m_init l dC dI b0 _) k_L_12 ⟨sf_blind, sf_preU hPm hK (sf_Dl hD) hN⟩ rfl hl.1 (Nat.le_of_ble_eq_true rfl) ⟨(Nat.le_of_ble_eq_true rfl), (Nat.le_of_ble_eq_true rfl)⟩ ⟨rfl, rfl⟩ ⟨(Nat.le_of_ble_eq_true rfl), (Nat.le_of_ble_eq_true rfl)⟩ dL_law_12) hS (fun q _ h => hF q h) hF (fun u t H locs ht hvm hw hB hz1 hk1 hS => ?_)
  obtain ⟨b1, b2, b3, b4, d1, d2, d3, d4⟩ := u
  obtain ⟨hPm, hK2, hD2⟩ := hB
  rw [ht] at hPm
  have hKm2 := va_K.moved hvm.symm hK2
  obtain ⟨hPc, hD⟩ := sf_frame hPc hD hk1 hF hD2
  have hD := sf_Ds hD
  dsimp only at hPm hKm2 hD
  refine W.widen (k := 10) (n := 1000000) (Nat.le_of_ble_eq_true rfl) (Nat.le_of_ble_eq_true rfl) ?_
  refine lv_astore_n (lv' := [(2, .ref b0), (1, .ref a0), (0, .ref b)]) hx hb dL_law_15 rfl hl (by decide) rfl (fun ls hl => ?_)
  refine lv_iconst (v := nI 0) hx hb dL_law_16 (by decide) ?_
  refine lv_istore_n (lv' := [(3, .int (nI 0)), (2, .ref b0), (1, .ref a0), (0, .ref b)]) hx hb dL_law_17 rfl hl (by decide) rfl (fun ls hl => ?_)
  exact law_loop hL C0 hKc2 hKm2 _ _ _ _ _ sf_OK_0 mw_R_0 hPc hPm hD hS (lv_sub hl [3, 2, 1, 0] rfl)
end
section
set_option maxHeartbeats 4000000 in
theorem lw_walk (l : Launch) (b : Addr) (xs : List Int32) : MetFree l x (headSpec (Jvm.Cond.code x code maxLocals ret :: tables_1) room_1) (lw_P b xs) (fun _ _ _ _ _ => True) lw_Q := by
  refine MetFree.of_bodyS (code := code) (maxLocals := maxLocals) (ret := ret) (by decide) ?_ ?_
  · intro args s m h hn
    obtain ⟨meth, c, h1, h2, h3, h4, h5, h6, -, -⟩ := Cond.code_spec hn (atoms_spec (ws := Jvm.Cond.code x code maxLocals ret :: tables_1) h _ List.mem_cons_self)
    exact ⟨meth, c, h1, h2, h3, h4, h5, h6⟩
  · intro p e s m args below meth c s₁ B hml0 hP _
    obtain ⟨rfl, hx, hbd, hgv⟩ := hP
    obtain ⟨scr, harrAt, hlist, hof, hsmall⟩ := hx
    obtain ⟨hcb, hkn, -, -⟩ := State.arrayAt?_spec harrAt
    have hown : s.vm.findClass R_law = some m.cls := findClass_of_methodNamed B.named
    have hts0 : ∀ c ∈ (Jvm.Cond.code x code maxLocals ret :: tables_1), c.before #[Value.ref b] s = true := atoms_spec (ws := Jvm.Cond.code x code maxLocals ret :: tables_1) B.pre
    have hts : ∀ w ∈ lw_tbl, w.before #[Value.ref b] s = true := k2_hts_sels lw_privs (fun w hw => hts0 w (List.mem_cons_of_mem _ hw)) lw_privs_ok
    have hml : c.maxLocals = 4 := B.maxLocals_eq (hts0 _ List.mem_cons_self)
    have X₀ : Stand p l e room_1 s m #[Value.ref b] below meth c s₁ [] 0 0 := Stand.of_body B
    have hh0 : s₁.heap = s.heap := by rw [B.state]; rfl
    have hsz : scr.slots.size = xs.length := by rw [← Array.length_toList, hlist, List.length_map]
    have hval : ∀ j : Nat, j < xs.length → scr.slots[j]? = some (.int (xs.getD j 0)) := fun j hj => by
      rw [← Array.getElem?_toList, hlist]
      simp [hj]
    have hbl : b < s.heap.size := (Array.getElem?_eq_some_iff.mp hcb).1
    have hX : va_X b xs.length (fun j => xs.getD j 0) s s.heap := ⟨scr, hcb, hof, hkn, hsz, hval⟩
    have K : W p l e room_1 s m #[Value.ref b] below meth c s₁.heap [] 0 0 (lw_Z below #[Value.ref b] s) (entryFrame m ([Value.ref b] : List Value).toArray 4) := by
      rw [hh0]
      exact whole_start l hbd ⟨B.exec, B.bytes, B.returns, hml, hown, hts, hX, hbl, B.notSynchronized, hgv⟩
    obtain ⟨t, a1, o, b1, b2, b3⟩ := K s₁ rfl X₀
    exact ⟨t, o, a1, b1, b2, b3⟩
theorem lw_pre_spec {args : Array Value} {s : State} (h : (Jvm.Cond.and given_1 narrow_1).before args s = true) (hr : rest_1_c.before args s = true) : ∃ (b : Addr) (xs : List Int32), lw_P b xs args s := by
  have hs := flat_of_before _ h
  have hq := flat_of_before _ hr
  have hc : (Cond.count 1).before args s = true := hs _ (by decide +kernel)
  have harr : (Cond.arrayOf (.arg 0) .int).before args s = true := hs _ (by decide +kernel)
  have hle : (Cond.le (.length (.arg 0)) (.int 2560)).before args s = true := hs _ (by decide +kernel)
  have hlen : (Cond.isInt (.length (.arg 0))).before args s = true := hq _ (by decide +kernel)
  have hall : (Cond.all (.arg 0) (.isInt (.elem (.arg 0) (.index 0)))).before args s = true := hq _ (by decide +kernel)
  obtain ⟨b, xs, hb, hx⟩ := State.ints_of_pre rfl harr hlen hall
  have hsm : xs.length < 2 ^ 31 := hx.choose_spec.2.2.2
  have hev : (Term.length (.arg 0)).eval args s none [] s = some (.int xs.length.toInt32) := hx.length_eval hb
  have hv := Cond.le_ints hev (show (Term.int 2560).eval args s none [] s = some (.int 2560) from rfl)
  have hd : xs.length.toInt32 ≤ 2560 := by
    simpa [Cond.before, Cond.holds, hv] using hle
  have hN : xs.length ≤ 2560 := (Int32.ofNat_le_ofNat hsm (by decide)).mp (show Int32.ofNat xs.length ≤ Int32.ofNat 2560 from hd)
  exact ⟨b, xs, Cond.one_arg hc (show args[0]? = some (.ref b) from hb), hx, hN, h⟩
theorem lw_comes (l : Launch) : Comes l x (Jvm.Cond.code x code maxLocals ret :: tables_1) room_1 (fun tb e args s => Calls_1 tb e args s ∧ rest_1 tb e args s ∧ Pre_1 tb e args s)
    (fun _ _ args s o t => lw_Q args s o t) := by
  intro p e ha hc hk s m args below hf hfit hheap happ hpre
  obtain ⟨b, xs, hP⟩ := lw_pre_spec hpre.2.2 hpre.2.1
  obtain ⟨k, o, h1, h2, h3, hQ⟩ := lw_walk l b xs p e ha hc hk s m args below hf ((Spec.applies_iff_loose hf).mp happ).1 hP trivial
  exact ⟨k, o, h1, h2, h3, hQ⟩
theorem lw_frame {s t : State} {o : Outcome} {args : Array Value} (h : Framed s o t [] 600000 7302250) :
    Framed s o t (fieldLocs frame_1_writes args s ++ arrayLocs frame_1_arrays args s ++ staticLocs frame_1_statics s) 600000 7302250 := h
theorem lw_limb (L : Cond) (hL : ∀ (args : Array Value) (s t : State), L.after args s (.returned (some (.int 1))) t = true) :
    ArmFor flags0 classFile x code maxLocals ret World_1 tables_1 room_1 Calls_1 rest_1 Pre_1
      (fun tb e a s o t => postC L tb e a s o t ∧ Framed s o t (fieldLocs frame_1_writes a s ++ arrayLocs frame_1_arrays a s ++ staticLocs frame_1_statics s) 600000 7302250) := by
  intro l _ _ _ p e ha hc hk s m args below hf hfit hheap happ hpre
  obtain ⟨k, o, h1, h2, h3, rfl, hF⟩ := lw_comes l p e ha hc hk s m args below hf hfit hheap happ hpre
  exact ⟨k, _, h1, h2, h3, hL args s _, lw_frame hF⟩
theorem i_vc : Claimed_1_1 ∧ Claimed_1_2 := ⟨lw_limb limb_1_1 (fun args s t => by simp [limb_1_1, Cond.after, Cond.holds, Cond.value]), lw_limb limb_1_2 (fun args s t => Cond.after_iff.mpr (by
  first | (rw [show limb_1_2 = Cond.eq .result (.int 1) from rfl, Cond.eq_ints (x := 1) (y := 1) rfl rfl]; simp; done) | (simp [limb_1_2, Cond.value, Term.eval]; done)))⟩
end
