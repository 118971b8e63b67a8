section
-- ===== PART A: goes FIRST, ahead of the names: the tables' words, and 'selects' of the private methods out of them =====
/-- a private method of a class that the tables say can be made, by its rows of tables_1 -/
def lw_okq (q : MethodName × Nat) : Prop := (q.1.cls ≠ "java/lang/invoke/MethodHandle" ∧ q.1.cls ≠ "java/lang/invoke/VarHandle") ∧ Cond.instantiable q.1.cls q.2 ∈ tables_1 ∧ Cond.privateMethod q.1 ∈ tables_1 ∧ Cond.instanceMethod q.1 ∈ tables_1
theorem lw_p0 : lw_okq (⟨"EventRows", "failInnermost", "()I"⟩, 9) := ⟨⟨by decide +kernel, by decide +kernel⟩, List.mem_of_getElem? (i := 17) (by decide +kernel), List.mem_of_getElem? (i := 167) (by decide +kernel), List.mem_of_getElem? (i := 168) (by decide +kernel)⟩
theorem lw_p1 : lw_okq (⟨"EventRows$Tree", "plant", "(LEventRows$Block;)V"⟩, 2) := ⟨⟨by decide +kernel, by decide +kernel⟩, List.mem_of_getElem? (i := 52) (by decide +kernel), List.mem_of_getElem? (i := 228) (by decide +kernel), List.mem_of_getElem? (i := 229) (by decide +kernel)⟩
theorem lw_p2 : lw_okq (⟨"EventRows$Tree", "rise", "()V"⟩, 2) := ⟨⟨by decide +kernel, by decide +kernel⟩, List.mem_of_getElem? (i := 52) (by decide +kernel), List.mem_of_getElem? (i := 245) (by decide +kernel), List.mem_of_getElem? (i := 246) (by decide +kernel)⟩
theorem lw_p3 : lw_okq (⟨"EventRows$Block", "topicBits", "(I)J"⟩, 10) := ⟨⟨by decide +kernel, by decide +kernel⟩, List.mem_of_getElem? (i := 83) (by decide +kernel), List.mem_of_getElem? (i := 254) (by decide +kernel), List.mem_of_getElem? (i := 255) (by decide +kernel)⟩
theorem lw_p4 : lw_okq (⟨"EventRows", "keptEventsFrom", "(I)I"⟩, 9) := ⟨⟨by decide +kernel, by decide +kernel⟩, List.mem_of_getElem? (i := 17) (by decide +kernel), List.mem_of_getElem? (i := 269) (by decide +kernel), List.mem_of_getElem? (i := 270) (by decide +kernel)⟩
theorem lw_p5 : lw_okq (⟨"EventRows", "blockAt", "(I)LEventRows$Block;"⟩, 9) := ⟨⟨by decide +kernel, by decide +kernel⟩, List.mem_of_getElem? (i := 17) (by decide +kernel), List.mem_of_getElem? (i := 273) (by decide +kernel), List.mem_of_getElem? (i := 274) (by decide +kernel)⟩
theorem lw_p6 : lw_okq (⟨"EventRows", "moveSubscribersBack", "()V"⟩, 9) := ⟨⟨by decide +kernel, by decide +kernel⟩, List.mem_of_getElem? (i := 17) (by decide +kernel), List.mem_of_getElem? (i := 277) (by decide +kernel), List.mem_of_getElem? (i := 278) (by decide +kernel)⟩
theorem lw_p7 : lw_okq (⟨"EventRows", "subscriberAt", "(I)LEventRows$Subscriber;"⟩, 9) := ⟨⟨by decide +kernel, by decide +kernel⟩, List.mem_of_getElem? (i := 17) (by decide +kernel), List.mem_of_getElem? (i := 281) (by decide +kernel), List.mem_of_getElem? (i := 282) (by decide +kernel)⟩
theorem lw_p8 : lw_okq (⟨"EventRows$Block", "hasTopic", "(II)Z"⟩, 10) := ⟨⟨by decide +kernel, by decide +kernel⟩, List.mem_of_getElem? (i := 83) (by decide +kernel), List.mem_of_getElem? (i := 326) (by decide +kernel), List.mem_of_getElem? (i := 327) (by decide +kernel)⟩
theorem lw_p9 : lw_okq (⟨"EventRows", "firstKeptWith", "(III)I"⟩, 9) := ⟨⟨by decide +kernel, by decide +kernel⟩, List.mem_of_getElem? (i := 17) (by decide +kernel), List.mem_of_getElem? (i := 387) (by decide +kernel), List.mem_of_getElem? (i := 388) (by decide +kernel)⟩
theorem lw_p10 : lw_okq (⟨"java/lang/NullPointerException", "getExtendedNPEMessage", "()Ljava/lang/String;"⟩, 8) := ⟨⟨by decide +kernel, by decide +kernel⟩, List.mem_of_getElem? (i := 398) (by decide +kernel), List.mem_of_getElem? (i := 423) (by decide +kernel), List.mem_of_getElem? (i := 424) (by decide +kernel)⟩
theorem lw_p11 : lw_okq (⟨"java/lang/Throwable", "fillInStackTrace", "(I)Ljava/lang/Throwable;"⟩, 6) := ⟨⟨by decide +kernel, by decide +kernel⟩, List.mem_of_getElem? (i := 433) (by decide +kernel), List.mem_of_getElem? (i := 431) (by decide +kernel), List.mem_of_getElem? (i := 432) (by decide +kernel)⟩
theorem lw_p12 : lw_okq (⟨"EventRows", "neededBlock", "(I)LEventRows$Block;"⟩, 9) := ⟨⟨by decide +kernel, by decide +kernel⟩, List.mem_of_getElem? (i := 17) (by decide +kernel), List.mem_of_getElem? (i := 513) (by decide +kernel), List.mem_of_getElem? (i := 514) (by decide +kernel)⟩
theorem lw_p13 : lw_okq (⟨"EventRowsModel", "left", "()I"⟩, 24) := ⟨⟨by decide +kernel, by decide +kernel⟩, List.mem_of_getElem? (i := 549) (by decide +kernel), List.mem_of_getElem? (i := 640) (by decide +kernel), List.mem_of_getElem? (i := 641) (by decide +kernel)⟩
theorem lw_p14 : lw_okq (⟨"EventRowsModel", "fails", "()I"⟩, 24) := ⟨⟨by decide +kernel, by decide +kernel⟩, List.mem_of_getElem? (i := 549) (by decide +kernel), List.mem_of_getElem? (i := 644) (by decide +kernel), List.mem_of_getElem? (i := 645) (by decide +kernel)⟩
theorem lw_p15 : lw_okq (⟨"EventRowsModel", "over", "()V"⟩, 24) := ⟨⟨by decide +kernel, by decide +kernel⟩, List.mem_of_getElem? (i := 549) (by decide +kernel), List.mem_of_getElem? (i := 648) (by decide +kernel), List.mem_of_getElem? (i := 649) (by decide +kernel)⟩
def lw_privs_1 : List (MethodName × Nat) := [(⟨"EventRows", "failInnermost", "()I"⟩, 9), (⟨"EventRows$Tree", "plant", "(LEventRows$Block;)V"⟩, 2), (⟨"EventRows$Tree", "rise", "()V"⟩, 2), (⟨"EventRows$Block", "topicBits", "(I)J"⟩, 10), (⟨"EventRows", "keptEventsFrom", "(I)I"⟩, 9), (⟨"EventRows", "blockAt", "(I)LEventRows$Block;"⟩, 9), (⟨"EventRows", "moveSubscribersBack", "()V"⟩, 9), (⟨"EventRows", "subscriberAt", "(I)LEventRows$Subscriber;"⟩, 9), (⟨"EventRows$Block", "hasTopic", "(II)Z"⟩, 10), (⟨"EventRows", "firstKeptWith", "(III)I"⟩, 9), (⟨"java/lang/NullPointerException", "getExtendedNPEMessage", "()Ljava/lang/String;"⟩, 8), (⟨"java/lang/Throwable", "fillInStackTrace", "(I)Ljava/lang/Throwable;"⟩, 6), (⟨"EventRows", "neededBlock", "(I)LEventRows$Block;"⟩, 9), (⟨"EventRowsModel", "left", "()I"⟩, 24), (⟨"EventRowsModel", "fails", "()I"⟩, 24), (⟨"EventRowsModel", "over", "()V"⟩, 24)]
theorem lw_r1 : ∀ q ∈ lw_privs_1, lw_okq q := List.forall_mem_cons.mpr ⟨lw_p0, List.forall_mem_cons.mpr ⟨lw_p1, List.forall_mem_cons.mpr ⟨lw_p2, List.forall_mem_cons.mpr ⟨lw_p3, List.forall_mem_cons.mpr ⟨lw_p4, List.forall_mem_cons.mpr ⟨lw_p5, List.forall_mem_cons.mpr ⟨lw_p6, List.forall_mem_cons.mpr ⟨lw_p7, List.forall_mem_cons.mpr ⟨lw_p8, List.forall_mem_cons.mpr ⟨lw_p9, List.forall_mem_cons.mpr ⟨lw_p10, List.forall_mem_cons.mpr ⟨lw_p11, List.forall_mem_cons.mpr ⟨lw_p12, List.forall_mem_cons.mpr ⟨lw_p13, List.forall_mem_cons.mpr ⟨lw_p14, List.forall_mem_cons.mpr ⟨lw_p15, fun _ h => absurd h List.not_mem_nil⟩⟩⟩⟩⟩⟩⟩⟩⟩⟩⟩⟩⟩⟩⟩⟩
theorem lw_p16 : lw_okq (⟨"EventRowsModel", "leaves", "(I)V"⟩, 24) := ⟨⟨by decide +kernel, by decide +kernel⟩, List.mem_of_getElem? (i := 549) (by decide +kernel), List.mem_of_getElem? (i := 677) (by decide +kernel), List.mem_of_getElem? (i := 678) (by decide +kernel)⟩
theorem lw_p17 : lw_okq (⟨"EventRowsModel", "rises", "(I)I"⟩, 24) := ⟨⟨by decide +kernel, by decide +kernel⟩, List.mem_of_getElem? (i := 549) (by decide +kernel), List.mem_of_getElem? (i := 690) (by decide +kernel), List.mem_of_getElem? (i := 691) (by decide +kernel)⟩
theorem lw_p18 : lw_okq (⟨"EventRowsModel", "isBlock", "(I)Z"⟩, 24) := ⟨⟨by decide +kernel, by decide +kernel⟩, List.mem_of_getElem? (i := 549) (by decide +kernel), List.mem_of_getElem? (i := 702) (by decide +kernel), List.mem_of_getElem? (i := 703) (by decide +kernel)⟩
theorem lw_p19 : lw_okq (⟨"EventRowsModel", "topicMany", "(I)I"⟩, 24) := ⟨⟨by decide +kernel, by decide +kernel⟩, List.mem_of_getElem? (i := 549) (by decide +kernel), List.mem_of_getElem? (i := 715) (by decide +kernel), List.mem_of_getElem? (i := 716) (by decide +kernel)⟩
theorem lw_p20 : lw_okq (⟨"EventRowsModel", "has", "(II)Z"⟩, 24) := ⟨⟨by decide +kernel, by decide +kernel⟩, List.mem_of_getElem? (i := 549) (by decide +kernel), List.mem_of_getElem? (i := 739) (by decide +kernel), List.mem_of_getElem? (i := 740) (by decide +kernel)⟩
def lw_privs_2 : List (MethodName × Nat) := [(⟨"EventRowsModel", "leaves", "(I)V"⟩, 24), (⟨"EventRowsModel", "rises", "(I)I"⟩, 24), (⟨"EventRowsModel", "isBlock", "(I)Z"⟩, 24), (⟨"EventRowsModel", "topicMany", "(I)I"⟩, 24), (⟨"EventRowsModel", "has", "(II)Z"⟩, 24)]
theorem lw_r2 : ∀ q ∈ lw_privs_2, lw_okq q := List.forall_mem_cons.mpr ⟨lw_p16, List.forall_mem_cons.mpr ⟨lw_p17, List.forall_mem_cons.mpr ⟨lw_p18, List.forall_mem_cons.mpr ⟨lw_p19, List.forall_mem_cons.mpr ⟨lw_p20, fun _ h => absurd h List.not_mem_nil⟩⟩⟩⟩⟩
def lw_privs : List (MethodName × Nat) := lw_privs_1 ++ (lw_privs_2)
def lw_tbl : List Cond := k2_sels lw_privs ++ tables_1
theorem lw_privs_ok : ∀ q ∈ lw_privs, lw_okq q := by
  show ∀ q ∈ lw_privs_1 ++ (lw_privs_2), lw_okq q
  exact List.forall_mem_append.mpr ⟨lw_r1, lw_r2⟩

/-! ===== BEGIN words of one list among another's, by their places ===== -/
theorem goodIn_r {big : List Cond} (ws : List Cond) (ps : List Nat) (hp : ws = ps.filterMap (fun i => big[i]?)) (h : ws.all goodWord = true) : GoodIn big ws := by
  intro w hw
  have h1 := List.all_eq_true.mp h w hw
  rw [hp] at hw
  obtain ⟨i, -, hi⟩ := List.mem_filterMap.mp hw
  have hm : w ∈ big := by first | exact List.mem_of_getElem? hi | exact List.getElem?_mem hi
  exact ⟨hm, good_of_word h1⟩
theorem goodIn_app {big a b : List Cond} (ha : GoodIn big a) (hb : GoodIn big b) : GoodIn big (a ++ b) := fun w h => (List.mem_append.mp h).elim (ha w) (hb w)
theorem goodIn_ca {big a b : List Cond} {c : Cond} (ha : GoodIn big (c :: a)) (hb : GoodIn big b) : GoodIn big (c :: (a ++ b)) := fun w h => (List.mem_cons.mp h).elim (fun e => ha w (List.mem_cons.mpr (Or.inl e))) (fun h => (List.mem_append.mp h).elim (fun h => ha w (List.mem_cons.mpr (Or.inr h))) (hb w))
theorem goodIn_sub {big ws : List Cond} (hm : ∀ w ∈ ws, w ∈ big) (h : ws.all goodWord = true) : GoodIn big ws := fun w hw => ⟨hm w hw, good_of_word (List.all_eq_true.mp h w hw)⟩
/-! ===== END ===== -/
def RX0 : String := "EventRows$Block"
def TX0 : u_T := fun k => match k with
  | 0 => ("EventRows$Block", "accounts", "[I", true)
  | 1 => ("EventRows$Block", "firstTopics", "[I", true)
  | 2 => ("EventRows$Block", "secondTopics", "[I", true)
  | 3 => ("EventRows$Block", "thirdTopics", "[I", true)
  | 4 => ("EventRows$Block", "values", "[J", true)
  | 5 => ("EventRows$Block", "count", "I", false)
  | 6 => ("EventRows$Block", "kept", "Z", false)
  | 7 => ("EventRows$Block", "firstSerial", "I", false)
  | 8 => ("EventRows$Block", "rootDigest", "J", false)
  | _ => ("EventRows$Block", "filterBits", "J", false)
def tyX0 : Nat → FieldType := fun k => match k with
  | 0 => .array .int
  | 1 => .array .int
  | 2 => .array .int
  | 3 => .array .int
  | 4 => .array .long
  | 5 => .int
  | 6 => .boolean
  | 7 => .int
  | 8 => .long
  | _ => .long
abbrev wsX00 : List Cond := u_ws RX0 TX0 10
theorem nmX0 : ∀ a, a < 10 → ∀ b, b < 10 → a ≠ b → (TX0 a).2.1 ≠ (TX0 b).2.1 := by decide +kernel
theorem tyX0_ok : ∀ k, k < 10 → parseFieldDescriptor (TX0 k).2.2.1 = some (tyX0 k) := by decide +kernel
abbrev cX0_init : ByteArray := prog_2_method_1_code
def yX0_init : MethodName := ⟨RX0, "<init>", "()V"⟩
abbrev cX0_add : ByteArray := prog_2_method_2_code
def yX0_add : MethodName := ⟨RX0, "add", "(IIIIJ)V"⟩
abbrev cX0_clear : ByteArray := prog_2_method_3_code
def yX0_clear : MethodName := ⟨RX0, "clear", "()V"⟩
abbrev cX0_seal : ByteArray := prog_2_method_4_code
def yX0_seal : MethodName := ⟨RX0, "seal", "(IJ)V"⟩
abbrev cX0_topicBits : ByteArray := prog_2_method_5_code
def yX0_topicBits : MethodName := ⟨RX0, "topicBits", "(I)J"⟩
abbrev cX0_hasEvent : ByteArray := prog_2_method_6_code
def yX0_hasEvent : MethodName := ⟨RX0, "hasEvent", "(I)Z"⟩
abbrev cX0_detail : ByteArray := prog_2_method_7_code
def yX0_detail : MethodName := ⟨RX0, "detail", "(II)I"⟩
abbrev cX0_topicOrNone : ByteArray := prog_2_method_8_code
def yX0_topicOrNone : MethodName := ⟨RX0, "topicOrNone", "(I)I"⟩
abbrev cX0_firstWith : ByteArray := prog_2_method_9_code
def yX0_firstWith : MethodName := ⟨RX0, "firstWith", "(II)I"⟩
abbrev cX0_hasTopic : ByteArray := prog_2_method_10_code
def yX0_hasTopic : MethodName := ⟨RX0, "hasTopic", "(II)Z"⟩
abbrev cX0_leaf : ByteArray := prog_2_method_11_code
def yX0_leaf : MethodName := ⟨RX0, "leaf", "(I)J"⟩
def RX1 : String := "EventRows$Calls"
def TX1 : u_T := fun k => match k with
  | 0 => ("EventRows$Calls", "limits", "[I", true)
  | 1 => ("EventRows$Calls", "used", "[I", true)
  | 2 => ("EventRows$Calls", "eventsBefore", "[I", true)
  | 3 => ("EventRows$Calls", "caught", "[Z", true)
  | _ => ("EventRows$Calls", "depth", "I", false)
def tyX1 : Nat → FieldType := fun k => match k with
  | 0 => .array .int
  | 1 => .array .int
  | 2 => .array .int
  | 3 => .array .boolean
  | _ => .int
abbrev wsX10 : List Cond := u_ws RX1 TX1 5
theorem nmX1 : ∀ a, a < 5 → ∀ b, b < 5 → a ≠ b → (TX1 a).2.1 ≠ (TX1 b).2.1 := by decide +kernel
theorem tyX1_ok : ∀ k, k < 5 → parseFieldDescriptor (TX1 k).2.2.1 = some (tyX1 k) := by decide +kernel
abbrev cX1_init : ByteArray := prog_3_method_1_code
def yX1_init : MethodName := ⟨RX1, "<init>", "()V"⟩
abbrev cX1_usedOfInnermost : ByteArray := prog_3_method_2_code
def yX1_usedOfInnermost : MethodName := ⟨RX1, "usedOfInnermost", "()I"⟩
abbrev cX1_leftOfInnermost : ByteArray := prog_3_method_3_code
def yX1_leftOfInnermost : MethodName := ⟨RX1, "leftOfInnermost", "()I"⟩
abbrev cX1_pay : ByteArray := prog_3_method_4_code
def yX1_pay : MethodName := ⟨RX1, "pay", "(I)Z"⟩
abbrev cX1_push : ByteArray := prog_3_method_5_code
def yX1_push : MethodName := ⟨RX1, "push", "(IZI)V"⟩
abbrev cX1_pop : ByteArray := prog_3_method_6_code
def yX1_pop : MethodName := ⟨RX1, "pop", "()I"⟩
abbrev cX1_fail : ByteArray := prog_3_method_7_code
def yX1_fail : MethodName := ⟨RX1, "fail", "(LEventRows$Block;)I"⟩
def RX2 : String := "EventRows$Out"
def TX2 : u_T := fun k => match k with
  | 0 => ("EventRows$Out", "digests", "[J", true)
  | _ => ("EventRows$Out", "count", "I", false)
def tyX2 : Nat → FieldType := fun k => match k with
  | 0 => .array .long
  | _ => .int
abbrev wsX20 : List Cond := u_ws RX2 TX2 2
theorem nmX2 : ∀ a, a < 2 → ∀ b, b < 2 → a ≠ b → (TX2 a).2.1 ≠ (TX2 b).2.1 := by decide +kernel
theorem tyX2_ok : ∀ k, k < 2 → parseFieldDescriptor (TX2 k).2.2.1 = some (tyX2 k) := by decide +kernel
abbrev cX2_init : ByteArray := prog_4_method_1_code
def yX2_init : MethodName := ⟨RX2, "<init>", "()V"⟩
abbrev cX2_add : ByteArray := prog_4_method_2_code
def yX2_add : MethodName := ⟨RX2, "add", "(J)Z"⟩
abbrev cX2_leadsTo : ByteArray := prog_4_method_3_code
def yX2_leadsTo : MethodName := ⟨RX2, "leadsTo", "(JJII)Z"⟩
def RX3 : String := "EventRows$Subscriber"
def TX3 : u_T := fun k => match k with
  | 0 => ("EventRows$Subscriber", "topic", "I", true)
  | 1 => ("EventRows$Subscriber", "block", "I", false)
  | _ => ("EventRows$Subscriber", "number", "I", false)
def tyX3 : Nat → FieldType := fun k => match k with
  | 0 => .int
  | 1 => .int
  | _ => .int
abbrev wsX30 : List Cond := u_ws RX3 TX3 3
theorem nmX3 : ∀ a, a < 3 → ∀ b, b < 3 → a ≠ b → (TX3 a).2.1 ≠ (TX3 b).2.1 := by decide +kernel
theorem tyX3_ok : ∀ k, k < 3 → parseFieldDescriptor (TX3 k).2.2.1 = some (tyX3 k) := by decide +kernel
abbrev cX3_init : ByteArray := prog_5_method_1_code
def yX3_init : MethodName := ⟨RX3, "<init>", "(II)V"⟩
abbrev cX3_moveTo : ByteArray := prog_5_method_2_code
def yX3_moveTo : MethodName := ⟨RX3, "moveTo", "(II)V"⟩
def RX4 : String := "EventRows$Tree"
def TX4 : u_T := fun k => match k with
  | 0 => ("EventRows$Tree", "row", "[J", true)
  | _ => ("EventRows$Tree", "width", "I", false)
def tyX4 : Nat → FieldType := fun k => match k with
  | 0 => .array .long
  | _ => .int
abbrev wsX40 : List Cond := u_ws RX4 TX4 2
theorem nmX4 : ∀ a, a < 2 → ∀ b, b < 2 → a ≠ b → (TX4 a).2.1 ≠ (TX4 b).2.1 := by decide +kernel
theorem tyX4_ok : ∀ k, k < 2 → parseFieldDescriptor (TX4 k).2.2.1 = some (tyX4 k) := by decide +kernel
abbrev cX4_init : ByteArray := prog_6_method_1_code
def yX4_init : MethodName := ⟨RX4, "<init>", "()V"⟩
abbrev cX4_plant : ByteArray := prog_6_method_2_code
def yX4_plant : MethodName := ⟨RX4, "plant", "(LEventRows$Block;)V"⟩
abbrev cX4_rise : ByteArray := prog_6_method_3_code
def yX4_rise : MethodName := ⟨RX4, "rise", "()V"⟩
abbrev cX4_topOf : ByteArray := prog_6_method_4_code
def yX4_topOf : MethodName := ⟨RX4, "topOf", "(LEventRows$Block;)J"⟩
abbrev cX4_pathOf : ByteArray := prog_6_method_5_code
def yX4_pathOf : MethodName := ⟨RX4, "pathOf", "(LEventRows$Block;ILEventRows$Out;)V"⟩
def RX5 : String := "EventRows"
def TX5 : u_T := fun k => match k with
  | 0 => ("EventRows", "calls", "LEventRows$Calls;", true)
  | 1 => ("EventRows", "blocks", "[LEventRows$Block;", true)
  | 2 => ("EventRows", "tree", "LEventRows$Tree;", true)
  | 3 => ("EventRows", "outRow", "LEventRows$Out;", true)
  | 4 => ("EventRows", "subscribers", "[LEventRows$Subscriber;", true)
  | 5 => ("EventRows", "open", "LEventRows$Block;", false)
  | 6 => ("EventRows", "blockCount", "I", false)
  | 7 => ("EventRows", "subscriberCount", "I", false)
  | _ => ("EventRows", "closedEvents", "I", false)
def tyX5 : Nat → FieldType := fun k => match k with
  | 0 => .object "EventRows$Calls"
  | 1 => .array (.object "EventRows$Block")
  | 2 => .object "EventRows$Tree"
  | 3 => .object "EventRows$Out"
  | 4 => .array (.object "EventRows$Subscriber")
  | 5 => .object "EventRows$Block"
  | 6 => .int
  | 7 => .int
  | _ => .int
abbrev wsX50 : List Cond := u_ws RX5 TX5 9
theorem nmX5 : ∀ a, a < 9 → ∀ b, b < 9 → a ≠ b → (TX5 a).2.1 ≠ (TX5 b).2.1 := by decide +kernel
theorem tyX5_ok : ∀ k, k < 9 → parseFieldDescriptor (TX5 k).2.2.1 = some (tyX5 k) := by decide +kernel
abbrev cX5_init : ByteArray := prog_1_method_1_code
def yX5_init : MethodName := ⟨RX5, "<init>", "()V"⟩
abbrev cX5_begin : ByteArray := prog_1_method_2_code
def yX5_begin : MethodName := ⟨RX5, "begin", "(IZ)I"⟩
abbrev cX5_tell : ByteArray := prog_1_method_3_code
def yX5_tell : MethodName := ⟨RX5, "tell", "(IIIIJ)I"⟩
abbrev cX5_end : ByteArray := prog_1_method_4_code
def yX5_end : MethodName := ⟨RX5, "end", "(Z)I"⟩
abbrev cX5_told : ByteArray := prog_1_method_5_code
def yX5_told : MethodName := ⟨RX5, "told", "(I)I"⟩
abbrev cX5_close : ByteArray := prog_1_method_6_code
def yX5_close : MethodName := ⟨RX5, "close", "()I"⟩
abbrev cX5_back : ByteArray := prog_1_method_7_code
def yX5_back : MethodName := ⟨RX5, "back", "(I)I"⟩
abbrev cX5_prune : ByteArray := prog_1_method_8_code
def yX5_prune : MethodName := ⟨RX5, "prune", "(I)I"⟩
abbrev cX5_size : ByteArray := prog_1_method_9_code
def yX5_size : MethodName := ⟨RX5, "size", "(II)I"⟩
abbrev cX5_event : ByteArray := prog_1_method_10_code
def yX5_event : MethodName := ⟨RX5, "event", "(III)I"⟩
abbrev cX5_value : ByteArray := prog_1_method_11_code
def yX5_value : MethodName := ⟨RX5, "value", "(II)J"⟩
abbrev cX5_root : ByteArray := prog_1_method_12_code
def yX5_root : MethodName := ⟨RX5, "root", "(I)J"⟩
abbrev cX5_filter : ByteArray := prog_1_method_13_code
def yX5_filter : MethodName := ⟨RX5, "filter", "(I)J"⟩
abbrev cX5_may : ByteArray := prog_1_method_14_code
def yX5_may : MethodName := ⟨RX5, "may", "(II)I"⟩
abbrev cX5_find : ByteArray := prog_1_method_15_code
def yX5_find : MethodName := ⟨RX5, "find", "(III)I"⟩
abbrev cX5_path : ByteArray := prog_1_method_16_code
def yX5_path : MethodName := ⟨RX5, "path", "(II)I"⟩
abbrev cX5_out : ByteArray := prog_1_method_17_code
def yX5_out : MethodName := ⟨RX5, "out", "(I)J"⟩
abbrev cX5_lay : ByteArray := prog_1_method_18_code
def yX5_lay : MethodName := ⟨RX5, "lay", "(J)I"⟩
abbrev cX5_wipe : ByteArray := prog_1_method_19_code
def yX5_wipe : MethodName := ⟨RX5, "wipe", "()I"⟩
abbrev cX5_proved : ByteArray := prog_1_method_20_code
def yX5_proved : MethodName := ⟨RX5, "proved", "(IIIIIIJ)I"⟩
abbrev cX5_subscribe : ByteArray := prog_1_method_21_code
def yX5_subscribe : MethodName := ⟨RX5, "subscribe", "(II)I"⟩
abbrev cX5_next : ByteArray := prog_1_method_22_code
def yX5_next : MethodName := ⟨RX5, "next", "(I)I"⟩
abbrev cX5_place : ByteArray := prog_1_method_23_code
def yX5_place : MethodName := ⟨RX5, "place", "(I)I"⟩
abbrev cX5_failInnermost : ByteArray := prog_1_method_24_code
def yX5_failInnermost : MethodName := ⟨RX5, "failInnermost", "()I"⟩
abbrev cX5_blockAt : ByteArray := prog_1_method_25_code
def yX5_blockAt : MethodName := ⟨RX5, "blockAt", "(I)LEventRows$Block;"⟩
abbrev cX5_neededBlock : ByteArray := prog_1_method_26_code
def yX5_neededBlock : MethodName := ⟨RX5, "neededBlock", "(I)LEventRows$Block;"⟩
abbrev cX5_keptEventsFrom : ByteArray := prog_1_method_27_code
def yX5_keptEventsFrom : MethodName := ⟨RX5, "keptEventsFrom", "(I)I"⟩
abbrev cX5_firstKeptWith : ByteArray := prog_1_method_28_code
def yX5_firstKeptWith : MethodName := ⟨RX5, "firstKeptWith", "(III)I"⟩
abbrev cX5_subscriberAt : ByteArray := prog_1_method_29_code
def yX5_subscriberAt : MethodName := ⟨RX5, "subscriberAt", "(I)LEventRows$Subscriber;"⟩
abbrev cX5_moveSubscribersBack : ByteArray := prog_1_method_30_code
def yX5_moveSubscribersBack : MethodName := ⟨RX5, "moveSubscribersBack", "()V"⟩
abbrev cX5_isTopic : ByteArray := prog_1_method_31_code
def yX5_isTopic : MethodName := ⟨RX5, "isTopic", "(I)Z"⟩
abbrev cX5_isTopicOrNone : ByteArray := prog_1_method_32_code
def yX5_isTopicOrNone : MethodName := ⟨RX5, "isTopicOrNone", "(I)Z"⟩
abbrev cX5_isEvent : ByteArray := prog_1_method_33_code
def yX5_isEvent : MethodName := ⟨RX5, "isEvent", "(IIII)Z"⟩
abbrev cX5_topicCount : ByteArray := prog_1_method_34_code
def yX5_topicCount : MethodName := ⟨RX5, "topicCount", "(II)I"⟩
abbrev cX5_bitsOf : ByteArray := prog_1_method_35_code
def yX5_bitsOf : MethodName := ⟨RX5, "bitsOf", "(I)J"⟩
abbrev cX5_mix : ByteArray := prog_1_method_36_code
def yX5_mix : MethodName := ⟨RX5, "mix", "(JJ)J"⟩
abbrev cX5_leafOf : ByteArray := prog_1_method_37_code
def yX5_leafOf : MethodName := ⟨RX5, "leafOf", "(IIIIJI)J"⟩
def RX6 : String := "EventRowsModel"
def TX6 : u_T := fun k => match k with
  | 0 => ("EventRowsModel", "thrown", "I", false)
  | 1 => ("EventRowsModel", "account", "[I", true)
  | 2 => ("EventRowsModel", "topics", "[I", true)
  | 3 => ("EventRowsModel", "value", "[J", true)
  | 4 => ("EventRowsModel", "serial", "[I", true)
  | 5 => ("EventRowsModel", "size", "[I", true)
  | 6 => ("EventRowsModel", "pruned", "[Z", true)
  | 7 => ("EventRowsModel", "root", "[J", true)
  | 8 => ("EventRowsModel", "filter", "[J", true)
  | 9 => ("EventRowsModel", "blocks", "I", false)
  | 10 => ("EventRowsModel", "closed", "I", false)
  | 11 => ("EventRowsModel", "open", "I", false)
  | 12 => ("EventRowsModel", "depth", "I", false)
  | 13 => ("EventRowsModel", "limit", "[I", true)
  | 14 => ("EventRowsModel", "used", "[I", true)
  | 15 => ("EventRowsModel", "caught", "[Z", true)
  | 16 => ("EventRowsModel", "begun", "[I", true)
  | 17 => ("EventRowsModel", "out", "[J", true)
  | 18 => ("EventRowsModel", "outSize", "I", false)
  | 19 => ("EventRowsModel", "subscribers", "I", false)
  | 20 => ("EventRowsModel", "topicOf", "[I", true)
  | 21 => ("EventRowsModel", "placeBlock", "[I", true)
  | 22 => ("EventRowsModel", "placeAt", "[I", true)
  | _ => ("EventRowsModel", "level", "[J", true)
def tyX6 : Nat → FieldType := fun k => match k with
  | 0 => .int
  | 1 => .array .int
  | 2 => .array .int
  | 3 => .array .long
  | 4 => .array .int
  | 5 => .array .int
  | 6 => .array .boolean
  | 7 => .array .long
  | 8 => .array .long
  | 9 => .int
  | 10 => .int
  | 11 => .int
  | 12 => .int
  | 13 => .array .int
  | 14 => .array .int
  | 15 => .array .boolean
  | 16 => .array .int
  | 17 => .array .long
  | 18 => .int
  | 19 => .int
  | 20 => .array .int
  | 21 => .array .int
  | 22 => .array .int
  | _ => .array .long
abbrev wsX60 : List Cond := u_ws RX6 TX6 24
theorem nmX6 : ∀ a, a < 24 → ∀ b, b < 24 → a ≠ b → (TX6 a).2.1 ≠ (TX6 b).2.1 := by decide +kernel
theorem tyX6_ok : ∀ k, k < 24 → parseFieldDescriptor (TX6 k).2.2.1 = some (tyX6 k) := by decide +kernel
abbrev cX6_init : ByteArray := prog_8_method_1_code
def yX6_init : MethodName := ⟨RX6, "<init>", "()V"⟩
abbrev cX6_thrown : ByteArray := prog_8_method_2_code
def yX6_thrown : MethodName := ⟨RX6, "thrown", "()I"⟩
abbrev cX6_in : ByteArray := prog_8_method_3_code
def yX6_in : MethodName := ⟨RX6, "in", "(JJJ)Z"⟩
abbrev cX6_isBlock : ByteArray := prog_8_method_4_code
def yX6_isBlock : MethodName := ⟨RX6, "isBlock", "(I)Z"⟩
abbrev cX6_left : ByteArray := prog_8_method_5_code
def yX6_left : MethodName := ⟨RX6, "left", "()I"⟩
abbrev cX6_over : ByteArray := prog_8_method_6_code
def yX6_over : MethodName := ⟨RX6, "over", "()V"⟩
abbrev cX6_fails : ByteArray := prog_8_method_7_code
def yX6_fails : MethodName := ⟨RX6, "fails", "()I"⟩
abbrev cX6_begin : ByteArray := prog_8_method_8_code
def yX6_begin : MethodName := ⟨RX6, "begin", "(IZ)I"⟩
abbrev cX6_isEvent : ByteArray := prog_8_method_9_code
def yX6_isEvent : MethodName := ⟨RX6, "isEvent", "(IIII)Z"⟩
abbrev cX6_tell : ByteArray := prog_8_method_10_code
def yX6_tell : MethodName := ⟨RX6, "tell", "(IIIIJ)I"⟩
abbrev cX6_end : ByteArray := prog_8_method_11_code
def yX6_end : MethodName := ⟨RX6, "end", "(Z)I"⟩
abbrev cX6_told : ByteArray := prog_8_method_12_code
def yX6_told : MethodName := ⟨RX6, "told", "(I)I"⟩
abbrev cX6_mix : ByteArray := prog_8_method_13_code
def yX6_mix : MethodName := ⟨RX6, "mix", "(JJ)J"⟩
abbrev cX6_leaf : ByteArray := prog_8_method_14_code
def yX6_leaf : MethodName := ⟨RX6, "leaf", "(IIIIJI)J"⟩
abbrev cX6_leaves : ByteArray := prog_8_method_15_code
def yX6_leaves : MethodName := ⟨RX6, "leaves", "(I)V"⟩
abbrev cX6_rises : ByteArray := prog_8_method_16_code
def yX6_rises : MethodName := ⟨RX6, "rises", "(I)I"⟩
abbrev cX6_bitsOf : ByteArray := prog_8_method_17_code
def yX6_bitsOf : MethodName := ⟨RX6, "bitsOf", "(I)J"⟩
abbrev cX6_close : ByteArray := prog_8_method_18_code
def yX6_close : MethodName := ⟨RX6, "close", "()I"⟩
abbrev cX6_back : ByteArray := prog_8_method_19_code
def yX6_back : MethodName := ⟨RX6, "back", "(I)I"⟩
abbrev cX6_prune : ByteArray := prog_8_method_20_code
def yX6_prune : MethodName := ⟨RX6, "prune", "(I)I"⟩
abbrev cX6_size : ByteArray := prog_8_method_21_code
def yX6_size : MethodName := ⟨RX6, "size", "(II)I"⟩
abbrev cX6_topicMany : ByteArray := prog_8_method_22_code
def yX6_topicMany : MethodName := ⟨RX6, "topicMany", "(I)I"⟩
abbrev cX6_event : ByteArray := prog_8_method_23_code
def yX6_event : MethodName := ⟨RX6, "event", "(III)I"⟩
abbrev cX6_value : ByteArray := prog_8_method_24_code
def yX6_value : MethodName := ⟨RX6, "value", "(II)J"⟩
abbrev cX6_root : ByteArray := prog_8_method_25_code
def yX6_root : MethodName := ⟨RX6, "root", "(I)J"⟩
abbrev cX6_filter : ByteArray := prog_8_method_26_code
def yX6_filter : MethodName := ⟨RX6, "filter", "(I)J"⟩
abbrev cX6_may : ByteArray := prog_8_method_27_code
def yX6_may : MethodName := ⟨RX6, "may", "(II)I"⟩
abbrev cX6_has : ByteArray := prog_8_method_28_code
def yX6_has : MethodName := ⟨RX6, "has", "(II)Z"⟩
abbrev cX6_find : ByteArray := prog_8_method_29_code
def yX6_find : MethodName := ⟨RX6, "find", "(III)I"⟩
abbrev cX6_path : ByteArray := prog_8_method_30_code
def yX6_path : MethodName := ⟨RX6, "path", "(II)I"⟩
abbrev cX6_out : ByteArray := prog_8_method_31_code
def yX6_out : MethodName := ⟨RX6, "out", "(I)J"⟩
abbrev cX6_lay : ByteArray := prog_8_method_32_code
def yX6_lay : MethodName := ⟨RX6, "lay", "(J)I"⟩
abbrev cX6_wipe : ByteArray := prog_8_method_33_code
def yX6_wipe : MethodName := ⟨RX6, "wipe", "()I"⟩
abbrev cX6_proved : ByteArray := prog_8_method_34_code
def yX6_proved : MethodName := ⟨RX6, "proved", "(IIIIIIJ)I"⟩
abbrev cX6_subscribe : ByteArray := prog_8_method_35_code
def yX6_subscribe : MethodName := ⟨RX6, "subscribe", "(II)I"⟩
abbrev cX6_next : ByteArray := prog_8_method_36_code
def yX6_next : MethodName := ⟨RX6, "next", "(I)I"⟩
abbrev cX6_place : ByteArray := prog_8_method_37_code
def yX6_place : MethodName := ⟨RX6, "place", "(I)I"⟩
def RJx00060 : String := "java/lang/ArrayIndexOutOfBoundsException"
def TJx00060 : u_T := fun k => match k with
  | 0 => ("java/lang/Throwable", "backtrace", "Ljava/lang/Object;", false)
  | 1 => ("java/lang/Throwable", "detailMessage", "Ljava/lang/String;", false)
  | 2 => ("java/lang/Throwable", "cause", "Ljava/lang/Throwable;", false)
  | 3 => ("java/lang/Throwable", "stackTrace", "[Ljava/lang/StackTraceElement;", false)
  | 4 => ("java/lang/Throwable", "depth", "I", false)
  | _ => ("java/lang/Throwable", "suppressedExceptions", "Ljava/util/List;", false)
def tyJx00060 : Nat → FieldType := fun k => match k with
  | 0 => .object "java/lang/Object"
  | 1 => .object "java/lang/String"
  | 2 => .object "java/lang/Throwable"
  | 3 => .array (.object "java/lang/StackTraceElement")
  | 4 => .int
  | _ => .object "java/util/List"
abbrev wsJx000600 : List Cond := u_ws RJx00060 TJx00060 6
theorem nmJx00060 : ∀ a, a < 6 → ∀ b, b < 6 → a ≠ b → (TJx00060 a).2.1 ≠ (TJx00060 b).2.1 := by decide +kernel
theorem tyJx00060_ok : ∀ k, k < 6 → parseFieldDescriptor (TJx00060 k).2.2.1 = some (tyJx00060 k) := by decide +kernel
abbrev cJx00060_init_a7421 : ByteArray := prog_9_method_2_code
def yJx00060_init_a7421 : MethodName := ⟨RJx00060, "<init>", "(Ljava/lang/String;)V"⟩
def RJ9 : String := "java/lang/Math"
def TJ9 : u_T := fun k => match k with
  | _ => ("", "", "", false)
def tyJ9 : Nat → FieldType := fun k => match k with
  | _ => .int
abbrev wsJ90 : List Cond := u_ws RJ9 TJ9 0
theorem nmJ9 : ∀ a, a < 0 → ∀ b, b < 0 → a ≠ b → (TJ9 a).2.1 ≠ (TJ9 b).2.1 := by decide +kernel
theorem tyJ9_ok : ∀ k, k < 0 → parseFieldDescriptor (TJ9 k).2.2.1 = some (tyJ9 k) := by decide +kernel
abbrev cJ9_min_7cf53 : ByteArray := prog_12_method_69_code
def yJ9_min_7cf53 : MethodName := ⟨RJ9, "min", "(II)I"⟩
def RJx5d777 : String := "java/lang/NullPointerException"
def TJx5d777 : u_T := fun k => match k with
  | 0 => ("java/lang/Throwable", "backtrace", "Ljava/lang/Object;", false)
  | 1 => ("java/lang/Throwable", "detailMessage", "Ljava/lang/String;", false)
  | 2 => ("java/lang/Throwable", "cause", "Ljava/lang/Throwable;", false)
  | 3 => ("java/lang/Throwable", "stackTrace", "[Ljava/lang/StackTraceElement;", false)
  | 4 => ("java/lang/Throwable", "depth", "I", false)
  | 5 => ("java/lang/Throwable", "suppressedExceptions", "Ljava/util/List;", false)
  | 6 => ("java/lang/NullPointerException", "extendedMessageState", "I", false)
  | _ => ("java/lang/NullPointerException", "extendedMessage", "Ljava/lang/String;", false)
def tyJx5d777 : Nat → FieldType := fun k => match k with
  | 0 => .object "java/lang/Object"
  | 1 => .object "java/lang/String"
  | 2 => .object "java/lang/Throwable"
  | 3 => .array (.object "java/lang/StackTraceElement")
  | 4 => .int
  | 5 => .object "java/util/List"
  | 6 => .int
  | _ => .object "java/lang/String"
abbrev wsJx5d7770 : List Cond := u_ws RJx5d777 TJx5d777 8
theorem nmJx5d777 : ∀ a, a < 8 → ∀ b, b < 8 → a ≠ b → (TJx5d777 a).2.1 ≠ (TJx5d777 b).2.1 := by decide +kernel
theorem tyJx5d777_ok : ∀ k, k < 8 → parseFieldDescriptor (TJx5d777 k).2.2.1 = some (tyJx5d777 k) := by decide +kernel
abbrev cJx5d777_init_da8c8 : ByteArray := prog_13_method_1_code
def yJx5d777_init_da8c8 : MethodName := ⟨RJx5d777, "<init>", "()V"⟩
abbrev cJx5d777_init_a7421 : ByteArray := prog_13_method_2_code
def yJx5d777_init_a7421 : MethodName := ⟨RJx5d777, "<init>", "(Ljava/lang/String;)V"⟩
abbrev cJx5d777_fillInStackTrace_cddbd : ByteArray := prog_13_method_3_code
def yJx5d777_fillInStackTrace_cddbd : MethodName := ⟨RJx5d777, "fillInStackTrace", "()Ljava/lang/Throwable;"⟩
def RJ0 : String := "java/lang/String"
def TJ0 : u_T := fun k => match k with
  | 0 => ("java/lang/String", "value", "[B", true)
  | _ => ("java/lang/String", "coder", "B", true)
def tyJ0 : Nat → FieldType := fun k => match k with
  | 0 => .array .byte
  | _ => .byte
abbrev wsJ00 : List Cond := u_ws RJ0 TJ0 2
theorem nmJ0 : ∀ a, a < 2 → ∀ b, b < 2 → a ≠ b → (TJ0 a).2.1 ≠ (TJ0 b).2.1 := by decide +kernel
theorem tyJ0_ok : ∀ k, k < 2 → parseFieldDescriptor (TJ0 k).2.2.1 = some (tyJ0 k) := by decide +kernel
def RL : String := "EventRowsLaw"
abbrev cL_value : ByteArray := method_3_code
def yL_value : MethodName := ⟨RL, "value", "(LEventRows;II[J)I"⟩
abbrev cL_root : ByteArray := method_4_code
def yL_root : MethodName := ⟨RL, "root", "(LEventRows;I[J)I"⟩
abbrev cL_filter : ByteArray := method_5_code
def yL_filter : MethodName := ⟨RL, "filter", "(LEventRows;I[J)I"⟩
abbrev cL_out : ByteArray := method_6_code
def yL_out : MethodName := ⟨RL, "out", "(LEventRows;I[J)I"⟩
abbrev cL_law : ByteArray := code
def yL_law : MethodName := ⟨RL, "law", "([I)Z"⟩
abbrev vwCl : List vw_C := [(RJ0, TJ0, 2), (RJx00060, TJx00060, 6), (RJx5d777, TJx5d777, 8), (RX0, TX0, 10), (RX1, TX1, 5), (RX2, TX2, 2), (RX3, TX3, 3), (RX4, TX4, 2), (RX5, TX5, 9), (RX6, TX6, 24)]
end
section
/-- the words of all methods but their own code -/
def G0_0 : List Cond := [Cond.classLink RL 8 RX5, Cond.instantiable RX5 9, Cond.initialized RX5, Cond.classLink RL 28 RX6, Cond.instantiable RX6 24, Cond.initialized RX6, Cond.arrayClass .long, Cond.constantLong RL 36 (4294967295), Cond.methodLink RL 27 yX5_init, Cond.instanceMethod yX5_init, Cond.code yX5_init cX5_init 1 none, Cond.methodLink RX5 1 objectInit, Cond.instanceMethod objectInit, Cond.code objectInit ⟨#[0xb1]⟩ 1 none, Cond.classLink RX5 7 RX1, Cond.instantiable RX1 5, Cond.initialized RX1, Cond.fieldLink RX5 10 "EventRows" "calls" "LEventRows$Calls;", Cond.classLink RX5 16 RX0, Cond.fieldLink RX5 18 "EventRows" "blocks" "[LEventRows$Block;", Cond.classLink RX5 22 RX4, Cond.instantiable RX4 2, Cond.initialized RX4, Cond.fieldLink RX5 25 "EventRows" "tree" "LEventRows$Tree;", Cond.classLink RX5 29 RX2, Cond.instantiable RX2 2, Cond.initialized RX2, Cond.fieldLink RX5 32 "EventRows" "outRow" "LEventRows$Out;", Cond.classLink RX5 36 RX3, Cond.fieldLink RX5 38 "EventRows" "subscribers" "[LEventRows$Subscriber;", Cond.instantiable RX0 10, Cond.initialized RX0, Cond.fieldLink RX5 43 "EventRows" "open" "LEventRows$Block;", Cond.instanceMethod yX1_init, Cond.code yX1_init cX1_init 1 none, Cond.methodLink RX1 3 objectInit, Cond.arrayClass .int, Cond.fieldLink RX1 9 "EventRows$Calls" "limits" "[I", Cond.fieldLink RX1 15 "EventRows$Calls" "used" "[I", Cond.fieldLink RX1 18 "EventRows$Calls" "eventsBefore" "[I"]
def G0_1 : List Cond := [Cond.arrayClass .boolean, Cond.fieldLink RX1 21 "EventRows$Calls" "caught" "[Z", Cond.instanceMethod yX4_init, Cond.code yX4_init cX4_init 1 none, Cond.methodLink RX4 3 objectInit, Cond.fieldLink RX4 9 "EventRows$Tree" "row" "[J", Cond.instanceMethod yX2_init, Cond.code yX2_init cX2_init 1 none, Cond.methodLink RX2 3 objectInit, Cond.fieldLink RX2 9 "EventRows$Out" "digests" "[J", Cond.instanceMethod yX0_init, Cond.code yX0_init cX0_init 1 none, Cond.methodLink RX0 3 objectInit, Cond.fieldLink RX0 9 "EventRows$Block" "accounts" "[I", Cond.fieldLink RX0 15 "EventRows$Block" "firstTopics" "[I", Cond.fieldLink RX0 18 "EventRows$Block" "secondTopics" "[I", Cond.fieldLink RX0 21 "EventRows$Block" "thirdTopics" "[I", Cond.fieldLink RX0 24 "EventRows$Block" "values" "[J", Cond.fieldLink RX0 28 "EventRows$Block" "kept" "Z", Cond.methodLink RL 30 yX6_init, Cond.instanceMethod yX6_init, Cond.code yX6_init cX6_init 1 none, Cond.methodLink RX6 1 objectInit, Cond.fieldLink RX6 7 "EventRowsModel" "account" "[I", Cond.fieldLink RX6 13 "EventRowsModel" "topics" "[I", Cond.fieldLink RX6 16 "EventRowsModel" "value" "[J", Cond.fieldLink RX6 20 "EventRowsModel" "serial" "[I", Cond.fieldLink RX6 23 "EventRowsModel" "size" "[I", Cond.fieldLink RX6 26 "EventRowsModel" "pruned" "[Z", Cond.fieldLink RX6 30 "EventRowsModel" "root" "[J", Cond.fieldLink RX6 33 "EventRowsModel" "filter" "[J", Cond.fieldLink RX6 36 "EventRowsModel" "limit" "[I", Cond.fieldLink RX6 39 "EventRowsModel" "used" "[I", Cond.fieldLink RX6 42 "EventRowsModel" "caught" "[Z", Cond.fieldLink RX6 45 "EventRowsModel" "begun" "[I", Cond.fieldLink RX6 48 "EventRowsModel" "out" "[J", Cond.fieldLink RX6 51 "EventRowsModel" "topicOf" "[I", Cond.fieldLink RX6 54 "EventRowsModel" "placeBlock" "[I", Cond.fieldLink RX6 57 "EventRowsModel" "placeAt" "[I", Cond.fieldLink RX6 60 "EventRowsModel" "level" "[J"]
def G0_2 : List Cond := [Cond.methodLink RL 31 yX5_begin, Cond.instanceMethod yX5_begin, Cond.selects RX5 yX5_begin yX5_begin, Cond.code yX5_begin cX5_begin 3 (some .int), Cond.fieldLink RX5 47 "EventRows$Calls" "depth" "I", Cond.fieldLink RX5 59 "EventRows$Block" "count" "I", Cond.methodLink RX5 51 yX1_pay, Cond.instanceMethod yX1_pay, Cond.selects RX1 yX1_pay yX1_pay, Cond.code yX1_pay cX1_pay 2 (some .boolean), Cond.fieldLink RX1 25 "EventRows$Calls" "depth" "I", Cond.methodLink RX1 29 yX1_leftOfInnermost, Cond.instanceMethod yX1_leftOfInnermost, Cond.selects RX1 yX1_leftOfInnermost yX1_leftOfInnermost, Cond.code yX1_leftOfInnermost cX1_leftOfInnermost 1 (some .int), Cond.methodLink RX5 55 yX5_failInnermost, Cond.instanceMethod yX5_failInnermost, Cond.selects RX5 yX5_failInnermost yX5_failInnermost, Cond.code yX5_failInnermost cX5_failInnermost 1 (some .int), Cond.methodLink RX5 211 yX1_fail, Cond.instanceMethod yX1_fail, Cond.selects RX1 yX1_fail yX1_fail, Cond.code yX1_fail cX1_fail 5 (some .int), Cond.fieldLink RX1 39 "EventRows$Block" "count" "I", Cond.methodLink RX1 44 yX1_pop, Cond.instanceMethod yX1_pop, Cond.selects RX1 yX1_pop yX1_pop, Cond.code yX1_pop cX1_pop 2 (some .int), Cond.methodLink RX5 62 yX1_push, Cond.instanceMethod yX1_push, Cond.selects RX1 yX1_push yX1_push, Cond.code yX1_push cX1_push 4 none, Cond.methodLink RX1 33 Lib.Math.min.name, Cond.static Lib.Math.min.name, Cond.initialized "java/lang/Math", Cond.code Lib.Math.min.name Lib.Math.min.code 2 (some .int), Cond.methodLink RL 35 yX6_begin, Cond.instanceMethod yX6_begin, Cond.selects RX6 yX6_begin yX6_begin, Cond.code yX6_begin cX6_begin 4 (some .int)]
def G0_3 : List Cond := [Cond.constantLong RX6 83 (10000), Cond.fieldLink RX6 74 "EventRowsModel" "depth" "I", Cond.fieldLink RX6 77 "EventRowsModel" "open" "I", Cond.methodLink RX6 70 yX6_in, Cond.static yX6_in, Cond.code yX6_in cX6_in 6 (some .boolean), Cond.methodLink RX6 85 yX6_left, Cond.instanceMethod yX6_left, Cond.selects RX6 yX6_left yX6_left, Cond.code yX6_left cX6_left 1 (some .int), Cond.methodLink RX6 89 yX6_fails, Cond.instanceMethod yX6_fails, Cond.selects RX6 yX6_fails yX6_fails, Cond.code yX6_fails cX6_fails 3 (some .int), Cond.methodLink RX6 80 yX6_over, Cond.instanceMethod yX6_over, Cond.selects RX6 yX6_over yX6_over, Cond.code yX6_over cX6_over 1 none, Cond.methodLink RL 38 yX5_tell, Cond.instanceMethod yX5_tell, Cond.selects RX5 yX5_tell yX5_tell, Cond.code yX5_tell cX5_tell 7 (some .int), Cond.methodLink RX5 66 yX5_isEvent, Cond.static yX5_isEvent, Cond.code yX5_isEvent cX5_isEvent 4 (some .boolean), Cond.methodLink RX5 154 yX5_isTopic, Cond.static yX5_isTopic, Cond.code yX5_isTopic cX5_isTopic 1 (some .boolean), Cond.methodLink RX5 185 yX5_isTopicOrNone, Cond.static yX5_isTopicOrNone, Cond.code yX5_isTopicOrNone cX5_isTopicOrNone 1 (some .boolean), Cond.methodLink RX5 70 yX5_topicCount, Cond.static yX5_topicCount, Cond.code yX5_topicCount cX5_topicCount 2 (some .int), Cond.methodLink RX5 74 yX0_add, Cond.instanceMethod yX0_add, Cond.selects RX0 yX0_add yX0_add, Cond.code yX0_add cX0_add 7 none, Cond.fieldLink RX0 32 "EventRows$Block" "count" "I", Cond.methodLink RL 42 yX6_tell]
def G0_4 : List Cond := [Cond.instanceMethod yX6_tell, Cond.selects RX6 yX6_tell yX6_tell, Cond.code yX6_tell cX6_tell 9 (some .int), Cond.fieldLink RX6 102 "EventRowsModel" "closed" "I", Cond.methodLink RX6 98 yX6_isEvent, Cond.static yX6_isEvent, Cond.code yX6_isEvent cX6_isEvent 4 (some .boolean), Cond.constantLong RX6 92 (9), Cond.constantLong RX6 94 (999), Cond.constantLong RX6 96 (-1), Cond.methodLink RL 43 yX5_end, Cond.instanceMethod yX5_end, Cond.selects RX5 yX5_end yX5_end, Cond.code yX5_end cX5_end 2 (some .int), Cond.methodLink RX5 78 yX1_pop, Cond.methodLink RL 47 yX6_end, Cond.instanceMethod yX6_end, Cond.selects RX6 yX6_end yX6_end, Cond.code yX6_end cX6_end 3 (some .int), Cond.methodLink RL 48 yX5_told, Cond.instanceMethod yX5_told, Cond.selects RX5 yX5_told yX5_told, Cond.code yX5_told cX5_told 2 (some .int), Cond.fieldLink RX5 87 "EventRows" "closedEvents" "I", Cond.fieldLink RX5 90 "EventRows" "blockCount" "I", Cond.fieldLink RX5 93 "EventRows" "subscriberCount" "I", Cond.methodLink RX5 81 yX1_usedOfInnermost, Cond.instanceMethod yX1_usedOfInnermost, Cond.selects RX1 yX1_usedOfInnermost yX1_usedOfInnermost, Cond.code yX1_usedOfInnermost cX1_usedOfInnermost 1 (some .int), Cond.methodLink RX5 84 yX1_leftOfInnermost, Cond.methodLink RL 52 yX6_told, Cond.instanceMethod yX6_told, Cond.selects RX6 yX6_told yX6_told, Cond.code yX6_told cX6_told 2 (some .int), Cond.fieldLink RX6 67 "EventRowsModel" "blocks" "I", Cond.fieldLink RX6 105 "EventRowsModel" "subscribers" "I", Cond.methodLink RL 53 yX5_close, Cond.instanceMethod yX5_close, Cond.selects RX5 yX5_close yX5_close]
def G0_5 : List Cond := [Cond.code yX5_close cX5_close 2 (some .int), Cond.methodLink RX5 96 yX4_topOf, Cond.instanceMethod yX4_topOf, Cond.selects RX4 yX4_topOf yX4_topOf, Cond.code yX4_topOf cX4_topOf 3 (some .long), Cond.fieldLink RX4 21 "EventRows$Tree" "width" "I", Cond.methodLink RX4 32 yX4_plant, Cond.instanceMethod yX4_plant, Cond.selects RX4 yX4_plant yX4_plant, Cond.code yX4_plant cX4_plant 3 none, Cond.fieldLink RX4 15 "EventRows$Block" "count" "I", Cond.methodLink RX4 24 yX0_leaf, Cond.instanceMethod yX0_leaf, Cond.selects RX0 yX0_leaf yX0_leaf, Cond.code yX0_leaf cX0_leaf 2 (some .long), Cond.static yX5_leafOf, Cond.code yX5_leafOf cX5_leafOf 9 (some .long), Cond.methodLink RX5 223 yX5_mix, Cond.static yX5_mix, Cond.code yX5_mix cX5_mix 6 (some .long), Cond.constantLong RX5 217 (31), Cond.constantLong RX5 219 (7), Cond.constantLong RX5 221 (-7046029254386353131), Cond.methodLink RX4 36 yX4_rise, Cond.instanceMethod yX4_rise, Cond.selects RX4 yX4_rise yX4_rise, Cond.code yX4_rise cX4_rise 3 none, Cond.methodLink RX5 100 yX0_seal, Cond.instanceMethod yX0_seal, Cond.selects RX0 yX0_seal yX0_seal, Cond.code yX0_seal cX0_seal 5 none, Cond.fieldLink RX0 36 "EventRows$Block" "firstSerial" "I", Cond.fieldLink RX0 39 "EventRows$Block" "rootDigest" "J", Cond.fieldLink RX0 43 "EventRows$Block" "filterBits" "J", Cond.methodLink RX0 46 yX0_topicBits, Cond.instanceMethod yX0_topicBits, Cond.selects RX0 yX0_topicBits yX0_topicBits, Cond.code yX0_topicBits cX0_topicBits 4 (some .long), Cond.static yX5_bitsOf, Cond.code yX5_bitsOf cX5_bitsOf 1 (some .long)]
def G0_6 : List Cond := [Cond.methodLink RX5 104 yX0_clear, Cond.instanceMethod yX0_clear, Cond.selects RX0 yX0_clear yX0_clear, Cond.code yX0_clear cX0_clear 1 none, Cond.methodLink RL 57 yX6_close, Cond.instanceMethod yX6_close, Cond.selects RX6 yX6_close yX6_close, Cond.code yX6_close cX6_close 7 (some .int), Cond.methodLink RX6 122 yX6_bitsOf, Cond.static yX6_bitsOf, Cond.code yX6_bitsOf cX6_bitsOf 1 (some .long), Cond.methodLink RX6 126 yX6_leaves, Cond.instanceMethod yX6_leaves, Cond.selects RX6 yX6_leaves yX6_leaves, Cond.code yX6_leaves cX6_leaves 4 none, Cond.methodLink RX6 118 yX6_leaf, Cond.static yX6_leaf, Cond.code yX6_leaf cX6_leaf 9 (some .long), Cond.methodLink RX6 114 yX6_mix, Cond.static yX6_mix, Cond.code yX6_mix cX6_mix 6 (some .long), Cond.constantLong RX6 108 (31), Cond.constantLong RX6 110 (7), Cond.constantLong RX6 112 (-7046029254386353131), Cond.methodLink RX6 130 yX6_rises, Cond.instanceMethod yX6_rises, Cond.selects RX6 yX6_rises yX6_rises, Cond.code yX6_rises cX6_rises 3 (some .int), Cond.methodLink RL 58 yX5_back, Cond.instanceMethod yX5_back, Cond.selects RX5 yX5_back yX5_back, Cond.code yX5_back cX5_back 4 (some .int), Cond.methodLink RX5 107 yX5_keptEventsFrom, Cond.instanceMethod yX5_keptEventsFrom, Cond.selects RX5 yX5_keptEventsFrom yX5_keptEventsFrom, Cond.code yX5_keptEventsFrom cX5_keptEventsFrom 5 (some .int), Cond.fieldLink RX5 118 "EventRows$Block" "kept" "Z", Cond.methodLink RX5 114 yX5_blockAt, Cond.instanceMethod yX5_blockAt, Cond.selects RX5 yX5_blockAt yX5_blockAt]
def G0_7 : List Cond := [Cond.code yX5_blockAt cX5_blockAt 2 (some (.object "EventRows$Block")), Cond.methodLink RX5 111 yX5_moveSubscribersBack, Cond.instanceMethod yX5_moveSubscribersBack, Cond.selects RX5 yX5_moveSubscribersBack yX5_moveSubscribersBack, Cond.code yX5_moveSubscribersBack cX5_moveSubscribersBack 3 none, Cond.fieldLink RX5 198 "EventRows$Subscriber" "block" "I", Cond.methodLink RX5 191 yX5_subscriberAt, Cond.instanceMethod yX5_subscriberAt, Cond.selects RX5 yX5_subscriberAt yX5_subscriberAt, Cond.code yX5_subscriberAt cX5_subscriberAt 2 (some (.object "EventRows$Subscriber")), Cond.methodLink RX5 208 yX3_moveTo, Cond.instanceMethod yX3_moveTo, Cond.selects RX3 yX3_moveTo yX3_moveTo, Cond.initialized RX3, Cond.code yX3_moveTo cX3_moveTo 3 none, Cond.fieldLink RX3 13 "EventRows$Subscriber" "block" "I", Cond.fieldLink RX3 16 "EventRows$Subscriber" "number" "I", Cond.methodLink RL 61 yX6_back, Cond.instanceMethod yX6_back, Cond.selects RX6 yX6_back yX6_back, Cond.code yX6_back cX6_back 4 (some .int), Cond.methodLink RL 62 yX5_prune, Cond.instanceMethod yX5_prune, Cond.selects RX5 yX5_prune yX5_prune, Cond.code yX5_prune cX5_prune 4 (some .int), Cond.methodLink RL 65 yX6_prune, Cond.instanceMethod yX6_prune, Cond.selects RX6 yX6_prune yX6_prune, Cond.code yX6_prune cX6_prune 3 (some .int), Cond.methodLink RX6 134 yX6_isBlock, Cond.instanceMethod yX6_isBlock, Cond.selects RX6 yX6_isBlock yX6_isBlock, Cond.code yX6_isBlock cX6_isBlock 2 (some .boolean), Cond.methodLink RL 66 yX5_size, Cond.instanceMethod yX5_size, Cond.selects RX5 yX5_size yX5_size, Cond.code yX5_size cX5_size 4 (some .int), Cond.methodLink RL 70 yX6_size, Cond.instanceMethod yX6_size, Cond.selects RX6 yX6_size yX6_size]
def G0_8 : List Cond := [Cond.code yX6_size cX6_size 3 (some .int), Cond.methodLink RL 71 yX5_event, Cond.instanceMethod yX5_event, Cond.selects RX5 yX5_event yX5_event, Cond.code yX5_event cX5_event 5 (some .int), Cond.methodLink RX5 122 yX0_hasEvent, Cond.instanceMethod yX0_hasEvent, Cond.selects RX0 yX0_hasEvent yX0_hasEvent, Cond.code yX0_hasEvent cX0_hasEvent 2 (some .boolean), Cond.methodLink RX5 125 yX0_detail, Cond.instanceMethod yX0_detail, Cond.selects RX0 yX0_detail yX0_detail, Cond.code yX0_detail cX0_detail 3 (some .int), Cond.methodLink RX0 57 yX0_topicOrNone, Cond.static yX0_topicOrNone, Cond.code yX0_topicOrNone cX0_topicOrNone 1 (some .int), Cond.methodLink RL 75 yX6_event, Cond.instanceMethod yX6_event, Cond.selects RX6 yX6_event yX6_event, Cond.code yX6_event cX6_event 5 (some .int), Cond.constantLong RX6 138 (5), Cond.methodLink RX6 140 yX6_topicMany, Cond.instanceMethod yX6_topicMany, Cond.selects RX6 yX6_topicMany yX6_topicMany, Cond.code yX6_topicMany cX6_topicMany 2 (some .int), Cond.methodLink RL 76 yL_value, Cond.static yL_value, Cond.initialized RL, Cond.codeWith yL_value cL_value 5 (some .int) [(0, 9, 12, 13), (0, 9, 16, 15)], Cond.classLink RL 13 "java/lang/NullPointerException", Cond.classLink RL 15 "java/lang/ArrayIndexOutOfBoundsException", Cond.methodLink RL 7 yX5_value, Cond.instanceMethod yX5_value, Cond.selects RX5 yX5_value yX5_value, Cond.code yX5_value cX5_value 4 (some .long), Cond.classLink RX5 131 RJx5d777, Cond.instantiable RJx5d777 8, Cond.initialized RJx5d777, Cond.classLink RX5 138 RJx00060, Cond.instantiable RJx00060 6]
def G0_9 : List Cond := [Cond.initialized RJx00060, Cond.fieldLink RX5 143 "EventRows$Block" "values" "[J", Cond.methodLink RX5 128 yX5_neededBlock, Cond.instanceMethod yX5_neededBlock, Cond.selects RX5 yX5_neededBlock yX5_neededBlock, Cond.code yX5_neededBlock cX5_neededBlock 3 (some (.object "EventRows$Block")), Cond.methodLink RL 81 yX6_value, Cond.instanceMethod yX6_value, Cond.selects RX6 yX6_value yX6_value, Cond.code yX6_value cX6_value 3 (some .long), Cond.fieldLink RX6 63 "EventRowsModel" "thrown" "I", Cond.methodLink RL 82 yX6_thrown, Cond.instanceMethod yX6_thrown, Cond.selects RX6 yX6_thrown yX6_thrown, Cond.code yX6_thrown cX6_thrown 1 (some .int), Cond.methodLink RL 85 yL_root, Cond.static yL_root, Cond.codeWith yL_root cL_root 4 (some .int) [(0, 8, 11, 15)], Cond.methodLink RL 17 yX5_root, Cond.instanceMethod yX5_root, Cond.selects RX5 yX5_root yX5_root, Cond.code yX5_root cX5_root 2 (some .long), Cond.fieldLink RX5 147 "EventRows$Block" "rootDigest" "J", Cond.methodLink RL 88 yX6_root, Cond.instanceMethod yX6_root, Cond.selects RX6 yX6_root yX6_root, Cond.code yX6_root cX6_root 2 (some .long), Cond.methodLink RL 89 yL_filter, Cond.static yL_filter, Cond.codeWith yL_filter cL_filter 4 (some .int) [(0, 8, 11, 15)], Cond.methodLink RL 21 yX5_filter, Cond.instanceMethod yX5_filter, Cond.selects RX5 yX5_filter yX5_filter, Cond.code yX5_filter cX5_filter 2 (some .long), Cond.fieldLink RX5 151 "EventRows$Block" "filterBits" "J", Cond.methodLink RL 91 yX6_filter, Cond.instanceMethod yX6_filter, Cond.selects RX6 yX6_filter yX6_filter, Cond.code yX6_filter cX6_filter 2 (some .long), Cond.methodLink RL 92 yX5_may]
def G0_10 : List Cond := [Cond.instanceMethod yX5_may, Cond.selects RX5 yX5_may yX5_may, Cond.code yX5_may cX5_may 6 (some .int), Cond.methodLink RX5 157 yX5_bitsOf, Cond.methodLink RL 95 yX6_may, Cond.instanceMethod yX6_may, Cond.selects RX6 yX6_may yX6_may, Cond.code yX6_may cX6_may 3 (some .int), Cond.methodLink RL 96 yX5_find, Cond.instanceMethod yX5_find, Cond.selects RX5 yX5_find yX5_find, Cond.code yX5_find cX5_find 5 (some .int), Cond.methodLink RX5 161 yX0_firstWith, Cond.instanceMethod yX0_firstWith, Cond.selects RX0 yX0_firstWith yX0_firstWith, Cond.code yX0_firstWith cX0_firstWith 4 (some .int), Cond.methodLink RX0 61 yX0_hasTopic, Cond.instanceMethod yX0_hasTopic, Cond.selects RX0 yX0_hasTopic yX0_hasTopic, Cond.code yX0_hasTopic cX0_hasTopic 3 (some .boolean), Cond.methodLink RL 99 yX6_find, Cond.instanceMethod yX6_find, Cond.selects RX6 yX6_find yX6_find, Cond.code yX6_find cX6_find 5 (some .int), Cond.methodLink RX6 143 yX6_has, Cond.instanceMethod yX6_has, Cond.selects RX6 yX6_has yX6_has, Cond.code yX6_has cX6_has 3 (some .boolean), Cond.methodLink RL 100 yX5_path, Cond.instanceMethod yX5_path, Cond.selects RX5 yX5_path yX5_path, Cond.code yX5_path cX5_path 4 (some .int), Cond.fieldLink RX5 168 "EventRows$Out" "count" "I", Cond.methodLink RX5 164 yX4_pathOf, Cond.instanceMethod yX4_pathOf, Cond.selects RX4 yX4_pathOf yX4_pathOf, Cond.code yX4_pathOf cX4_pathOf 7 none, Cond.fieldLink RX4 39 "EventRows$Out" "count" "I", Cond.methodLink RX4 42 yX2_add, Cond.instanceMethod yX2_add]
def G0_11 : List Cond := [Cond.selects RX2 yX2_add yX2_add, Cond.code yX2_add cX2_add 3 (some .boolean), Cond.fieldLink RX2 15 "EventRows$Out" "count" "I", Cond.methodLink RL 103 yX6_path, Cond.instanceMethod yX6_path, Cond.selects RX6 yX6_path yX6_path, Cond.code yX6_path cX6_path 6 (some .int), Cond.fieldLink RX6 147 "EventRowsModel" "outSize" "I", Cond.methodLink RL 104 yL_out, Cond.static yL_out, Cond.codeWith yL_out cL_out 4 (some .int) [(0, 8, 11, 15)], Cond.methodLink RL 24 yX5_out, Cond.instanceMethod yX5_out, Cond.selects RX5 yX5_out yX5_out, Cond.code yX5_out cX5_out 2 (some .long), Cond.fieldLink RX5 171 "EventRows$Out" "digests" "[J", Cond.methodLink RL 106 yX6_out, Cond.instanceMethod yX6_out, Cond.selects RX6 yX6_out yX6_out, Cond.code yX6_out cX6_out 2 (some .long), Cond.methodLink RL 107 yX5_lay, Cond.instanceMethod yX5_lay, Cond.selects RX5 yX5_lay yX5_lay, Cond.code yX5_lay cX5_lay 3 (some .int), Cond.methodLink RX5 174 yX2_add, Cond.methodLink RL 111 yX6_lay, Cond.instanceMethod yX6_lay, Cond.selects RX6 yX6_lay yX6_lay, Cond.code yX6_lay cX6_lay 3 (some .int), Cond.methodLink RL 112 yX5_wipe, Cond.instanceMethod yX5_wipe, Cond.selects RX5 yX5_wipe yX5_wipe, Cond.code yX5_wipe cX5_wipe 2 (some .int), Cond.methodLink RL 115 yX6_wipe, Cond.instanceMethod yX6_wipe, Cond.selects RX6 yX6_wipe yX6_wipe, Cond.code yX6_wipe cX6_wipe 2 (some .int), Cond.methodLink RL 116 yX5_proved, Cond.instanceMethod yX5_proved, Cond.selects RX5 yX5_proved yX5_proved]
def G0_12 : List Cond := [Cond.code yX5_proved cX5_proved 12 (some .int), Cond.methodLink RX5 177 yX5_leafOf, Cond.methodLink RX5 181 yX2_leadsTo, Cond.instanceMethod yX2_leadsTo, Cond.selects RX2 yX2_leadsTo yX2_leadsTo, Cond.code yX2_leadsTo cX2_leadsTo 15 (some .boolean), Cond.methodLink RL 120 yX6_proved, Cond.instanceMethod yX6_proved, Cond.selects RX6 yX6_proved yX6_proved, Cond.code yX6_proved cX6_proved 18 (some .int), Cond.methodLink RL 121 yX5_subscribe, Cond.instanceMethod yX5_subscribe, Cond.selects RX5 yX5_subscribe yX5_subscribe, Cond.code yX5_subscribe cX5_subscribe 3 (some .int), Cond.instantiable RX3 3, Cond.methodLink RX5 188 yX3_init, Cond.instanceMethod yX3_init, Cond.code yX3_init cX3_init 3 none, Cond.methodLink RX3 1 objectInit, Cond.fieldLink RX3 7 "EventRows$Subscriber" "topic" "I", Cond.methodLink RL 124 yX6_subscribe, Cond.instanceMethod yX6_subscribe, Cond.selects RX6 yX6_subscribe yX6_subscribe, Cond.code yX6_subscribe cX6_subscribe 3 (some .int), Cond.methodLink RL 125 yX5_next, Cond.instanceMethod yX5_next, Cond.selects RX5 yX5_next yX5_next, Cond.code yX5_next cX5_next 6 (some .int), Cond.fieldLink RX5 195 "EventRows$Subscriber" "number" "I", Cond.fieldLink RX5 201 "EventRows$Subscriber" "topic" "I", Cond.methodLink RX5 204 yX5_firstKeptWith, Cond.instanceMethod yX5_firstKeptWith, Cond.selects RX5 yX5_firstKeptWith yX5_firstKeptWith, Cond.code yX5_firstKeptWith cX5_firstKeptWith 5 (some .int), Cond.methodLink RL 128 yX6_next, Cond.instanceMethod yX6_next, Cond.selects RX6 yX6_next yX6_next, Cond.code yX6_next cX6_next 4 (some .int), Cond.methodLink RL 129 yX5_place, Cond.instanceMethod yX5_place]
def G0_13 : List Cond := [Cond.selects RX5 yX5_place yX5_place, Cond.code yX5_place cX5_place 3 (some .int), Cond.methodLink RL 132 yX6_place, Cond.instanceMethod yX6_place, Cond.selects RX6 yX6_place yX6_place, Cond.code yX6_place cX6_place 2 (some .int)]
def G0 : List Cond := G0_0 ++ (G0_1 ++ (G0_2 ++ (G0_3 ++ (G0_4 ++ (G0_5 ++ (G0_6 ++ (G0_7 ++ (G0_8 ++ (G0_9 ++ (G0_10 ++ (G0_11 ++ (G0_12 ++ (G0_13)))))))))))))
def G1 : List Cond := wsX50 ++ (wsX60 ++ (wsX10 ++ (wsX40 ++ (wsX20 ++ (wsX00 ++ (wsX30 ++ (wsJx5d7770 ++ (wsJx000600))))))))
def G : List Cond := G0 ++ G1
theorem G0_good_0 : G0_0.all goodWord = true := by decide +kernel
theorem G0_good_1 : G0_1.all goodWord = true := by decide +kernel
theorem G0_good_2 : G0_2.all goodWord = true := by decide +kernel
theorem G0_good_3 : G0_3.all goodWord = true := by decide +kernel
theorem G0_good_4 : G0_4.all goodWord = true := by decide +kernel
theorem G0_good_5 : G0_5.all goodWord = true := by decide +kernel
theorem G0_good_6 : G0_6.all goodWord = true := by decide +kernel
theorem G0_good_7 : G0_7.all goodWord = true := by decide +kernel
theorem G0_good_8 : G0_8.all goodWord = true := by decide +kernel
theorem G0_good_9 : G0_9.all goodWord = true := by decide +kernel
theorem G0_good_10 : G0_10.all goodWord = true := by decide +kernel
theorem G0_good_11 : G0_11.all goodWord = true := by decide +kernel
theorem G0_good_12 : G0_12.all goodWord = true := by decide +kernel
theorem G0_good_13 : G0_13.all goodWord = true := by decide +kernel
theorem G1_good_wsX50 : wsX50.all goodWord = true := by decide +kernel
theorem G1_good_wsX60 : wsX60.all goodWord = true := by decide +kernel
theorem G1_good_wsX10 : wsX10.all goodWord = true := by decide +kernel
theorem G1_good_wsX40 : wsX40.all goodWord = true := by decide +kernel
theorem G1_good_wsX20 : wsX20.all goodWord = true := by decide +kernel
theorem G1_good_wsX00 : wsX00.all goodWord = true := by decide +kernel
theorem G1_good_wsX30 : wsX30.all goodWord = true := by decide +kernel
theorem G1_good_wsJx5d7770 : wsJx5d7770.all goodWord = true := by decide +kernel
theorem G1_good_wsJx000600 : wsJx000600.all goodWord = true := by decide +kernel
theorem G_all : G.all goodWord = true := by
  rw [G, List.all_append, G0, G1]
  simp only [List.all_append, G0_good_0, G0_good_1, G0_good_2, G0_good_3, G0_good_4, G0_good_5, G0_good_6, G0_good_7, G0_good_8, G0_good_9, G0_good_10, G0_good_11, G0_good_12, G0_good_13, G1_good_wsX50, G1_good_wsX60, G1_good_wsX10, G1_good_wsX40, G1_good_wsX20, G1_good_wsX00, G1_good_wsX30, G1_good_wsJx5d7770, G1_good_wsJx000600, Bool.and_self, Bool.and_true]
theorem G_good : ∀ w ∈ G, ((w.onTables && w.keeps) = true ∨ ∃ ty, w = .arrayClass ty) := fun w h => good_of_word (List.all_eq_true.mp G_all w h)
theorem in_wsX50 : ∀ w ∈ wsX50, w ∈ G := fun _ h => List.mem_append_right _ (List.mem_append_left _ h)
theorem in_wsX60 : ∀ w ∈ wsX60, w ∈ G := fun _ h => List.mem_append_right _ (List.mem_append_right _ (List.mem_append_left _ h))
theorem in_wsX10 : ∀ w ∈ wsX10, w ∈ G := fun _ h => List.mem_append_right _ (List.mem_append_right _ (List.mem_append_right _ (List.mem_append_left _ h)))
theorem in_wsX40 : ∀ w ∈ wsX40, w ∈ G := fun _ h => List.mem_append_right _ (List.mem_append_right _ (List.mem_append_right _ (List.mem_append_right _ (List.mem_append_left _ h))))
theorem in_wsX20 : ∀ w ∈ wsX20, w ∈ G := fun _ h => List.mem_append_right _ (List.mem_append_right _ (List.mem_append_right _ (List.mem_append_right _ (List.mem_append_right _ (List.mem_append_left _ h)))))
theorem in_wsX00 : ∀ w ∈ wsX00, w ∈ G := fun _ h => List.mem_append_right _ (List.mem_append_right _ (List.mem_append_right _ (List.mem_append_right _ (List.mem_append_right _ (List.mem_append_right _ (List.mem_append_left _ h))))))
theorem in_wsX30 : ∀ w ∈ wsX30, w ∈ G := fun _ h => List.mem_append_right _ (List.mem_append_right _ (List.mem_append_right _ (List.mem_append_right _ (List.mem_append_right _ (List.mem_append_right _ (List.mem_append_right _ (List.mem_append_left _ h)))))))
theorem in_wsJx5d7770 : ∀ w ∈ wsJx5d7770, w ∈ G := fun _ h => List.mem_append_right _ (List.mem_append_right _ (List.mem_append_right _ (List.mem_append_right _ (List.mem_append_right _ (List.mem_append_right _ (List.mem_append_right _ (List.mem_append_right _ (List.mem_append_left _ h))))))))
theorem in_wsJx000600 : ∀ w ∈ wsJx000600, w ∈ G := fun _ h => List.mem_append_right _ (List.mem_append_right _ (List.mem_append_right _ (List.mem_append_right _ (List.mem_append_right _ (List.mem_append_right _ (List.mem_append_right _ (List.mem_append_right _ (List.mem_append_right _ (h)))))))))
theorem gw_0 : (Cond.classLink RL 8 RX5) ∈ G := List.mem_append_left _ (List.mem_append_left _ (List.mem_of_getElem? (i := 0) rfl))
theorem gw_1 : (Cond.instantiable RX5 9) ∈ G := List.mem_append_left _ (List.mem_append_left _ (List.mem_of_getElem? (i := 1) rfl))
theorem gw_2 : (Cond.initialized RX5) ∈ G := List.mem_append_left _ (List.mem_append_left _ (List.mem_of_getElem? (i := 2) rfl))
theorem gw_3 : (Cond.classLink RL 28 RX6) ∈ G := List.mem_append_left _ (List.mem_append_left _ (List.mem_of_getElem? (i := 3) rfl))
theorem gw_4 : (Cond.instantiable RX6 24) ∈ G := List.mem_append_left _ (List.mem_append_left _ (List.mem_of_getElem? (i := 4) rfl))
theorem gw_5 : (Cond.initialized RX6) ∈ G := List.mem_append_left _ (List.mem_append_left _ (List.mem_of_getElem? (i := 5) rfl))
theorem gw_6 : (Cond.arrayClass .long) ∈ G := List.mem_append_left _ (List.mem_append_left _ (List.mem_of_getElem? (i := 6) rfl))
theorem gw_7 : (Cond.constantLong RL 36 (4294967295)) ∈ G := List.mem_append_left _ (List.mem_append_left _ (List.mem_of_getElem? (i := 7) rfl))
theorem gw_8 : (Cond.methodLink RL 27 yX5_init) ∈ G := List.mem_append_left _ (List.mem_append_left _ (List.mem_of_getElem? (i := 8) rfl))
theorem gw_9 : (Cond.instanceMethod yX5_init) ∈ G := List.mem_append_left _ (List.mem_append_left _ (List.mem_of_getElem? (i := 9) rfl))
theorem gw_10 : (Cond.code yX5_init cX5_init 1 none) ∈ G := List.mem_append_left _ (List.mem_append_left _ (List.mem_of_getElem? (i := 10) rfl))
theorem gw_11 : (Cond.methodLink RX5 1 objectInit) ∈ G := List.mem_append_left _ (List.mem_append_left _ (List.mem_of_getElem? (i := 11) rfl))
theorem gw_12 : (Cond.instanceMethod objectInit) ∈ G := List.mem_append_left _ (List.mem_append_left _ (List.mem_of_getElem? (i := 12) rfl))
theorem gw_13 : (Cond.code objectInit ⟨#[0xb1]⟩ 1 none) ∈ G := List.mem_append_left _ (List.mem_append_left _ (List.mem_of_getElem? (i := 13) rfl))
theorem gw_14 : (Cond.classLink RX5 7 RX1) ∈ G := List.mem_append_left _ (List.mem_append_left _ (List.mem_of_getElem? (i := 14) rfl))
theorem gw_15 : (Cond.instantiable RX1 5) ∈ G := List.mem_append_left _ (List.mem_append_left _ (List.mem_of_getElem? (i := 15) rfl))
theorem gw_16 : (Cond.initialized RX1) ∈ G := List.mem_append_left _ (List.mem_append_left _ (List.mem_of_getElem? (i := 16) rfl))
theorem gw_17 : (Cond.fieldLink RX5 10 "EventRows" "calls" "LEventRows$Calls;") ∈ G := List.mem_append_left _ (List.mem_append_left _ (List.mem_of_getElem? (i := 17) rfl))
theorem gw_18 : (Cond.classLink RX5 16 RX0) ∈ G := List.mem_append_left _ (List.mem_append_left _ (List.mem_of_getElem? (i := 18) rfl))
theorem gw_19 : (Cond.fieldLink RX5 18 "EventRows" "blocks" "[LEventRows$Block;") ∈ G := List.mem_append_left _ (List.mem_append_left _ (List.mem_of_getElem? (i := 19) rfl))
theorem gw_20 : (Cond.classLink RX5 22 RX4) ∈ G := List.mem_append_left _ (List.mem_append_left _ (List.mem_of_getElem? (i := 20) rfl))
theorem gw_21 : (Cond.instantiable RX4 2) ∈ G := List.mem_append_left _ (List.mem_append_left _ (List.mem_of_getElem? (i := 21) rfl))
theorem gw_22 : (Cond.initialized RX4) ∈ G := List.mem_append_left _ (List.mem_append_left _ (List.mem_of_getElem? (i := 22) rfl))
theorem gw_23 : (Cond.fieldLink RX5 25 "EventRows" "tree" "LEventRows$Tree;") ∈ G := List.mem_append_left _ (List.mem_append_left _ (List.mem_of_getElem? (i := 23) rfl))
theorem gw_24 : (Cond.classLink RX5 29 RX2) ∈ G := List.mem_append_left _ (List.mem_append_left _ (List.mem_of_getElem? (i := 24) rfl))
theorem gw_25 : (Cond.instantiable RX2 2) ∈ G := List.mem_append_left _ (List.mem_append_left _ (List.mem_of_getElem? (i := 25) rfl))
theorem gw_26 : (Cond.initialized RX2) ∈ G := List.mem_append_left _ (List.mem_append_left _ (List.mem_of_getElem? (i := 26) rfl))
theorem gw_27 : (Cond.fieldLink RX5 32 "EventRows" "outRow" "LEventRows$Out;") ∈ G := List.mem_append_left _ (List.mem_append_left _ (List.mem_of_getElem? (i := 27) rfl))
theorem gw_28 : (Cond.classLink RX5 36 RX3) ∈ G := List.mem_append_left _ (List.mem_append_left _ (List.mem_of_getElem? (i := 28) rfl))
theorem gw_29 : (Cond.fieldLink RX5 38 "EventRows" "subscribers" "[LEventRows$Subscriber;") ∈ G := List.mem_append_left _ (List.mem_append_left _ (List.mem_of_getElem? (i := 29) rfl))
theorem gw_30 : (Cond.instantiable RX0 10) ∈ G := List.mem_append_left _ (List.mem_append_left _ (List.mem_of_getElem? (i := 30) rfl))
theorem gw_31 : (Cond.initialized RX0) ∈ G := List.mem_append_left _ (List.mem_append_left _ (List.mem_of_getElem? (i := 31) rfl))
theorem gw_32 : (Cond.fieldLink RX5 43 "EventRows" "open" "LEventRows$Block;") ∈ G := List.mem_append_left _ (List.mem_append_left _ (List.mem_of_getElem? (i := 32) rfl))
theorem gw_33 : (Cond.instanceMethod yX1_init) ∈ G := List.mem_append_left _ (List.mem_append_left _ (List.mem_of_getElem? (i := 33) rfl))
theorem gw_34 : (Cond.code yX1_init cX1_init 1 none) ∈ G := List.mem_append_left _ (List.mem_append_left _ (List.mem_of_getElem? (i := 34) rfl))
theorem gw_35 : (Cond.methodLink RX1 3 objectInit) ∈ G := List.mem_append_left _ (List.mem_append_left _ (List.mem_of_getElem? (i := 35) rfl))
theorem gw_36 : (Cond.arrayClass .int) ∈ G := List.mem_append_left _ (List.mem_append_left _ (List.mem_of_getElem? (i := 36) rfl))
theorem gw_37 : (Cond.fieldLink RX1 9 "EventRows$Calls" "limits" "[I") ∈ G := List.mem_append_left _ (List.mem_append_left _ (List.mem_of_getElem? (i := 37) rfl))
theorem gw_38 : (Cond.fieldLink RX1 15 "EventRows$Calls" "used" "[I") ∈ G := List.mem_append_left _ (List.mem_append_left _ (List.mem_of_getElem? (i := 38) rfl))
theorem gw_39 : (Cond.fieldLink RX1 18 "EventRows$Calls" "eventsBefore" "[I") ∈ G := List.mem_append_left _ (List.mem_append_left _ (List.mem_of_getElem? (i := 39) rfl))
theorem gw_40 : (Cond.arrayClass .boolean) ∈ G := List.mem_append_left _ (List.mem_append_right _ (List.mem_append_left _ (List.mem_of_getElem? (i := 0) rfl)))
theorem gw_41 : (Cond.fieldLink RX1 21 "EventRows$Calls" "caught" "[Z") ∈ G := List.mem_append_left _ (List.mem_append_right _ (List.mem_append_left _ (List.mem_of_getElem? (i := 1) rfl)))
theorem gw_42 : (Cond.instanceMethod yX4_init) ∈ G := List.mem_append_left _ (List.mem_append_right _ (List.mem_append_left _ (List.mem_of_getElem? (i := 2) rfl)))
theorem gw_43 : (Cond.code yX4_init cX4_init 1 none) ∈ G := List.mem_append_left _ (List.mem_append_right _ (List.mem_append_left _ (List.mem_of_getElem? (i := 3) rfl)))
theorem gw_44 : (Cond.methodLink RX4 3 objectInit) ∈ G := List.mem_append_left _ (List.mem_append_right _ (List.mem_append_left _ (List.mem_of_getElem? (i := 4) rfl)))
theorem gw_45 : (Cond.fieldLink RX4 9 "EventRows$Tree" "row" "[J") ∈ G := List.mem_append_left _ (List.mem_append_right _ (List.mem_append_left _ (List.mem_of_getElem? (i := 5) rfl)))
theorem gw_46 : (Cond.instanceMethod yX2_init) ∈ G := List.mem_append_left _ (List.mem_append_right _ (List.mem_append_left _ (List.mem_of_getElem? (i := 6) rfl)))
theorem gw_47 : (Cond.code yX2_init cX2_init 1 none) ∈ G := List.mem_append_left _ (List.mem_append_right _ (List.mem_append_left _ (List.mem_of_getElem? (i := 7) rfl)))
theorem gw_48 : (Cond.methodLink RX2 3 objectInit) ∈ G := List.mem_append_left _ (List.mem_append_right _ (List.mem_append_left _ (List.mem_of_getElem? (i := 8) rfl)))
theorem gw_49 : (Cond.fieldLink RX2 9 "EventRows$Out" "digests" "[J") ∈ G := List.mem_append_left _ (List.mem_append_right _ (List.mem_append_left _ (List.mem_of_getElem? (i := 9) rfl)))
theorem gw_50 : (Cond.instanceMethod yX0_init) ∈ G := List.mem_append_left _ (List.mem_append_right _ (List.mem_append_left _ (List.mem_of_getElem? (i := 10) rfl)))
theorem gw_51 : (Cond.code yX0_init cX0_init 1 none) ∈ G := List.mem_append_left _ (List.mem_append_right _ (List.mem_append_left _ (List.mem_of_getElem? (i := 11) rfl)))
theorem gw_52 : (Cond.methodLink RX0 3 objectInit) ∈ G := List.mem_append_left _ (List.mem_append_right _ (List.mem_append_left _ (List.mem_of_getElem? (i := 12) rfl)))
theorem gw_53 : (Cond.fieldLink RX0 9 "EventRows$Block" "accounts" "[I") ∈ G := List.mem_append_left _ (List.mem_append_right _ (List.mem_append_left _ (List.mem_of_getElem? (i := 13) rfl)))
theorem gw_54 : (Cond.fieldLink RX0 15 "EventRows$Block" "firstTopics" "[I") ∈ G := List.mem_append_left _ (List.mem_append_right _ (List.mem_append_left _ (List.mem_of_getElem? (i := 14) rfl)))
theorem gw_55 : (Cond.fieldLink RX0 18 "EventRows$Block" "secondTopics" "[I") ∈ G := List.mem_append_left _ (List.mem_append_right _ (List.mem_append_left _ (List.mem_of_getElem? (i := 15) rfl)))
theorem gw_56 : (Cond.fieldLink RX0 21 "EventRows$Block" "thirdTopics" "[I") ∈ G := List.mem_append_left _ (List.mem_append_right _ (List.mem_append_left _ (List.mem_of_getElem? (i := 16) rfl)))
theorem gw_57 : (Cond.fieldLink RX0 24 "EventRows$Block" "values" "[J") ∈ G := List.mem_append_left _ (List.mem_append_right _ (List.mem_append_left _ (List.mem_of_getElem? (i := 17) rfl)))
theorem gw_58 : (Cond.fieldLink RX0 28 "EventRows$Block" "kept" "Z") ∈ G := List.mem_append_left _ (List.mem_append_right _ (List.mem_append_left _ (List.mem_of_getElem? (i := 18) rfl)))
theorem gw_59 : (Cond.methodLink RL 30 yX6_init) ∈ G := List.mem_append_left _ (List.mem_append_right _ (List.mem_append_left _ (List.mem_of_getElem? (i := 19) rfl)))
theorem gw_60 : (Cond.instanceMethod yX6_init) ∈ G := List.mem_append_left _ (List.mem_append_right _ (List.mem_append_left _ (List.mem_of_getElem? (i := 20) rfl)))
theorem gw_61 : (Cond.code yX6_init cX6_init 1 none) ∈ G := List.mem_append_left _ (List.mem_append_right _ (List.mem_append_left _ (List.mem_of_getElem? (i := 21) rfl)))
theorem gw_62 : (Cond.methodLink RX6 1 objectInit) ∈ G := List.mem_append_left _ (List.mem_append_right _ (List.mem_append_left _ (List.mem_of_getElem? (i := 22) rfl)))
theorem gw_63 : (Cond.fieldLink RX6 7 "EventRowsModel" "account" "[I") ∈ G := List.mem_append_left _ (List.mem_append_right _ (List.mem_append_left _ (List.mem_of_getElem? (i := 23) rfl)))
theorem gw_64 : (Cond.fieldLink RX6 13 "EventRowsModel" "topics" "[I") ∈ G := List.mem_append_left _ (List.mem_append_right _ (List.mem_append_left _ (List.mem_of_getElem? (i := 24) rfl)))
theorem gw_65 : (Cond.fieldLink RX6 16 "EventRowsModel" "value" "[J") ∈ G := List.mem_append_left _ (List.mem_append_right _ (List.mem_append_left _ (List.mem_of_getElem? (i := 25) rfl)))
theorem gw_66 : (Cond.fieldLink RX6 20 "EventRowsModel" "serial" "[I") ∈ G := List.mem_append_left _ (List.mem_append_right _ (List.mem_append_left _ (List.mem_of_getElem? (i := 26) rfl)))
theorem gw_67 : (Cond.fieldLink RX6 23 "EventRowsModel" "size" "[I") ∈ G := List.mem_append_left _ (List.mem_append_right _ (List.mem_append_left _ (List.mem_of_getElem? (i := 27) rfl)))
theorem gw_68 : (Cond.fieldLink RX6 26 "EventRowsModel" "pruned" "[Z") ∈ G := List.mem_append_left _ (List.mem_append_right _ (List.mem_append_left _ (List.mem_of_getElem? (i := 28) rfl)))
theorem gw_69 : (Cond.fieldLink RX6 30 "EventRowsModel" "root" "[J") ∈ G := List.mem_append_left _ (List.mem_append_right _ (List.mem_append_left _ (List.mem_of_getElem? (i := 29) rfl)))
theorem gw_70 : (Cond.fieldLink RX6 33 "EventRowsModel" "filter" "[J") ∈ G := List.mem_append_left _ (List.mem_append_right _ (List.mem_append_left _ (List.mem_of_getElem? (i := 30) rfl)))
theorem gw_71 : (Cond.fieldLink RX6 36 "EventRowsModel" "limit" "[I") ∈ G := List.mem_append_left _ (List.mem_append_right _ (List.mem_append_left _ (List.mem_of_getElem? (i := 31) rfl)))
theorem gw_72 : (Cond.fieldLink RX6 39 "EventRowsModel" "used" "[I") ∈ G := List.mem_append_left _ (List.mem_append_right _ (List.mem_append_left _ (List.mem_of_getElem? (i := 32) rfl)))
theorem gw_73 : (Cond.fieldLink RX6 42 "EventRowsModel" "caught" "[Z") ∈ G := List.mem_append_left _ (List.mem_append_right _ (List.mem_append_left _ (List.mem_of_getElem? (i := 33) rfl)))
theorem gw_74 : (Cond.fieldLink RX6 45 "EventRowsModel" "begun" "[I") ∈ G := List.mem_append_left _ (List.mem_append_right _ (List.mem_append_left _ (List.mem_of_getElem? (i := 34) rfl)))
theorem gw_75 : (Cond.fieldLink RX6 48 "EventRowsModel" "out" "[J") ∈ G := List.mem_append_left _ (List.mem_append_right _ (List.mem_append_left _ (List.mem_of_getElem? (i := 35) rfl)))
theorem gw_76 : (Cond.fieldLink RX6 51 "EventRowsModel" "topicOf" "[I") ∈ G := List.mem_append_left _ (List.mem_append_right _ (List.mem_append_left _ (List.mem_of_getElem? (i := 36) rfl)))
theorem gw_77 : (Cond.fieldLink RX6 54 "EventRowsModel" "placeBlock" "[I") ∈ G := List.mem_append_left _ (List.mem_append_right _ (List.mem_append_left _ (List.mem_of_getElem? (i := 37) rfl)))
theorem gw_78 : (Cond.fieldLink RX6 57 "EventRowsModel" "placeAt" "[I") ∈ G := List.mem_append_left _ (List.mem_append_right _ (List.mem_append_left _ (List.mem_of_getElem? (i := 38) rfl)))
theorem gw_79 : (Cond.fieldLink RX6 60 "EventRowsModel" "level" "[J") ∈ G := List.mem_append_left _ (List.mem_append_right _ (List.mem_append_left _ (List.mem_of_getElem? (i := 39) rfl)))
theorem gw_80 : (Cond.methodLink RL 31 yX5_begin) ∈ G := List.mem_append_left _ (List.mem_append_right _ (List.mem_append_right _ (List.mem_append_left _ (List.mem_of_getElem? (i := 0) rfl))))
theorem gw_81 : (Cond.instanceMethod yX5_begin) ∈ G := List.mem_append_left _ (List.mem_append_right _ (List.mem_append_right _ (List.mem_append_left _ (List.mem_of_getElem? (i := 1) rfl))))
theorem gw_82 : (Cond.selects RX5 yX5_begin yX5_begin) ∈ G := List.mem_append_left _ (List.mem_append_right _ (List.mem_append_right _ (List.mem_append_left _ (List.mem_of_getElem? (i := 2) rfl))))
theorem gw_83 : (Cond.code yX5_begin cX5_begin 3 (some .int)) ∈ G := List.mem_append_left _ (List.mem_append_right _ (List.mem_append_right _ (List.mem_append_left _ (List.mem_of_getElem? (i := 3) rfl))))
theorem gw_84 : (Cond.fieldLink RX5 47 "EventRows$Calls" "depth" "I") ∈ G := List.mem_append_left _ (List.mem_append_right _ (List.mem_append_right _ (List.mem_append_left _ (List.mem_of_getElem? (i := 4) rfl))))
theorem gw_85 : (Cond.fieldLink RX5 59 "EventRows$Block" "count" "I") ∈ G := List.mem_append_left _ (List.mem_append_right _ (List.mem_append_right _ (List.mem_append_left _ (List.mem_of_getElem? (i := 5) rfl))))
theorem gw_86 : (Cond.methodLink RX5 51 yX1_pay) ∈ G := List.mem_append_left _ (List.mem_append_right _ (List.mem_append_right _ (List.mem_append_left _ (List.mem_of_getElem? (i := 6) rfl))))
theorem gw_87 : (Cond.instanceMethod yX1_pay) ∈ G := List.mem_append_left _ (List.mem_append_right _ (List.mem_append_right _ (List.mem_append_left _ (List.mem_of_getElem? (i := 7) rfl))))
theorem gw_88 : (Cond.selects RX1 yX1_pay yX1_pay) ∈ G := List.mem_append_left _ (List.mem_append_right _ (List.mem_append_right _ (List.mem_append_left _ (List.mem_of_getElem? (i := 8) rfl))))
theorem gw_89 : (Cond.code yX1_pay cX1_pay 2 (some .boolean)) ∈ G := List.mem_append_left _ (List.mem_append_right _ (List.mem_append_right _ (List.mem_append_left _ (List.mem_of_getElem? (i := 9) rfl))))
theorem gw_90 : (Cond.fieldLink RX1 25 "EventRows$Calls" "depth" "I") ∈ G := List.mem_append_left _ (List.mem_append_right _ (List.mem_append_right _ (List.mem_append_left _ (List.mem_of_getElem? (i := 10) rfl))))
theorem gw_91 : (Cond.methodLink RX1 29 yX1_leftOfInnermost) ∈ G := List.mem_append_left _ (List.mem_append_right _ (List.mem_append_right _ (List.mem_append_left _ (List.mem_of_getElem? (i := 11) rfl))))
theorem gw_92 : (Cond.instanceMethod yX1_leftOfInnermost) ∈ G := List.mem_append_left _ (List.mem_append_right _ (List.mem_append_right _ (List.mem_append_left _ (List.mem_of_getElem? (i := 12) rfl))))
theorem gw_93 : (Cond.selects RX1 yX1_leftOfInnermost yX1_leftOfInnermost) ∈ G := List.mem_append_left _ (List.mem_append_right _ (List.mem_append_right _ (List.mem_append_left _ (List.mem_of_getElem? (i := 13) rfl))))
theorem gw_94 : (Cond.code yX1_leftOfInnermost cX1_leftOfInnermost 1 (some .int)) ∈ G := List.mem_append_left _ (List.mem_append_right _ (List.mem_append_right _ (List.mem_append_left _ (List.mem_of_getElem? (i := 14) rfl))))
theorem gw_95 : (Cond.methodLink RX5 55 yX5_failInnermost) ∈ G := List.mem_append_left _ (List.mem_append_right _ (List.mem_append_right _ (List.mem_append_left _ (List.mem_of_getElem? (i := 15) rfl))))
theorem gw_96 : (Cond.instanceMethod yX5_failInnermost) ∈ G := List.mem_append_left _ (List.mem_append_right _ (List.mem_append_right _ (List.mem_append_left _ (List.mem_of_getElem? (i := 16) rfl))))
theorem gw_97 : (Cond.selects RX5 yX5_failInnermost yX5_failInnermost) ∈ G := List.mem_append_left _ (List.mem_append_right _ (List.mem_append_right _ (List.mem_append_left _ (List.mem_of_getElem? (i := 17) rfl))))
theorem gw_98 : (Cond.code yX5_failInnermost cX5_failInnermost 1 (some .int)) ∈ G := List.mem_append_left _ (List.mem_append_right _ (List.mem_append_right _ (List.mem_append_left _ (List.mem_of_getElem? (i := 18) rfl))))
theorem gw_99 : (Cond.methodLink RX5 211 yX1_fail) ∈ G := List.mem_append_left _ (List.mem_append_right _ (List.mem_append_right _ (List.mem_append_left _ (List.mem_of_getElem? (i := 19) rfl))))
theorem gw_100 : (Cond.instanceMethod yX1_fail) ∈ G := List.mem_append_left _ (List.mem_append_right _ (List.mem_append_right _ (List.mem_append_left _ (List.mem_of_getElem? (i := 20) rfl))))
theorem gw_101 : (Cond.selects RX1 yX1_fail yX1_fail) ∈ G := List.mem_append_left _ (List.mem_append_right _ (List.mem_append_right _ (List.mem_append_left _ (List.mem_of_getElem? (i := 21) rfl))))
theorem gw_102 : (Cond.code yX1_fail cX1_fail 5 (some .int)) ∈ G := List.mem_append_left _ (List.mem_append_right _ (List.mem_append_right _ (List.mem_append_left _ (List.mem_of_getElem? (i := 22) rfl))))
theorem gw_103 : (Cond.fieldLink RX1 39 "EventRows$Block" "count" "I") ∈ G := List.mem_append_left _ (List.mem_append_right _ (List.mem_append_right _ (List.mem_append_left _ (List.mem_of_getElem? (i := 23) rfl))))
theorem gw_104 : (Cond.methodLink RX1 44 yX1_pop) ∈ G := List.mem_append_left _ (List.mem_append_right _ (List.mem_append_right _ (List.mem_append_left _ (List.mem_of_getElem? (i := 24) rfl))))
theorem gw_105 : (Cond.instanceMethod yX1_pop) ∈ G := List.mem_append_left _ (List.mem_append_right _ (List.mem_append_right _ (List.mem_append_left _ (List.mem_of_getElem? (i := 25) rfl))))
theorem gw_106 : (Cond.selects RX1 yX1_pop yX1_pop) ∈ G := List.mem_append_left _ (List.mem_append_right _ (List.mem_append_right _ (List.mem_append_left _ (List.mem_of_getElem? (i := 26) rfl))))
theorem gw_107 : (Cond.code yX1_pop cX1_pop 2 (some .int)) ∈ G := List.mem_append_left _ (List.mem_append_right _ (List.mem_append_right _ (List.mem_append_left _ (List.mem_of_getElem? (i := 27) rfl))))
theorem gw_108 : (Cond.methodLink RX5 62 yX1_push) ∈ G := List.mem_append_left _ (List.mem_append_right _ (List.mem_append_right _ (List.mem_append_left _ (List.mem_of_getElem? (i := 28) rfl))))
theorem gw_109 : (Cond.instanceMethod yX1_push) ∈ G := List.mem_append_left _ (List.mem_append_right _ (List.mem_append_right _ (List.mem_append_left _ (List.mem_of_getElem? (i := 29) rfl))))
theorem gw_110 : (Cond.selects RX1 yX1_push yX1_push) ∈ G := List.mem_append_left _ (List.mem_append_right _ (List.mem_append_right _ (List.mem_append_left _ (List.mem_of_getElem? (i := 30) rfl))))
theorem gw_111 : (Cond.code yX1_push cX1_push 4 none) ∈ G := List.mem_append_left _ (List.mem_append_right _ (List.mem_append_right _ (List.mem_append_left _ (List.mem_of_getElem? (i := 31) rfl))))
theorem gw_112 : (Cond.methodLink RX1 33 Lib.Math.min.name) ∈ G := List.mem_append_left _ (List.mem_append_right _ (List.mem_append_right _ (List.mem_append_left _ (List.mem_of_getElem? (i := 32) rfl))))
theorem gw_113 : (Cond.static Lib.Math.min.name) ∈ G := List.mem_append_left _ (List.mem_append_right _ (List.mem_append_right _ (List.mem_append_left _ (List.mem_of_getElem? (i := 33) rfl))))
theorem gw_114 : (Cond.initialized "java/lang/Math") ∈ G := List.mem_append_left _ (List.mem_append_right _ (List.mem_append_right _ (List.mem_append_left _ (List.mem_of_getElem? (i := 34) rfl))))
theorem gw_115 : (Cond.code Lib.Math.min.name Lib.Math.min.code 2 (some .int)) ∈ G := List.mem_append_left _ (List.mem_append_right _ (List.mem_append_right _ (List.mem_append_left _ (List.mem_of_getElem? (i := 35) rfl))))
theorem gw_116 : (Cond.methodLink RL 35 yX6_begin) ∈ G := List.mem_append_left _ (List.mem_append_right _ (List.mem_append_right _ (List.mem_append_left _ (List.mem_of_getElem? (i := 36) rfl))))
theorem gw_117 : (Cond.instanceMethod yX6_begin) ∈ G := List.mem_append_left _ (List.mem_append_right _ (List.mem_append_right _ (List.mem_append_left _ (List.mem_of_getElem? (i := 37) rfl))))
theorem gw_118 : (Cond.selects RX6 yX6_begin yX6_begin) ∈ G := List.mem_append_left _ (List.mem_append_right _ (List.mem_append_right _ (List.mem_append_left _ (List.mem_of_getElem? (i := 38) rfl))))
theorem gw_119 : (Cond.code yX6_begin cX6_begin 4 (some .int)) ∈ G := List.mem_append_left _ (List.mem_append_right _ (List.mem_append_right _ (List.mem_append_left _ (List.mem_of_getElem? (i := 39) rfl))))
theorem gw_120 : (Cond.constantLong RX6 83 (10000)) ∈ G := List.mem_append_left _ (List.mem_append_right _ (List.mem_append_right _ (List.mem_append_right _ (List.mem_append_left _ (List.mem_of_getElem? (i := 0) rfl)))))
theorem gw_121 : (Cond.fieldLink RX6 74 "EventRowsModel" "depth" "I") ∈ G := List.mem_append_left _ (List.mem_append_right _ (List.mem_append_right _ (List.mem_append_right _ (List.mem_append_left _ (List.mem_of_getElem? (i := 1) rfl)))))
theorem gw_122 : (Cond.fieldLink RX6 77 "EventRowsModel" "open" "I") ∈ G := List.mem_append_left _ (List.mem_append_right _ (List.mem_append_right _ (List.mem_append_right _ (List.mem_append_left _ (List.mem_of_getElem? (i := 2) rfl)))))
theorem gw_123 : (Cond.methodLink RX6 70 yX6_in) ∈ G := List.mem_append_left _ (List.mem_append_right _ (List.mem_append_right _ (List.mem_append_right _ (List.mem_append_left _ (List.mem_of_getElem? (i := 3) rfl)))))
theorem gw_124 : (Cond.static yX6_in) ∈ G := List.mem_append_left _ (List.mem_append_right _ (List.mem_append_right _ (List.mem_append_right _ (List.mem_append_left _ (List.mem_of_getElem? (i := 4) rfl)))))
theorem gw_125 : (Cond.code yX6_in cX6_in 6 (some .boolean)) ∈ G := List.mem_append_left _ (List.mem_append_right _ (List.mem_append_right _ (List.mem_append_right _ (List.mem_append_left _ (List.mem_of_getElem? (i := 5) rfl)))))
theorem gw_126 : (Cond.methodLink RX6 85 yX6_left) ∈ G := List.mem_append_left _ (List.mem_append_right _ (List.mem_append_right _ (List.mem_append_right _ (List.mem_append_left _ (List.mem_of_getElem? (i := 6) rfl)))))
theorem gw_127 : (Cond.instanceMethod yX6_left) ∈ G := List.mem_append_left _ (List.mem_append_right _ (List.mem_append_right _ (List.mem_append_right _ (List.mem_append_left _ (List.mem_of_getElem? (i := 7) rfl)))))
theorem gw_128 : (Cond.selects RX6 yX6_left yX6_left) ∈ G := List.mem_append_left _ (List.mem_append_right _ (List.mem_append_right _ (List.mem_append_right _ (List.mem_append_left _ (List.mem_of_getElem? (i := 8) rfl)))))
theorem gw_129 : (Cond.code yX6_left cX6_left 1 (some .int)) ∈ G := List.mem_append_left _ (List.mem_append_right _ (List.mem_append_right _ (List.mem_append_right _ (List.mem_append_left _ (List.mem_of_getElem? (i := 9) rfl)))))
theorem gw_130 : (Cond.methodLink RX6 89 yX6_fails) ∈ G := List.mem_append_left _ (List.mem_append_right _ (List.mem_append_right _ (List.mem_append_right _ (List.mem_append_left _ (List.mem_of_getElem? (i := 10) rfl)))))
theorem gw_131 : (Cond.instanceMethod yX6_fails) ∈ G := List.mem_append_left _ (List.mem_append_right _ (List.mem_append_right _ (List.mem_append_right _ (List.mem_append_left _ (List.mem_of_getElem? (i := 11) rfl)))))
theorem gw_132 : (Cond.selects RX6 yX6_fails yX6_fails) ∈ G := List.mem_append_left _ (List.mem_append_right _ (List.mem_append_right _ (List.mem_append_right _ (List.mem_append_left _ (List.mem_of_getElem? (i := 12) rfl)))))
theorem gw_133 : (Cond.code yX6_fails cX6_fails 3 (some .int)) ∈ G := List.mem_append_left _ (List.mem_append_right _ (List.mem_append_right _ (List.mem_append_right _ (List.mem_append_left _ (List.mem_of_getElem? (i := 13) rfl)))))
theorem gw_134 : (Cond.methodLink RX6 80 yX6_over) ∈ G := List.mem_append_left _ (List.mem_append_right _ (List.mem_append_right _ (List.mem_append_right _ (List.mem_append_left _ (List.mem_of_getElem? (i := 14) rfl)))))
theorem gw_135 : (Cond.instanceMethod yX6_over) ∈ G := List.mem_append_left _ (List.mem_append_right _ (List.mem_append_right _ (List.mem_append_right _ (List.mem_append_left _ (List.mem_of_getElem? (i := 15) rfl)))))
theorem gw_136 : (Cond.selects RX6 yX6_over yX6_over) ∈ G := List.mem_append_left _ (List.mem_append_right _ (List.mem_append_right _ (List.mem_append_right _ (List.mem_append_left _ (List.mem_of_getElem? (i := 16) rfl)))))
theorem gw_137 : (Cond.code yX6_over cX6_over 1 none) ∈ G := List.mem_append_left _ (List.mem_append_right _ (List.mem_append_right _ (List.mem_append_right _ (List.mem_append_left _ (List.mem_of_getElem? (i := 17) rfl)))))
theorem gw_138 : (Cond.methodLink RL 38 yX5_tell) ∈ G := List.mem_append_left _ (List.mem_append_right _ (List.mem_append_right _ (List.mem_append_right _ (List.mem_append_left _ (List.mem_of_getElem? (i := 18) rfl)))))
theorem gw_139 : (Cond.instanceMethod yX5_tell) ∈ G := List.mem_append_left _ (List.mem_append_right _ (List.mem_append_right _ (List.mem_append_right _ (List.mem_append_left _ (List.mem_of_getElem? (i := 19) rfl)))))
theorem gw_140 : (Cond.selects RX5 yX5_tell yX5_tell) ∈ G := List.mem_append_left _ (List.mem_append_right _ (List.mem_append_right _ (List.mem_append_right _ (List.mem_append_left _ (List.mem_of_getElem? (i := 20) rfl)))))
theorem gw_141 : (Cond.code yX5_tell cX5_tell 7 (some .int)) ∈ G := List.mem_append_left _ (List.mem_append_right _ (List.mem_append_right _ (List.mem_append_right _ (List.mem_append_left _ (List.mem_of_getElem? (i := 21) rfl)))))
theorem gw_142 : (Cond.methodLink RX5 66 yX5_isEvent) ∈ G := List.mem_append_left _ (List.mem_append_right _ (List.mem_append_right _ (List.mem_append_right _ (List.mem_append_left _ (List.mem_of_getElem? (i := 22) rfl)))))
theorem gw_143 : (Cond.static yX5_isEvent) ∈ G := List.mem_append_left _ (List.mem_append_right _ (List.mem_append_right _ (List.mem_append_right _ (List.mem_append_left _ (List.mem_of_getElem? (i := 23) rfl)))))
theorem gw_144 : (Cond.code yX5_isEvent cX5_isEvent 4 (some .boolean)) ∈ G := List.mem_append_left _ (List.mem_append_right _ (List.mem_append_right _ (List.mem_append_right _ (List.mem_append_left _ (List.mem_of_getElem? (i := 24) rfl)))))
theorem gw_145 : (Cond.methodLink RX5 154 yX5_isTopic) ∈ G := List.mem_append_left _ (List.mem_append_right _ (List.mem_append_right _ (List.mem_append_right _ (List.mem_append_left _ (List.mem_of_getElem? (i := 25) rfl)))))
theorem gw_146 : (Cond.static yX5_isTopic) ∈ G := List.mem_append_left _ (List.mem_append_right _ (List.mem_append_right _ (List.mem_append_right _ (List.mem_append_left _ (List.mem_of_getElem? (i := 26) rfl)))))
theorem gw_147 : (Cond.code yX5_isTopic cX5_isTopic 1 (some .boolean)) ∈ G := List.mem_append_left _ (List.mem_append_right _ (List.mem_append_right _ (List.mem_append_right _ (List.mem_append_left _ (List.mem_of_getElem? (i := 27) rfl)))))
theorem gw_148 : (Cond.methodLink RX5 185 yX5_isTopicOrNone) ∈ G := List.mem_append_left _ (List.mem_append_right _ (List.mem_append_right _ (List.mem_append_right _ (List.mem_append_left _ (List.mem_of_getElem? (i := 28) rfl)))))
theorem gw_149 : (Cond.static yX5_isTopicOrNone) ∈ G := List.mem_append_left _ (List.mem_append_right _ (List.mem_append_right _ (List.mem_append_right _ (List.mem_append_left _ (List.mem_of_getElem? (i := 29) rfl)))))
theorem gw_150 : (Cond.code yX5_isTopicOrNone cX5_isTopicOrNone 1 (some .boolean)) ∈ G := List.mem_append_left _ (List.mem_append_right _ (List.mem_append_right _ (List.mem_append_right _ (List.mem_append_left _ (List.mem_of_getElem? (i := 30) rfl)))))
theorem gw_151 : (Cond.methodLink RX5 70 yX5_topicCount) ∈ G := List.mem_append_left _ (List.mem_append_right _ (List.mem_append_right _ (List.mem_append_right _ (List.mem_append_left _ (List.mem_of_getElem? (i := 31) rfl)))))
theorem gw_152 : (Cond.static yX5_topicCount) ∈ G := List.mem_append_left _ (List.mem_append_right _ (List.mem_append_right _ (List.mem_append_right _ (List.mem_append_left _ (List.mem_of_getElem? (i := 32) rfl)))))
theorem gw_153 : (Cond.code yX5_topicCount cX5_topicCount 2 (some .int)) ∈ G := List.mem_append_left _ (List.mem_append_right _ (List.mem_append_right _ (List.mem_append_right _ (List.mem_append_left _ (List.mem_of_getElem? (i := 33) rfl)))))
theorem gw_154 : (Cond.methodLink RX5 74 yX0_add) ∈ G := List.mem_append_left _ (List.mem_append_right _ (List.mem_append_right _ (List.mem_append_right _ (List.mem_append_left _ (List.mem_of_getElem? (i := 34) rfl)))))
theorem gw_155 : (Cond.instanceMethod yX0_add) ∈ G := List.mem_append_left _ (List.mem_append_right _ (List.mem_append_right _ (List.mem_append_right _ (List.mem_append_left _ (List.mem_of_getElem? (i := 35) rfl)))))
theorem gw_156 : (Cond.selects RX0 yX0_add yX0_add) ∈ G := List.mem_append_left _ (List.mem_append_right _ (List.mem_append_right _ (List.mem_append_right _ (List.mem_append_left _ (List.mem_of_getElem? (i := 36) rfl)))))
theorem gw_157 : (Cond.code yX0_add cX0_add 7 none) ∈ G := List.mem_append_left _ (List.mem_append_right _ (List.mem_append_right _ (List.mem_append_right _ (List.mem_append_left _ (List.mem_of_getElem? (i := 37) rfl)))))
theorem gw_158 : (Cond.fieldLink RX0 32 "EventRows$Block" "count" "I") ∈ G := List.mem_append_left _ (List.mem_append_right _ (List.mem_append_right _ (List.mem_append_right _ (List.mem_append_left _ (List.mem_of_getElem? (i := 38) rfl)))))
theorem gw_159 : (Cond.methodLink RL 42 yX6_tell) ∈ G := List.mem_append_left _ (List.mem_append_right _ (List.mem_append_right _ (List.mem_append_right _ (List.mem_append_left _ (List.mem_of_getElem? (i := 39) rfl)))))
theorem gw_160 : (Cond.instanceMethod yX6_tell) ∈ G := List.mem_append_left _ (List.mem_append_right _ (List.mem_append_right _ (List.mem_append_right _ (List.mem_append_right _ (List.mem_append_left _ (List.mem_of_getElem? (i := 0) rfl))))))
theorem gw_161 : (Cond.selects RX6 yX6_tell yX6_tell) ∈ G := List.mem_append_left _ (List.mem_append_right _ (List.mem_append_right _ (List.mem_append_right _ (List.mem_append_right _ (List.mem_append_left _ (List.mem_of_getElem? (i := 1) rfl))))))
theorem gw_162 : (Cond.code yX6_tell cX6_tell 9 (some .int)) ∈ G := List.mem_append_left _ (List.mem_append_right _ (List.mem_append_right _ (List.mem_append_right _ (List.mem_append_right _ (List.mem_append_left _ (List.mem_of_getElem? (i := 2) rfl))))))
theorem gw_163 : (Cond.fieldLink RX6 102 "EventRowsModel" "closed" "I") ∈ G := List.mem_append_left _ (List.mem_append_right _ (List.mem_append_right _ (List.mem_append_right _ (List.mem_append_right _ (List.mem_append_left _ (List.mem_of_getElem? (i := 3) rfl))))))
theorem gw_164 : (Cond.methodLink RX6 98 yX6_isEvent) ∈ G := List.mem_append_left _ (List.mem_append_right _ (List.mem_append_right _ (List.mem_append_right _ (List.mem_append_right _ (List.mem_append_left _ (List.mem_of_getElem? (i := 4) rfl))))))
theorem gw_165 : (Cond.static yX6_isEvent) ∈ G := List.mem_append_left _ (List.mem_append_right _ (List.mem_append_right _ (List.mem_append_right _ (List.mem_append_right _ (List.mem_append_left _ (List.mem_of_getElem? (i := 5) rfl))))))
theorem gw_166 : (Cond.code yX6_isEvent cX6_isEvent 4 (some .boolean)) ∈ G := List.mem_append_left _ (List.mem_append_right _ (List.mem_append_right _ (List.mem_append_right _ (List.mem_append_right _ (List.mem_append_left _ (List.mem_of_getElem? (i := 6) rfl))))))
theorem gw_167 : (Cond.constantLong RX6 92 (9)) ∈ G := List.mem_append_left _ (List.mem_append_right _ (List.mem_append_right _ (List.mem_append_right _ (List.mem_append_right _ (List.mem_append_left _ (List.mem_of_getElem? (i := 7) rfl))))))
theorem gw_168 : (Cond.constantLong RX6 94 (999)) ∈ G := List.mem_append_left _ (List.mem_append_right _ (List.mem_append_right _ (List.mem_append_right _ (List.mem_append_right _ (List.mem_append_left _ (List.mem_of_getElem? (i := 8) rfl))))))
theorem gw_169 : (Cond.constantLong RX6 96 (-1)) ∈ G := List.mem_append_left _ (List.mem_append_right _ (List.mem_append_right _ (List.mem_append_right _ (List.mem_append_right _ (List.mem_append_left _ (List.mem_of_getElem? (i := 9) rfl))))))
theorem gw_170 : (Cond.methodLink RL 43 yX5_end) ∈ G := List.mem_append_left _ (List.mem_append_right _ (List.mem_append_right _ (List.mem_append_right _ (List.mem_append_right _ (List.mem_append_left _ (List.mem_of_getElem? (i := 10) rfl))))))
theorem gw_171 : (Cond.instanceMethod yX5_end) ∈ G := List.mem_append_left _ (List.mem_append_right _ (List.mem_append_right _ (List.mem_append_right _ (List.mem_append_right _ (List.mem_append_left _ (List.mem_of_getElem? (i := 11) rfl))))))
theorem gw_172 : (Cond.selects RX5 yX5_end yX5_end) ∈ G := List.mem_append_left _ (List.mem_append_right _ (List.mem_append_right _ (List.mem_append_right _ (List.mem_append_right _ (List.mem_append_left _ (List.mem_of_getElem? (i := 12) rfl))))))
theorem gw_173 : (Cond.code yX5_end cX5_end 2 (some .int)) ∈ G := List.mem_append_left _ (List.mem_append_right _ (List.mem_append_right _ (List.mem_append_right _ (List.mem_append_right _ (List.mem_append_left _ (List.mem_of_getElem? (i := 13) rfl))))))
theorem gw_174 : (Cond.methodLink RX5 78 yX1_pop) ∈ G := List.mem_append_left _ (List.mem_append_right _ (List.mem_append_right _ (List.mem_append_right _ (List.mem_append_right _ (List.mem_append_left _ (List.mem_of_getElem? (i := 14) rfl))))))
theorem gw_175 : (Cond.methodLink RL 47 yX6_end) ∈ G := List.mem_append_left _ (List.mem_append_right _ (List.mem_append_right _ (List.mem_append_right _ (List.mem_append_right _ (List.mem_append_left _ (List.mem_of_getElem? (i := 15) rfl))))))
theorem gw_176 : (Cond.instanceMethod yX6_end) ∈ G := List.mem_append_left _ (List.mem_append_right _ (List.mem_append_right _ (List.mem_append_right _ (List.mem_append_right _ (List.mem_append_left _ (List.mem_of_getElem? (i := 16) rfl))))))
theorem gw_177 : (Cond.selects RX6 yX6_end yX6_end) ∈ G := List.mem_append_left _ (List.mem_append_right _ (List.mem_append_right _ (List.mem_append_right _ (List.mem_append_right _ (List.mem_append_left _ (List.mem_of_getElem? (i := 17) rfl))))))
theorem gw_178 : (Cond.code yX6_end cX6_end 3 (some .int)) ∈ G := List.mem_append_left _ (List.mem_append_right _ (List.mem_append_right _ (List.mem_append_right _ (List.mem_append_right _ (List.mem_append_left _ (List.mem_of_getElem? (i := 18) rfl))))))
theorem gw_179 : (Cond.methodLink RL 48 yX5_told) ∈ G := List.mem_append_left _ (List.mem_append_right _ (List.mem_append_right _ (List.mem_append_right _ (List.mem_append_right _ (List.mem_append_left _ (List.mem_of_getElem? (i := 19) rfl))))))
theorem gw_180 : (Cond.instanceMethod yX5_told) ∈ G := List.mem_append_left _ (List.mem_append_right _ (List.mem_append_right _ (List.mem_append_right _ (List.mem_append_right _ (List.mem_append_left _ (List.mem_of_getElem? (i := 20) rfl))))))
theorem gw_181 : (Cond.selects RX5 yX5_told yX5_told) ∈ G := List.mem_append_left _ (List.mem_append_right _ (List.mem_append_right _ (List.mem_append_right _ (List.mem_append_right _ (List.mem_append_left _ (List.mem_of_getElem? (i := 21) rfl))))))
theorem gw_182 : (Cond.code yX5_told cX5_told 2 (some .int)) ∈ G := List.mem_append_left _ (List.mem_append_right _ (List.mem_append_right _ (List.mem_append_right _ (List.mem_append_right _ (List.mem_append_left _ (List.mem_of_getElem? (i := 22) rfl))))))
theorem gw_183 : (Cond.fieldLink RX5 87 "EventRows" "closedEvents" "I") ∈ G := List.mem_append_left _ (List.mem_append_right _ (List.mem_append_right _ (List.mem_append_right _ (List.mem_append_right _ (List.mem_append_left _ (List.mem_of_getElem? (i := 23) rfl))))))
theorem gw_184 : (Cond.fieldLink RX5 90 "EventRows" "blockCount" "I") ∈ G := List.mem_append_left _ (List.mem_append_right _ (List.mem_append_right _ (List.mem_append_right _ (List.mem_append_right _ (List.mem_append_left _ (List.mem_of_getElem? (i := 24) rfl))))))
theorem gw_185 : (Cond.fieldLink RX5 93 "EventRows" "subscriberCount" "I") ∈ G := List.mem_append_left _ (List.mem_append_right _ (List.mem_append_right _ (List.mem_append_right _ (List.mem_append_right _ (List.mem_append_left _ (List.mem_of_getElem? (i := 25) rfl))))))
theorem gw_186 : (Cond.methodLink RX5 81 yX1_usedOfInnermost) ∈ G := List.mem_append_left _ (List.mem_append_right _ (List.mem_append_right _ (List.mem_append_right _ (List.mem_append_right _ (List.mem_append_left _ (List.mem_of_getElem? (i := 26) rfl))))))
theorem gw_187 : (Cond.instanceMethod yX1_usedOfInnermost) ∈ G := List.mem_append_left _ (List.mem_append_right _ (List.mem_append_right _ (List.mem_append_right _ (List.mem_append_right _ (List.mem_append_left _ (List.mem_of_getElem? (i := 27) rfl))))))
theorem gw_188 : (Cond.selects RX1 yX1_usedOfInnermost yX1_usedOfInnermost) ∈ G := List.mem_append_left _ (List.mem_append_right _ (List.mem_append_right _ (List.mem_append_right _ (List.mem_append_right _ (List.mem_append_left _ (List.mem_of_getElem? (i := 28) rfl))))))
theorem gw_189 : (Cond.code yX1_usedOfInnermost cX1_usedOfInnermost 1 (some .int)) ∈ G := List.mem_append_left _ (List.mem_append_right _ (List.mem_append_right _ (List.mem_append_right _ (List.mem_append_right _ (List.mem_append_left _ (List.mem_of_getElem? (i := 29) rfl))))))
theorem gw_190 : (Cond.methodLink RX5 84 yX1_leftOfInnermost) ∈ G := List.mem_append_left _ (List.mem_append_right _ (List.mem_append_right _ (List.mem_append_right _ (List.mem_append_right _ (List.mem_append_left _ (List.mem_of_getElem? (i := 30) rfl))))))
theorem gw_191 : (Cond.methodLink RL 52 yX6_told) ∈ G := List.mem_append_left _ (List.mem_append_right _ (List.mem_append_right _ (List.mem_append_right _ (List.mem_append_right _ (List.mem_append_left _ (List.mem_of_getElem? (i := 31) rfl))))))
theorem gw_192 : (Cond.instanceMethod yX6_told) ∈ G := List.mem_append_left _ (List.mem_append_right _ (List.mem_append_right _ (List.mem_append_right _ (List.mem_append_right _ (List.mem_append_left _ (List.mem_of_getElem? (i := 32) rfl))))))
theorem gw_193 : (Cond.selects RX6 yX6_told yX6_told) ∈ G := List.mem_append_left _ (List.mem_append_right _ (List.mem_append_right _ (List.mem_append_right _ (List.mem_append_right _ (List.mem_append_left _ (List.mem_of_getElem? (i := 33) rfl))))))
theorem gw_194 : (Cond.code yX6_told cX6_told 2 (some .int)) ∈ G := List.mem_append_left _ (List.mem_append_right _ (List.mem_append_right _ (List.mem_append_right _ (List.mem_append_right _ (List.mem_append_left _ (List.mem_of_getElem? (i := 34) rfl))))))
theorem gw_195 : (Cond.fieldLink RX6 67 "EventRowsModel" "blocks" "I") ∈ G := List.mem_append_left _ (List.mem_append_right _ (List.mem_append_right _ (List.mem_append_right _ (List.mem_append_right _ (List.mem_append_left _ (List.mem_of_getElem? (i := 35) rfl))))))
theorem gw_196 : (Cond.fieldLink RX6 105 "EventRowsModel" "subscribers" "I") ∈ G := List.mem_append_left _ (List.mem_append_right _ (List.mem_append_right _ (List.mem_append_right _ (List.mem_append_right _ (List.mem_append_left _ (List.mem_of_getElem? (i := 36) rfl))))))
theorem gw_197 : (Cond.methodLink RL 53 yX5_close) ∈ G := List.mem_append_left _ (List.mem_append_right _ (List.mem_append_right _ (List.mem_append_right _ (List.mem_append_right _ (List.mem_append_left _ (List.mem_of_getElem? (i := 37) rfl))))))
theorem gw_198 : (Cond.instanceMethod yX5_close) ∈ G := List.mem_append_left _ (List.mem_append_right _ (List.mem_append_right _ (List.mem_append_right _ (List.mem_append_right _ (List.mem_append_left _ (List.mem_of_getElem? (i := 38) rfl))))))
theorem gw_199 : (Cond.selects RX5 yX5_close yX5_close) ∈ G := List.mem_append_left _ (List.mem_append_right _ (List.mem_append_right _ (List.mem_append_right _ (List.mem_append_right _ (List.mem_append_left _ (List.mem_of_getElem? (i := 39) rfl))))))
theorem gw_200 : (Cond.code yX5_close cX5_close 2 (some .int)) ∈ G := List.mem_append_left _ (List.mem_append_right _ (List.mem_append_right _ (List.mem_append_right _ (List.mem_append_right _ (List.mem_append_right _ (List.mem_append_left _ (List.mem_of_getElem? (i := 0) rfl)))))))
theorem gw_201 : (Cond.methodLink RX5 96 yX4_topOf) ∈ G := List.mem_append_left _ (List.mem_append_right _ (List.mem_append_right _ (List.mem_append_right _ (List.mem_append_right _ (List.mem_append_right _ (List.mem_append_left _ (List.mem_of_getElem? (i := 1) rfl)))))))
theorem gw_202 : (Cond.instanceMethod yX4_topOf) ∈ G := List.mem_append_left _ (List.mem_append_right _ (List.mem_append_right _ (List.mem_append_right _ (List.mem_append_right _ (List.mem_append_right _ (List.mem_append_left _ (List.mem_of_getElem? (i := 2) rfl)))))))
theorem gw_203 : (Cond.selects RX4 yX4_topOf yX4_topOf) ∈ G := List.mem_append_left _ (List.mem_append_right _ (List.mem_append_right _ (List.mem_append_right _ (List.mem_append_right _ (List.mem_append_right _ (List.mem_append_left _ (List.mem_of_getElem? (i := 3) rfl)))))))
theorem gw_204 : (Cond.code yX4_topOf cX4_topOf 3 (some .long)) ∈ G := List.mem_append_left _ (List.mem_append_right _ (List.mem_append_right _ (List.mem_append_right _ (List.mem_append_right _ (List.mem_append_right _ (List.mem_append_left _ (List.mem_of_getElem? (i := 4) rfl)))))))
theorem gw_205 : (Cond.fieldLink RX4 21 "EventRows$Tree" "width" "I") ∈ G := List.mem_append_left _ (List.mem_append_right _ (List.mem_append_right _ (List.mem_append_right _ (List.mem_append_right _ (List.mem_append_right _ (List.mem_append_left _ (List.mem_of_getElem? (i := 5) rfl)))))))
theorem gw_206 : (Cond.methodLink RX4 32 yX4_plant) ∈ G := List.mem_append_left _ (List.mem_append_right _ (List.mem_append_right _ (List.mem_append_right _ (List.mem_append_right _ (List.mem_append_right _ (List.mem_append_left _ (List.mem_of_getElem? (i := 6) rfl)))))))
theorem gw_207 : (Cond.instanceMethod yX4_plant) ∈ G := List.mem_append_left _ (List.mem_append_right _ (List.mem_append_right _ (List.mem_append_right _ (List.mem_append_right _ (List.mem_append_right _ (List.mem_append_left _ (List.mem_of_getElem? (i := 7) rfl)))))))
theorem gw_208 : (Cond.selects RX4 yX4_plant yX4_plant) ∈ G := List.mem_append_left _ (List.mem_append_right _ (List.mem_append_right _ (List.mem_append_right _ (List.mem_append_right _ (List.mem_append_right _ (List.mem_append_left _ (List.mem_of_getElem? (i := 8) rfl)))))))
theorem gw_209 : (Cond.code yX4_plant cX4_plant 3 none) ∈ G := List.mem_append_left _ (List.mem_append_right _ (List.mem_append_right _ (List.mem_append_right _ (List.mem_append_right _ (List.mem_append_right _ (List.mem_append_left _ (List.mem_of_getElem? (i := 9) rfl)))))))
theorem gw_210 : (Cond.fieldLink RX4 15 "EventRows$Block" "count" "I") ∈ G := List.mem_append_left _ (List.mem_append_right _ (List.mem_append_right _ (List.mem_append_right _ (List.mem_append_right _ (List.mem_append_right _ (List.mem_append_left _ (List.mem_of_getElem? (i := 10) rfl)))))))
theorem gw_211 : (Cond.methodLink RX4 24 yX0_leaf) ∈ G := List.mem_append_left _ (List.mem_append_right _ (List.mem_append_right _ (List.mem_append_right _ (List.mem_append_right _ (List.mem_append_right _ (List.mem_append_left _ (List.mem_of_getElem? (i := 11) rfl)))))))
theorem gw_212 : (Cond.instanceMethod yX0_leaf) ∈ G := List.mem_append_left _ (List.mem_append_right _ (List.mem_append_right _ (List.mem_append_right _ (List.mem_append_right _ (List.mem_append_right _ (List.mem_append_left _ (List.mem_of_getElem? (i := 12) rfl)))))))
theorem gw_213 : (Cond.selects RX0 yX0_leaf yX0_leaf) ∈ G := List.mem_append_left _ (List.mem_append_right _ (List.mem_append_right _ (List.mem_append_right _ (List.mem_append_right _ (List.mem_append_right _ (List.mem_append_left _ (List.mem_of_getElem? (i := 13) rfl)))))))
theorem gw_214 : (Cond.code yX0_leaf cX0_leaf 2 (some .long)) ∈ G := List.mem_append_left _ (List.mem_append_right _ (List.mem_append_right _ (List.mem_append_right _ (List.mem_append_right _ (List.mem_append_right _ (List.mem_append_left _ (List.mem_of_getElem? (i := 14) rfl)))))))
theorem gw_215 : (Cond.static yX5_leafOf) ∈ G := List.mem_append_left _ (List.mem_append_right _ (List.mem_append_right _ (List.mem_append_right _ (List.mem_append_right _ (List.mem_append_right _ (List.mem_append_left _ (List.mem_of_getElem? (i := 15) rfl)))))))
theorem gw_216 : (Cond.code yX5_leafOf cX5_leafOf 9 (some .long)) ∈ G := List.mem_append_left _ (List.mem_append_right _ (List.mem_append_right _ (List.mem_append_right _ (List.mem_append_right _ (List.mem_append_right _ (List.mem_append_left _ (List.mem_of_getElem? (i := 16) rfl)))))))
theorem gw_217 : (Cond.methodLink RX5 223 yX5_mix) ∈ G := List.mem_append_left _ (List.mem_append_right _ (List.mem_append_right _ (List.mem_append_right _ (List.mem_append_right _ (List.mem_append_right _ (List.mem_append_left _ (List.mem_of_getElem? (i := 17) rfl)))))))
theorem gw_218 : (Cond.static yX5_mix) ∈ G := List.mem_append_left _ (List.mem_append_right _ (List.mem_append_right _ (List.mem_append_right _ (List.mem_append_right _ (List.mem_append_right _ (List.mem_append_left _ (List.mem_of_getElem? (i := 18) rfl)))))))
theorem gw_219 : (Cond.code yX5_mix cX5_mix 6 (some .long)) ∈ G := List.mem_append_left _ (List.mem_append_right _ (List.mem_append_right _ (List.mem_append_right _ (List.mem_append_right _ (List.mem_append_right _ (List.mem_append_left _ (List.mem_of_getElem? (i := 19) rfl)))))))
theorem gw_220 : (Cond.constantLong RX5 217 (31)) ∈ G := List.mem_append_left _ (List.mem_append_right _ (List.mem_append_right _ (List.mem_append_right _ (List.mem_append_right _ (List.mem_append_right _ (List.mem_append_left _ (List.mem_of_getElem? (i := 20) rfl)))))))
theorem gw_221 : (Cond.constantLong RX5 219 (7)) ∈ G := List.mem_append_left _ (List.mem_append_right _ (List.mem_append_right _ (List.mem_append_right _ (List.mem_append_right _ (List.mem_append_right _ (List.mem_append_left _ (List.mem_of_getElem? (i := 21) rfl)))))))
theorem gw_222 : (Cond.constantLong RX5 221 (-7046029254386353131)) ∈ G := List.mem_append_left _ (List.mem_append_right _ (List.mem_append_right _ (List.mem_append_right _ (List.mem_append_right _ (List.mem_append_right _ (List.mem_append_left _ (List.mem_of_getElem? (i := 22) rfl)))))))
theorem gw_223 : (Cond.methodLink RX4 36 yX4_rise) ∈ G := List.mem_append_left _ (List.mem_append_right _ (List.mem_append_right _ (List.mem_append_right _ (List.mem_append_right _ (List.mem_append_right _ (List.mem_append_left _ (List.mem_of_getElem? (i := 23) rfl)))))))
theorem gw_224 : (Cond.instanceMethod yX4_rise) ∈ G := List.mem_append_left _ (List.mem_append_right _ (List.mem_append_right _ (List.mem_append_right _ (List.mem_append_right _ (List.mem_append_right _ (List.mem_append_left _ (List.mem_of_getElem? (i := 24) rfl)))))))
theorem gw_225 : (Cond.selects RX4 yX4_rise yX4_rise) ∈ G := List.mem_append_left _ (List.mem_append_right _ (List.mem_append_right _ (List.mem_append_right _ (List.mem_append_right _ (List.mem_append_right _ (List.mem_append_left _ (List.mem_of_getElem? (i := 25) rfl)))))))
theorem gw_226 : (Cond.code yX4_rise cX4_rise 3 none) ∈ G := List.mem_append_left _ (List.mem_append_right _ (List.mem_append_right _ (List.mem_append_right _ (List.mem_append_right _ (List.mem_append_right _ (List.mem_append_left _ (List.mem_of_getElem? (i := 26) rfl)))))))
theorem gw_227 : (Cond.methodLink RX5 100 yX0_seal) ∈ G := List.mem_append_left _ (List.mem_append_right _ (List.mem_append_right _ (List.mem_append_right _ (List.mem_append_right _ (List.mem_append_right _ (List.mem_append_left _ (List.mem_of_getElem? (i := 27) rfl)))))))
theorem gw_228 : (Cond.instanceMethod yX0_seal) ∈ G := List.mem_append_left _ (List.mem_append_right _ (List.mem_append_right _ (List.mem_append_right _ (List.mem_append_right _ (List.mem_append_right _ (List.mem_append_left _ (List.mem_of_getElem? (i := 28) rfl)))))))
theorem gw_229 : (Cond.selects RX0 yX0_seal yX0_seal) ∈ G := List.mem_append_left _ (List.mem_append_right _ (List.mem_append_right _ (List.mem_append_right _ (List.mem_append_right _ (List.mem_append_right _ (List.mem_append_left _ (List.mem_of_getElem? (i := 29) rfl)))))))
theorem gw_230 : (Cond.code yX0_seal cX0_seal 5 none) ∈ G := List.mem_append_left _ (List.mem_append_right _ (List.mem_append_right _ (List.mem_append_right _ (List.mem_append_right _ (List.mem_append_right _ (List.mem_append_left _ (List.mem_of_getElem? (i := 30) rfl)))))))
theorem gw_231 : (Cond.fieldLink RX0 36 "EventRows$Block" "firstSerial" "I") ∈ G := List.mem_append_left _ (List.mem_append_right _ (List.mem_append_right _ (List.mem_append_right _ (List.mem_append_right _ (List.mem_append_right _ (List.mem_append_left _ (List.mem_of_getElem? (i := 31) rfl)))))))
theorem gw_232 : (Cond.fieldLink RX0 39 "EventRows$Block" "rootDigest" "J") ∈ G := List.mem_append_left _ (List.mem_append_right _ (List.mem_append_right _ (List.mem_append_right _ (List.mem_append_right _ (List.mem_append_right _ (List.mem_append_left _ (List.mem_of_getElem? (i := 32) rfl)))))))
theorem gw_233 : (Cond.fieldLink RX0 43 "EventRows$Block" "filterBits" "J") ∈ G := List.mem_append_left _ (List.mem_append_right _ (List.mem_append_right _ (List.mem_append_right _ (List.mem_append_right _ (List.mem_append_right _ (List.mem_append_left _ (List.mem_of_getElem? (i := 33) rfl)))))))
theorem gw_234 : (Cond.methodLink RX0 46 yX0_topicBits) ∈ G := List.mem_append_left _ (List.mem_append_right _ (List.mem_append_right _ (List.mem_append_right _ (List.mem_append_right _ (List.mem_append_right _ (List.mem_append_left _ (List.mem_of_getElem? (i := 34) rfl)))))))
theorem gw_235 : (Cond.instanceMethod yX0_topicBits) ∈ G := List.mem_append_left _ (List.mem_append_right _ (List.mem_append_right _ (List.mem_append_right _ (List.mem_append_right _ (List.mem_append_right _ (List.mem_append_left _ (List.mem_of_getElem? (i := 35) rfl)))))))
theorem gw_236 : (Cond.selects RX0 yX0_topicBits yX0_topicBits) ∈ G := List.mem_append_left _ (List.mem_append_right _ (List.mem_append_right _ (List.mem_append_right _ (List.mem_append_right _ (List.mem_append_right _ (List.mem_append_left _ (List.mem_of_getElem? (i := 36) rfl)))))))
theorem gw_237 : (Cond.code yX0_topicBits cX0_topicBits 4 (some .long)) ∈ G := List.mem_append_left _ (List.mem_append_right _ (List.mem_append_right _ (List.mem_append_right _ (List.mem_append_right _ (List.mem_append_right _ (List.mem_append_left _ (List.mem_of_getElem? (i := 37) rfl)))))))
theorem gw_238 : (Cond.static yX5_bitsOf) ∈ G := List.mem_append_left _ (List.mem_append_right _ (List.mem_append_right _ (List.mem_append_right _ (List.mem_append_right _ (List.mem_append_right _ (List.mem_append_left _ (List.mem_of_getElem? (i := 38) rfl)))))))
theorem gw_239 : (Cond.code yX5_bitsOf cX5_bitsOf 1 (some .long)) ∈ G := List.mem_append_left _ (List.mem_append_right _ (List.mem_append_right _ (List.mem_append_right _ (List.mem_append_right _ (List.mem_append_right _ (List.mem_append_left _ (List.mem_of_getElem? (i := 39) rfl)))))))
theorem gw_240 : (Cond.methodLink RX5 104 yX0_clear) ∈ G := List.mem_append_left _ (List.mem_append_right _ (List.mem_append_right _ (List.mem_append_right _ (List.mem_append_right _ (List.mem_append_right _ (List.mem_append_right _ (List.mem_append_left _ (List.mem_of_getElem? (i := 0) rfl))))))))
theorem gw_241 : (Cond.instanceMethod yX0_clear) ∈ G := List.mem_append_left _ (List.mem_append_right _ (List.mem_append_right _ (List.mem_append_right _ (List.mem_append_right _ (List.mem_append_right _ (List.mem_append_right _ (List.mem_append_left _ (List.mem_of_getElem? (i := 1) rfl))))))))
theorem gw_242 : (Cond.selects RX0 yX0_clear yX0_clear) ∈ G := List.mem_append_left _ (List.mem_append_right _ (List.mem_append_right _ (List.mem_append_right _ (List.mem_append_right _ (List.mem_append_right _ (List.mem_append_right _ (List.mem_append_left _ (List.mem_of_getElem? (i := 2) rfl))))))))
theorem gw_243 : (Cond.code yX0_clear cX0_clear 1 none) ∈ G := List.mem_append_left _ (List.mem_append_right _ (List.mem_append_right _ (List.mem_append_right _ (List.mem_append_right _ (List.mem_append_right _ (List.mem_append_right _ (List.mem_append_left _ (List.mem_of_getElem? (i := 3) rfl))))))))
theorem gw_244 : (Cond.methodLink RL 57 yX6_close) ∈ G := List.mem_append_left _ (List.mem_append_right _ (List.mem_append_right _ (List.mem_append_right _ (List.mem_append_right _ (List.mem_append_right _ (List.mem_append_right _ (List.mem_append_left _ (List.mem_of_getElem? (i := 4) rfl))))))))
theorem gw_245 : (Cond.instanceMethod yX6_close) ∈ G := List.mem_append_left _ (List.mem_append_right _ (List.mem_append_right _ (List.mem_append_right _ (List.mem_append_right _ (List.mem_append_right _ (List.mem_append_right _ (List.mem_append_left _ (List.mem_of_getElem? (i := 5) rfl))))))))
theorem gw_246 : (Cond.selects RX6 yX6_close yX6_close) ∈ G := List.mem_append_left _ (List.mem_append_right _ (List.mem_append_right _ (List.mem_append_right _ (List.mem_append_right _ (List.mem_append_right _ (List.mem_append_right _ (List.mem_append_left _ (List.mem_of_getElem? (i := 6) rfl))))))))
theorem gw_247 : (Cond.code yX6_close cX6_close 7 (some .int)) ∈ G := List.mem_append_left _ (List.mem_append_right _ (List.mem_append_right _ (List.mem_append_right _ (List.mem_append_right _ (List.mem_append_right _ (List.mem_append_right _ (List.mem_append_left _ (List.mem_of_getElem? (i := 7) rfl))))))))
theorem gw_248 : (Cond.methodLink RX6 122 yX6_bitsOf) ∈ G := List.mem_append_left _ (List.mem_append_right _ (List.mem_append_right _ (List.mem_append_right _ (List.mem_append_right _ (List.mem_append_right _ (List.mem_append_right _ (List.mem_append_left _ (List.mem_of_getElem? (i := 8) rfl))))))))
theorem gw_249 : (Cond.static yX6_bitsOf) ∈ G := List.mem_append_left _ (List.mem_append_right _ (List.mem_append_right _ (List.mem_append_right _ (List.mem_append_right _ (List.mem_append_right _ (List.mem_append_right _ (List.mem_append_left _ (List.mem_of_getElem? (i := 9) rfl))))))))
theorem gw_250 : (Cond.code yX6_bitsOf cX6_bitsOf 1 (some .long)) ∈ G := List.mem_append_left _ (List.mem_append_right _ (List.mem_append_right _ (List.mem_append_right _ (List.mem_append_right _ (List.mem_append_right _ (List.mem_append_right _ (List.mem_append_left _ (List.mem_of_getElem? (i := 10) rfl))))))))
theorem gw_251 : (Cond.methodLink RX6 126 yX6_leaves) ∈ G := List.mem_append_left _ (List.mem_append_right _ (List.mem_append_right _ (List.mem_append_right _ (List.mem_append_right _ (List.mem_append_right _ (List.mem_append_right _ (List.mem_append_left _ (List.mem_of_getElem? (i := 11) rfl))))))))
theorem gw_252 : (Cond.instanceMethod yX6_leaves) ∈ G := List.mem_append_left _ (List.mem_append_right _ (List.mem_append_right _ (List.mem_append_right _ (List.mem_append_right _ (List.mem_append_right _ (List.mem_append_right _ (List.mem_append_left _ (List.mem_of_getElem? (i := 12) rfl))))))))
theorem gw_253 : (Cond.selects RX6 yX6_leaves yX6_leaves) ∈ G := List.mem_append_left _ (List.mem_append_right _ (List.mem_append_right _ (List.mem_append_right _ (List.mem_append_right _ (List.mem_append_right _ (List.mem_append_right _ (List.mem_append_left _ (List.mem_of_getElem? (i := 13) rfl))))))))
theorem gw_254 : (Cond.code yX6_leaves cX6_leaves 4 none) ∈ G := List.mem_append_left _ (List.mem_append_right _ (List.mem_append_right _ (List.mem_append_right _ (List.mem_append_right _ (List.mem_append_right _ (List.mem_append_right _ (List.mem_append_left _ (List.mem_of_getElem? (i := 14) rfl))))))))
theorem gw_255 : (Cond.methodLink RX6 118 yX6_leaf) ∈ G := List.mem_append_left _ (List.mem_append_right _ (List.mem_append_right _ (List.mem_append_right _ (List.mem_append_right _ (List.mem_append_right _ (List.mem_append_right _ (List.mem_append_left _ (List.mem_of_getElem? (i := 15) rfl))))))))
theorem gw_256 : (Cond.static yX6_leaf) ∈ G := List.mem_append_left _ (List.mem_append_right _ (List.mem_append_right _ (List.mem_append_right _ (List.mem_append_right _ (List.mem_append_right _ (List.mem_append_right _ (List.mem_append_left _ (List.mem_of_getElem? (i := 16) rfl))))))))
theorem gw_257 : (Cond.code yX6_leaf cX6_leaf 9 (some .long)) ∈ G := List.mem_append_left _ (List.mem_append_right _ (List.mem_append_right _ (List.mem_append_right _ (List.mem_append_right _ (List.mem_append_right _ (List.mem_append_right _ (List.mem_append_left _ (List.mem_of_getElem? (i := 17) rfl))))))))
theorem gw_258 : (Cond.methodLink RX6 114 yX6_mix) ∈ G := List.mem_append_left _ (List.mem_append_right _ (List.mem_append_right _ (List.mem_append_right _ (List.mem_append_right _ (List.mem_append_right _ (List.mem_append_right _ (List.mem_append_left _ (List.mem_of_getElem? (i := 18) rfl))))))))
theorem gw_259 : (Cond.static yX6_mix) ∈ G := List.mem_append_left _ (List.mem_append_right _ (List.mem_append_right _ (List.mem_append_right _ (List.mem_append_right _ (List.mem_append_right _ (List.mem_append_right _ (List.mem_append_left _ (List.mem_of_getElem? (i := 19) rfl))))))))
theorem gw_260 : (Cond.code yX6_mix cX6_mix 6 (some .long)) ∈ G := List.mem_append_left _ (List.mem_append_right _ (List.mem_append_right _ (List.mem_append_right _ (List.mem_append_right _ (List.mem_append_right _ (List.mem_append_right _ (List.mem_append_left _ (List.mem_of_getElem? (i := 20) rfl))))))))
theorem gw_261 : (Cond.constantLong RX6 108 (31)) ∈ G := List.mem_append_left _ (List.mem_append_right _ (List.mem_append_right _ (List.mem_append_right _ (List.mem_append_right _ (List.mem_append_right _ (List.mem_append_right _ (List.mem_append_left _ (List.mem_of_getElem? (i := 21) rfl))))))))
theorem gw_262 : (Cond.constantLong RX6 110 (7)) ∈ G := List.mem_append_left _ (List.mem_append_right _ (List.mem_append_right _ (List.mem_append_right _ (List.mem_append_right _ (List.mem_append_right _ (List.mem_append_right _ (List.mem_append_left _ (List.mem_of_getElem? (i := 22) rfl))))))))
theorem gw_263 : (Cond.constantLong RX6 112 (-7046029254386353131)) ∈ G := List.mem_append_left _ (List.mem_append_right _ (List.mem_append_right _ (List.mem_append_right _ (List.mem_append_right _ (List.mem_append_right _ (List.mem_append_right _ (List.mem_append_left _ (List.mem_of_getElem? (i := 23) rfl))))))))
theorem gw_264 : (Cond.methodLink RX6 130 yX6_rises) ∈ G := List.mem_append_left _ (List.mem_append_right _ (List.mem_append_right _ (List.mem_append_right _ (List.mem_append_right _ (List.mem_append_right _ (List.mem_append_right _ (List.mem_append_left _ (List.mem_of_getElem? (i := 24) rfl))))))))
theorem gw_265 : (Cond.instanceMethod yX6_rises) ∈ G := List.mem_append_left _ (List.mem_append_right _ (List.mem_append_right _ (List.mem_append_right _ (List.mem_append_right _ (List.mem_append_right _ (List.mem_append_right _ (List.mem_append_left _ (List.mem_of_getElem? (i := 25) rfl))))))))
theorem gw_266 : (Cond.selects RX6 yX6_rises yX6_rises) ∈ G := List.mem_append_left _ (List.mem_append_right _ (List.mem_append_right _ (List.mem_append_right _ (List.mem_append_right _ (List.mem_append_right _ (List.mem_append_right _ (List.mem_append_left _ (List.mem_of_getElem? (i := 26) rfl))))))))
theorem gw_267 : (Cond.code yX6_rises cX6_rises 3 (some .int)) ∈ G := List.mem_append_left _ (List.mem_append_right _ (List.mem_append_right _ (List.mem_append_right _ (List.mem_append_right _ (List.mem_append_right _ (List.mem_append_right _ (List.mem_append_left _ (List.mem_of_getElem? (i := 27) rfl))))))))
theorem gw_268 : (Cond.methodLink RL 58 yX5_back) ∈ G := List.mem_append_left _ (List.mem_append_right _ (List.mem_append_right _ (List.mem_append_right _ (List.mem_append_right _ (List.mem_append_right _ (List.mem_append_right _ (List.mem_append_left _ (List.mem_of_getElem? (i := 28) rfl))))))))
theorem gw_269 : (Cond.instanceMethod yX5_back) ∈ G := List.mem_append_left _ (List.mem_append_right _ (List.mem_append_right _ (List.mem_append_right _ (List.mem_append_right _ (List.mem_append_right _ (List.mem_append_right _ (List.mem_append_left _ (List.mem_of_getElem? (i := 29) rfl))))))))
theorem gw_270 : (Cond.selects RX5 yX5_back yX5_back) ∈ G := List.mem_append_left _ (List.mem_append_right _ (List.mem_append_right _ (List.mem_append_right _ (List.mem_append_right _ (List.mem_append_right _ (List.mem_append_right _ (List.mem_append_left _ (List.mem_of_getElem? (i := 30) rfl))))))))
theorem gw_271 : (Cond.code yX5_back cX5_back 4 (some .int)) ∈ G := List.mem_append_left _ (List.mem_append_right _ (List.mem_append_right _ (List.mem_append_right _ (List.mem_append_right _ (List.mem_append_right _ (List.mem_append_right _ (List.mem_append_left _ (List.mem_of_getElem? (i := 31) rfl))))))))
theorem gw_272 : (Cond.methodLink RX5 107 yX5_keptEventsFrom) ∈ G := List.mem_append_left _ (List.mem_append_right _ (List.mem_append_right _ (List.mem_append_right _ (List.mem_append_right _ (List.mem_append_right _ (List.mem_append_right _ (List.mem_append_left _ (List.mem_of_getElem? (i := 32) rfl))))))))
theorem gw_273 : (Cond.instanceMethod yX5_keptEventsFrom) ∈ G := List.mem_append_left _ (List.mem_append_right _ (List.mem_append_right _ (List.mem_append_right _ (List.mem_append_right _ (List.mem_append_right _ (List.mem_append_right _ (List.mem_append_left _ (List.mem_of_getElem? (i := 33) rfl))))))))
theorem gw_274 : (Cond.selects RX5 yX5_keptEventsFrom yX5_keptEventsFrom) ∈ G := List.mem_append_left _ (List.mem_append_right _ (List.mem_append_right _ (List.mem_append_right _ (List.mem_append_right _ (List.mem_append_right _ (List.mem_append_right _ (List.mem_append_left _ (List.mem_of_getElem? (i := 34) rfl))))))))
theorem gw_275 : (Cond.code yX5_keptEventsFrom cX5_keptEventsFrom 5 (some .int)) ∈ G := List.mem_append_left _ (List.mem_append_right _ (List.mem_append_right _ (List.mem_append_right _ (List.mem_append_right _ (List.mem_append_right _ (List.mem_append_right _ (List.mem_append_left _ (List.mem_of_getElem? (i := 35) rfl))))))))
theorem gw_276 : (Cond.fieldLink RX5 118 "EventRows$Block" "kept" "Z") ∈ G := List.mem_append_left _ (List.mem_append_right _ (List.mem_append_right _ (List.mem_append_right _ (List.mem_append_right _ (List.mem_append_right _ (List.mem_append_right _ (List.mem_append_left _ (List.mem_of_getElem? (i := 36) rfl))))))))
theorem gw_277 : (Cond.methodLink RX5 114 yX5_blockAt) ∈ G := List.mem_append_left _ (List.mem_append_right _ (List.mem_append_right _ (List.mem_append_right _ (List.mem_append_right _ (List.mem_append_right _ (List.mem_append_right _ (List.mem_append_left _ (List.mem_of_getElem? (i := 37) rfl))))))))
theorem gw_278 : (Cond.instanceMethod yX5_blockAt) ∈ G := List.mem_append_left _ (List.mem_append_right _ (List.mem_append_right _ (List.mem_append_right _ (List.mem_append_right _ (List.mem_append_right _ (List.mem_append_right _ (List.mem_append_left _ (List.mem_of_getElem? (i := 38) rfl))))))))
theorem gw_279 : (Cond.selects RX5 yX5_blockAt yX5_blockAt) ∈ G := List.mem_append_left _ (List.mem_append_right _ (List.mem_append_right _ (List.mem_append_right _ (List.mem_append_right _ (List.mem_append_right _ (List.mem_append_right _ (List.mem_append_left _ (List.mem_of_getElem? (i := 39) rfl))))))))
theorem gw_280 : (Cond.code yX5_blockAt cX5_blockAt 2 (some (.object "EventRows$Block"))) ∈ G := List.mem_append_left _ (List.mem_append_right _ (List.mem_append_right _ (List.mem_append_right _ (List.mem_append_right _ (List.mem_append_right _ (List.mem_append_right _ (List.mem_append_right _ (List.mem_append_left _ (List.mem_of_getElem? (i := 0) rfl)))))))))
theorem gw_281 : (Cond.methodLink RX5 111 yX5_moveSubscribersBack) ∈ G := List.mem_append_left _ (List.mem_append_right _ (List.mem_append_right _ (List.mem_append_right _ (List.mem_append_right _ (List.mem_append_right _ (List.mem_append_right _ (List.mem_append_right _ (List.mem_append_left _ (List.mem_of_getElem? (i := 1) rfl)))))))))
theorem gw_282 : (Cond.instanceMethod yX5_moveSubscribersBack) ∈ G := List.mem_append_left _ (List.mem_append_right _ (List.mem_append_right _ (List.mem_append_right _ (List.mem_append_right _ (List.mem_append_right _ (List.mem_append_right _ (List.mem_append_right _ (List.mem_append_left _ (List.mem_of_getElem? (i := 2) rfl)))))))))
theorem gw_283 : (Cond.selects RX5 yX5_moveSubscribersBack yX5_moveSubscribersBack) ∈ G := List.mem_append_left _ (List.mem_append_right _ (List.mem_append_right _ (List.mem_append_right _ (List.mem_append_right _ (List.mem_append_right _ (List.mem_append_right _ (List.mem_append_right _ (List.mem_append_left _ (List.mem_of_getElem? (i := 3) rfl)))))))))
theorem gw_284 : (Cond.code yX5_moveSubscribersBack cX5_moveSubscribersBack 3 none) ∈ G := List.mem_append_left _ (List.mem_append_right _ (List.mem_append_right _ (List.mem_append_right _ (List.mem_append_right _ (List.mem_append_right _ (List.mem_append_right _ (List.mem_append_right _ (List.mem_append_left _ (List.mem_of_getElem? (i := 4) rfl)))))))))
theorem gw_285 : (Cond.fieldLink RX5 198 "EventRows$Subscriber" "block" "I") ∈ G := List.mem_append_left _ (List.mem_append_right _ (List.mem_append_right _ (List.mem_append_right _ (List.mem_append_right _ (List.mem_append_right _ (List.mem_append_right _ (List.mem_append_right _ (List.mem_append_left _ (List.mem_of_getElem? (i := 5) rfl)))))))))
theorem gw_286 : (Cond.methodLink RX5 191 yX5_subscriberAt) ∈ G := List.mem_append_left _ (List.mem_append_right _ (List.mem_append_right _ (List.mem_append_right _ (List.mem_append_right _ (List.mem_append_right _ (List.mem_append_right _ (List.mem_append_right _ (List.mem_append_left _ (List.mem_of_getElem? (i := 6) rfl)))))))))
theorem gw_287 : (Cond.instanceMethod yX5_subscriberAt) ∈ G := List.mem_append_left _ (List.mem_append_right _ (List.mem_append_right _ (List.mem_append_right _ (List.mem_append_right _ (List.mem_append_right _ (List.mem_append_right _ (List.mem_append_right _ (List.mem_append_left _ (List.mem_of_getElem? (i := 7) rfl)))))))))
theorem gw_288 : (Cond.selects RX5 yX5_subscriberAt yX5_subscriberAt) ∈ G := List.mem_append_left _ (List.mem_append_right _ (List.mem_append_right _ (List.mem_append_right _ (List.mem_append_right _ (List.mem_append_right _ (List.mem_append_right _ (List.mem_append_right _ (List.mem_append_left _ (List.mem_of_getElem? (i := 8) rfl)))))))))
theorem gw_289 : (Cond.code yX5_subscriberAt cX5_subscriberAt 2 (some (.object "EventRows$Subscriber"))) ∈ G := List.mem_append_left _ (List.mem_append_right _ (List.mem_append_right _ (List.mem_append_right _ (List.mem_append_right _ (List.mem_append_right _ (List.mem_append_right _ (List.mem_append_right _ (List.mem_append_left _ (List.mem_of_getElem? (i := 9) rfl)))))))))
theorem gw_290 : (Cond.methodLink RX5 208 yX3_moveTo) ∈ G := List.mem_append_left _ (List.mem_append_right _ (List.mem_append_right _ (List.mem_append_right _ (List.mem_append_right _ (List.mem_append_right _ (List.mem_append_right _ (List.mem_append_right _ (List.mem_append_left _ (List.mem_of_getElem? (i := 10) rfl)))))))))
theorem gw_291 : (Cond.instanceMethod yX3_moveTo) ∈ G := List.mem_append_left _ (List.mem_append_right _ (List.mem_append_right _ (List.mem_append_right _ (List.mem_append_right _ (List.mem_append_right _ (List.mem_append_right _ (List.mem_append_right _ (List.mem_append_left _ (List.mem_of_getElem? (i := 11) rfl)))))))))
theorem gw_292 : (Cond.selects RX3 yX3_moveTo yX3_moveTo) ∈ G := List.mem_append_left _ (List.mem_append_right _ (List.mem_append_right _ (List.mem_append_right _ (List.mem_append_right _ (List.mem_append_right _ (List.mem_append_right _ (List.mem_append_right _ (List.mem_append_left _ (List.mem_of_getElem? (i := 12) rfl)))))))))
theorem gw_293 : (Cond.initialized RX3) ∈ G := List.mem_append_left _ (List.mem_append_right _ (List.mem_append_right _ (List.mem_append_right _ (List.mem_append_right _ (List.mem_append_right _ (List.mem_append_right _ (List.mem_append_right _ (List.mem_append_left _ (List.mem_of_getElem? (i := 13) rfl)))))))))
theorem gw_294 : (Cond.code yX3_moveTo cX3_moveTo 3 none) ∈ G := List.mem_append_left _ (List.mem_append_right _ (List.mem_append_right _ (List.mem_append_right _ (List.mem_append_right _ (List.mem_append_right _ (List.mem_append_right _ (List.mem_append_right _ (List.mem_append_left _ (List.mem_of_getElem? (i := 14) rfl)))))))))
theorem gw_295 : (Cond.fieldLink RX3 13 "EventRows$Subscriber" "block" "I") ∈ G := List.mem_append_left _ (List.mem_append_right _ (List.mem_append_right _ (List.mem_append_right _ (List.mem_append_right _ (List.mem_append_right _ (List.mem_append_right _ (List.mem_append_right _ (List.mem_append_left _ (List.mem_of_getElem? (i := 15) rfl)))))))))
theorem gw_296 : (Cond.fieldLink RX3 16 "EventRows$Subscriber" "number" "I") ∈ G := List.mem_append_left _ (List.mem_append_right _ (List.mem_append_right _ (List.mem_append_right _ (List.mem_append_right _ (List.mem_append_right _ (List.mem_append_right _ (List.mem_append_right _ (List.mem_append_left _ (List.mem_of_getElem? (i := 16) rfl)))))))))
theorem gw_297 : (Cond.methodLink RL 61 yX6_back) ∈ G := List.mem_append_left _ (List.mem_append_right _ (List.mem_append_right _ (List.mem_append_right _ (List.mem_append_right _ (List.mem_append_right _ (List.mem_append_right _ (List.mem_append_right _ (List.mem_append_left _ (List.mem_of_getElem? (i := 17) rfl)))))))))
theorem gw_298 : (Cond.instanceMethod yX6_back) ∈ G := List.mem_append_left _ (List.mem_append_right _ (List.mem_append_right _ (List.mem_append_right _ (List.mem_append_right _ (List.mem_append_right _ (List.mem_append_right _ (List.mem_append_right _ (List.mem_append_left _ (List.mem_of_getElem? (i := 18) rfl)))))))))
theorem gw_299 : (Cond.selects RX6 yX6_back yX6_back) ∈ G := List.mem_append_left _ (List.mem_append_right _ (List.mem_append_right _ (List.mem_append_right _ (List.mem_append_right _ (List.mem_append_right _ (List.mem_append_right _ (List.mem_append_right _ (List.mem_append_left _ (List.mem_of_getElem? (i := 19) rfl)))))))))
theorem gw_300 : (Cond.code yX6_back cX6_back 4 (some .int)) ∈ G := List.mem_append_left _ (List.mem_append_right _ (List.mem_append_right _ (List.mem_append_right _ (List.mem_append_right _ (List.mem_append_right _ (List.mem_append_right _ (List.mem_append_right _ (List.mem_append_left _ (List.mem_of_getElem? (i := 20) rfl)))))))))
theorem gw_301 : (Cond.methodLink RL 62 yX5_prune) ∈ G := List.mem_append_left _ (List.mem_append_right _ (List.mem_append_right _ (List.mem_append_right _ (List.mem_append_right _ (List.mem_append_right _ (List.mem_append_right _ (List.mem_append_right _ (List.mem_append_left _ (List.mem_of_getElem? (i := 21) rfl)))))))))
theorem gw_302 : (Cond.instanceMethod yX5_prune) ∈ G := List.mem_append_left _ (List.mem_append_right _ (List.mem_append_right _ (List.mem_append_right _ (List.mem_append_right _ (List.mem_append_right _ (List.mem_append_right _ (List.mem_append_right _ (List.mem_append_left _ (List.mem_of_getElem? (i := 22) rfl)))))))))
theorem gw_303 : (Cond.selects RX5 yX5_prune yX5_prune) ∈ G := List.mem_append_left _ (List.mem_append_right _ (List.mem_append_right _ (List.mem_append_right _ (List.mem_append_right _ (List.mem_append_right _ (List.mem_append_right _ (List.mem_append_right _ (List.mem_append_left _ (List.mem_of_getElem? (i := 23) rfl)))))))))
theorem gw_304 : (Cond.code yX5_prune cX5_prune 4 (some .int)) ∈ G := List.mem_append_left _ (List.mem_append_right _ (List.mem_append_right _ (List.mem_append_right _ (List.mem_append_right _ (List.mem_append_right _ (List.mem_append_right _ (List.mem_append_right _ (List.mem_append_left _ (List.mem_of_getElem? (i := 24) rfl)))))))))
theorem gw_305 : (Cond.methodLink RL 65 yX6_prune) ∈ G := List.mem_append_left _ (List.mem_append_right _ (List.mem_append_right _ (List.mem_append_right _ (List.mem_append_right _ (List.mem_append_right _ (List.mem_append_right _ (List.mem_append_right _ (List.mem_append_left _ (List.mem_of_getElem? (i := 25) rfl)))))))))
theorem gw_306 : (Cond.instanceMethod yX6_prune) ∈ G := List.mem_append_left _ (List.mem_append_right _ (List.mem_append_right _ (List.mem_append_right _ (List.mem_append_right _ (List.mem_append_right _ (List.mem_append_right _ (List.mem_append_right _ (List.mem_append_left _ (List.mem_of_getElem? (i := 26) rfl)))))))))
theorem gw_307 : (Cond.selects RX6 yX6_prune yX6_prune) ∈ G := List.mem_append_left _ (List.mem_append_right _ (List.mem_append_right _ (List.mem_append_right _ (List.mem_append_right _ (List.mem_append_right _ (List.mem_append_right _ (List.mem_append_right _ (List.mem_append_left _ (List.mem_of_getElem? (i := 27) rfl)))))))))
theorem gw_308 : (Cond.code yX6_prune cX6_prune 3 (some .int)) ∈ G := List.mem_append_left _ (List.mem_append_right _ (List.mem_append_right _ (List.mem_append_right _ (List.mem_append_right _ (List.mem_append_right _ (List.mem_append_right _ (List.mem_append_right _ (List.mem_append_left _ (List.mem_of_getElem? (i := 28) rfl)))))))))
theorem gw_309 : (Cond.methodLink RX6 134 yX6_isBlock) ∈ G := List.mem_append_left _ (List.mem_append_right _ (List.mem_append_right _ (List.mem_append_right _ (List.mem_append_right _ (List.mem_append_right _ (List.mem_append_right _ (List.mem_append_right _ (List.mem_append_left _ (List.mem_of_getElem? (i := 29) rfl)))))))))
theorem gw_310 : (Cond.instanceMethod yX6_isBlock) ∈ G := List.mem_append_left _ (List.mem_append_right _ (List.mem_append_right _ (List.mem_append_right _ (List.mem_append_right _ (List.mem_append_right _ (List.mem_append_right _ (List.mem_append_right _ (List.mem_append_left _ (List.mem_of_getElem? (i := 30) rfl)))))))))
theorem gw_311 : (Cond.selects RX6 yX6_isBlock yX6_isBlock) ∈ G := List.mem_append_left _ (List.mem_append_right _ (List.mem_append_right _ (List.mem_append_right _ (List.mem_append_right _ (List.mem_append_right _ (List.mem_append_right _ (List.mem_append_right _ (List.mem_append_left _ (List.mem_of_getElem? (i := 31) rfl)))))))))
theorem gw_312 : (Cond.code yX6_isBlock cX6_isBlock 2 (some .boolean)) ∈ G := List.mem_append_left _ (List.mem_append_right _ (List.mem_append_right _ (List.mem_append_right _ (List.mem_append_right _ (List.mem_append_right _ (List.mem_append_right _ (List.mem_append_right _ (List.mem_append_left _ (List.mem_of_getElem? (i := 32) rfl)))))))))
theorem gw_313 : (Cond.methodLink RL 66 yX5_size) ∈ G := List.mem_append_left _ (List.mem_append_right _ (List.mem_append_right _ (List.mem_append_right _ (List.mem_append_right _ (List.mem_append_right _ (List.mem_append_right _ (List.mem_append_right _ (List.mem_append_left _ (List.mem_of_getElem? (i := 33) rfl)))))))))
theorem gw_314 : (Cond.instanceMethod yX5_size) ∈ G := List.mem_append_left _ (List.mem_append_right _ (List.mem_append_right _ (List.mem_append_right _ (List.mem_append_right _ (List.mem_append_right _ (List.mem_append_right _ (List.mem_append_right _ (List.mem_append_left _ (List.mem_of_getElem? (i := 34) rfl)))))))))
theorem gw_315 : (Cond.selects RX5 yX5_size yX5_size) ∈ G := List.mem_append_left _ (List.mem_append_right _ (List.mem_append_right _ (List.mem_append_right _ (List.mem_append_right _ (List.mem_append_right _ (List.mem_append_right _ (List.mem_append_right _ (List.mem_append_left _ (List.mem_of_getElem? (i := 35) rfl)))))))))
theorem gw_316 : (Cond.code yX5_size cX5_size 4 (some .int)) ∈ G := List.mem_append_left _ (List.mem_append_right _ (List.mem_append_right _ (List.mem_append_right _ (List.mem_append_right _ (List.mem_append_right _ (List.mem_append_right _ (List.mem_append_right _ (List.mem_append_left _ (List.mem_of_getElem? (i := 36) rfl)))))))))
theorem gw_317 : (Cond.methodLink RL 70 yX6_size) ∈ G := List.mem_append_left _ (List.mem_append_right _ (List.mem_append_right _ (List.mem_append_right _ (List.mem_append_right _ (List.mem_append_right _ (List.mem_append_right _ (List.mem_append_right _ (List.mem_append_left _ (List.mem_of_getElem? (i := 37) rfl)))))))))
theorem gw_318 : (Cond.instanceMethod yX6_size) ∈ G := List.mem_append_left _ (List.mem_append_right _ (List.mem_append_right _ (List.mem_append_right _ (List.mem_append_right _ (List.mem_append_right _ (List.mem_append_right _ (List.mem_append_right _ (List.mem_append_left _ (List.mem_of_getElem? (i := 38) rfl)))))))))
theorem gw_319 : (Cond.selects RX6 yX6_size yX6_size) ∈ G := List.mem_append_left _ (List.mem_append_right _ (List.mem_append_right _ (List.mem_append_right _ (List.mem_append_right _ (List.mem_append_right _ (List.mem_append_right _ (List.mem_append_right _ (List.mem_append_left _ (List.mem_of_getElem? (i := 39) rfl)))))))))
theorem gw_320 : (Cond.code yX6_size cX6_size 3 (some .int)) ∈ G := List.mem_append_left _ (List.mem_append_right _ (List.mem_append_right _ (List.mem_append_right _ (List.mem_append_right _ (List.mem_append_right _ (List.mem_append_right _ (List.mem_append_right _ (List.mem_append_right _ (List.mem_append_left _ (List.mem_of_getElem? (i := 0) rfl))))))))))
theorem gw_321 : (Cond.methodLink RL 71 yX5_event) ∈ G := List.mem_append_left _ (List.mem_append_right _ (List.mem_append_right _ (List.mem_append_right _ (List.mem_append_right _ (List.mem_append_right _ (List.mem_append_right _ (List.mem_append_right _ (List.mem_append_right _ (List.mem_append_left _ (List.mem_of_getElem? (i := 1) rfl))))))))))
theorem gw_322 : (Cond.instanceMethod yX5_event) ∈ G := List.mem_append_left _ (List.mem_append_right _ (List.mem_append_right _ (List.mem_append_right _ (List.mem_append_right _ (List.mem_append_right _ (List.mem_append_right _ (List.mem_append_right _ (List.mem_append_right _ (List.mem_append_left _ (List.mem_of_getElem? (i := 2) rfl))))))))))
theorem gw_323 : (Cond.selects RX5 yX5_event yX5_event) ∈ G := List.mem_append_left _ (List.mem_append_right _ (List.mem_append_right _ (List.mem_append_right _ (List.mem_append_right _ (List.mem_append_right _ (List.mem_append_right _ (List.mem_append_right _ (List.mem_append_right _ (List.mem_append_left _ (List.mem_of_getElem? (i := 3) rfl))))))))))
theorem gw_324 : (Cond.code yX5_event cX5_event 5 (some .int)) ∈ G := List.mem_append_left _ (List.mem_append_right _ (List.mem_append_right _ (List.mem_append_right _ (List.mem_append_right _ (List.mem_append_right _ (List.mem_append_right _ (List.mem_append_right _ (List.mem_append_right _ (List.mem_append_left _ (List.mem_of_getElem? (i := 4) rfl))))))))))
theorem gw_325 : (Cond.methodLink RX5 122 yX0_hasEvent) ∈ G := List.mem_append_left _ (List.mem_append_right _ (List.mem_append_right _ (List.mem_append_right _ (List.mem_append_right _ (List.mem_append_right _ (List.mem_append_right _ (List.mem_append_right _ (List.mem_append_right _ (List.mem_append_left _ (List.mem_of_getElem? (i := 5) rfl))))))))))
theorem gw_326 : (Cond.instanceMethod yX0_hasEvent) ∈ G := List.mem_append_left _ (List.mem_append_right _ (List.mem_append_right _ (List.mem_append_right _ (List.mem_append_right _ (List.mem_append_right _ (List.mem_append_right _ (List.mem_append_right _ (List.mem_append_right _ (List.mem_append_left _ (List.mem_of_getElem? (i := 6) rfl))))))))))
theorem gw_327 : (Cond.selects RX0 yX0_hasEvent yX0_hasEvent) ∈ G := List.mem_append_left _ (List.mem_append_right _ (List.mem_append_right _ (List.mem_append_right _ (List.mem_append_right _ (List.mem_append_right _ (List.mem_append_right _ (List.mem_append_right _ (List.mem_append_right _ (List.mem_append_left _ (List.mem_of_getElem? (i := 7) rfl))))))))))
theorem gw_328 : (Cond.code yX0_hasEvent cX0_hasEvent 2 (some .boolean)) ∈ G := List.mem_append_left _ (List.mem_append_right _ (List.mem_append_right _ (List.mem_append_right _ (List.mem_append_right _ (List.mem_append_right _ (List.mem_append_right _ (List.mem_append_right _ (List.mem_append_right _ (List.mem_append_left _ (List.mem_of_getElem? (i := 8) rfl))))))))))
theorem gw_329 : (Cond.methodLink RX5 125 yX0_detail) ∈ G := List.mem_append_left _ (List.mem_append_right _ (List.mem_append_right _ (List.mem_append_right _ (List.mem_append_right _ (List.mem_append_right _ (List.mem_append_right _ (List.mem_append_right _ (List.mem_append_right _ (List.mem_append_left _ (List.mem_of_getElem? (i := 9) rfl))))))))))
theorem gw_330 : (Cond.instanceMethod yX0_detail) ∈ G := List.mem_append_left _ (List.mem_append_right _ (List.mem_append_right _ (List.mem_append_right _ (List.mem_append_right _ (List.mem_append_right _ (List.mem_append_right _ (List.mem_append_right _ (List.mem_append_right _ (List.mem_append_left _ (List.mem_of_getElem? (i := 10) rfl))))))))))
theorem gw_331 : (Cond.selects RX0 yX0_detail yX0_detail) ∈ G := List.mem_append_left _ (List.mem_append_right _ (List.mem_append_right _ (List.mem_append_right _ (List.mem_append_right _ (List.mem_append_right _ (List.mem_append_right _ (List.mem_append_right _ (List.mem_append_right _ (List.mem_append_left _ (List.mem_of_getElem? (i := 11) rfl))))))))))
theorem gw_332 : (Cond.code yX0_detail cX0_detail 3 (some .int)) ∈ G := List.mem_append_left _ (List.mem_append_right _ (List.mem_append_right _ (List.mem_append_right _ (List.mem_append_right _ (List.mem_append_right _ (List.mem_append_right _ (List.mem_append_right _ (List.mem_append_right _ (List.mem_append_left _ (List.mem_of_getElem? (i := 12) rfl))))))))))
theorem gw_333 : (Cond.methodLink RX0 57 yX0_topicOrNone) ∈ G := List.mem_append_left _ (List.mem_append_right _ (List.mem_append_right _ (List.mem_append_right _ (List.mem_append_right _ (List.mem_append_right _ (List.mem_append_right _ (List.mem_append_right _ (List.mem_append_right _ (List.mem_append_left _ (List.mem_of_getElem? (i := 13) rfl))))))))))
theorem gw_334 : (Cond.static yX0_topicOrNone) ∈ G := List.mem_append_left _ (List.mem_append_right _ (List.mem_append_right _ (List.mem_append_right _ (List.mem_append_right _ (List.mem_append_right _ (List.mem_append_right _ (List.mem_append_right _ (List.mem_append_right _ (List.mem_append_left _ (List.mem_of_getElem? (i := 14) rfl))))))))))
theorem gw_335 : (Cond.code yX0_topicOrNone cX0_topicOrNone 1 (some .int)) ∈ G := List.mem_append_left _ (List.mem_append_right _ (List.mem_append_right _ (List.mem_append_right _ (List.mem_append_right _ (List.mem_append_right _ (List.mem_append_right _ (List.mem_append_right _ (List.mem_append_right _ (List.mem_append_left _ (List.mem_of_getElem? (i := 15) rfl))))))))))
theorem gw_336 : (Cond.methodLink RL 75 yX6_event) ∈ G := List.mem_append_left _ (List.mem_append_right _ (List.mem_append_right _ (List.mem_append_right _ (List.mem_append_right _ (List.mem_append_right _ (List.mem_append_right _ (List.mem_append_right _ (List.mem_append_right _ (List.mem_append_left _ (List.mem_of_getElem? (i := 16) rfl))))))))))
theorem gw_337 : (Cond.instanceMethod yX6_event) ∈ G := List.mem_append_left _ (List.mem_append_right _ (List.mem_append_right _ (List.mem_append_right _ (List.mem_append_right _ (List.mem_append_right _ (List.mem_append_right _ (List.mem_append_right _ (List.mem_append_right _ (List.mem_append_left _ (List.mem_of_getElem? (i := 17) rfl))))))))))
theorem gw_338 : (Cond.selects RX6 yX6_event yX6_event) ∈ G := List.mem_append_left _ (List.mem_append_right _ (List.mem_append_right _ (List.mem_append_right _ (List.mem_append_right _ (List.mem_append_right _ (List.mem_append_right _ (List.mem_append_right _ (List.mem_append_right _ (List.mem_append_left _ (List.mem_of_getElem? (i := 18) rfl))))))))))
theorem gw_339 : (Cond.code yX6_event cX6_event 5 (some .int)) ∈ G := List.mem_append_left _ (List.mem_append_right _ (List.mem_append_right _ (List.mem_append_right _ (List.mem_append_right _ (List.mem_append_right _ (List.mem_append_right _ (List.mem_append_right _ (List.mem_append_right _ (List.mem_append_left _ (List.mem_of_getElem? (i := 19) rfl))))))))))
theorem gw_340 : (Cond.constantLong RX6 138 (5)) ∈ G := List.mem_append_left _ (List.mem_append_right _ (List.mem_append_right _ (List.mem_append_right _ (List.mem_append_right _ (List.mem_append_right _ (List.mem_append_right _ (List.mem_append_right _ (List.mem_append_right _ (List.mem_append_left _ (List.mem_of_getElem? (i := 20) rfl))))))))))
theorem gw_341 : (Cond.methodLink RX6 140 yX6_topicMany) ∈ G := List.mem_append_left _ (List.mem_append_right _ (List.mem_append_right _ (List.mem_append_right _ (List.mem_append_right _ (List.mem_append_right _ (List.mem_append_right _ (List.mem_append_right _ (List.mem_append_right _ (List.mem_append_left _ (List.mem_of_getElem? (i := 21) rfl))))))))))
theorem gw_342 : (Cond.instanceMethod yX6_topicMany) ∈ G := List.mem_append_left _ (List.mem_append_right _ (List.mem_append_right _ (List.mem_append_right _ (List.mem_append_right _ (List.mem_append_right _ (List.mem_append_right _ (List.mem_append_right _ (List.mem_append_right _ (List.mem_append_left _ (List.mem_of_getElem? (i := 22) rfl))))))))))
theorem gw_343 : (Cond.selects RX6 yX6_topicMany yX6_topicMany) ∈ G := List.mem_append_left _ (List.mem_append_right _ (List.mem_append_right _ (List.mem_append_right _ (List.mem_append_right _ (List.mem_append_right _ (List.mem_append_right _ (List.mem_append_right _ (List.mem_append_right _ (List.mem_append_left _ (List.mem_of_getElem? (i := 23) rfl))))))))))
theorem gw_344 : (Cond.code yX6_topicMany cX6_topicMany 2 (some .int)) ∈ G := List.mem_append_left _ (List.mem_append_right _ (List.mem_append_right _ (List.mem_append_right _ (List.mem_append_right _ (List.mem_append_right _ (List.mem_append_right _ (List.mem_append_right _ (List.mem_append_right _ (List.mem_append_left _ (List.mem_of_getElem? (i := 24) rfl))))))))))
theorem gw_345 : (Cond.methodLink RL 76 yL_value) ∈ G := List.mem_append_left _ (List.mem_append_right _ (List.mem_append_right _ (List.mem_append_right _ (List.mem_append_right _ (List.mem_append_right _ (List.mem_append_right _ (List.mem_append_right _ (List.mem_append_right _ (List.mem_append_left _ (List.mem_of_getElem? (i := 25) rfl))))))))))
theorem gw_346 : (Cond.static yL_value) ∈ G := List.mem_append_left _ (List.mem_append_right _ (List.mem_append_right _ (List.mem_append_right _ (List.mem_append_right _ (List.mem_append_right _ (List.mem_append_right _ (List.mem_append_right _ (List.mem_append_right _ (List.mem_append_left _ (List.mem_of_getElem? (i := 26) rfl))))))))))
theorem gw_347 : (Cond.initialized RL) ∈ G := List.mem_append_left _ (List.mem_append_right _ (List.mem_append_right _ (List.mem_append_right _ (List.mem_append_right _ (List.mem_append_right _ (List.mem_append_right _ (List.mem_append_right _ (List.mem_append_right _ (List.mem_append_left _ (List.mem_of_getElem? (i := 27) rfl))))))))))
theorem gw_348 : (Cond.codeWith yL_value cL_value 5 (some .int) [(0, 9, 12, 13), (0, 9, 16, 15)]) ∈ G := List.mem_append_left _ (List.mem_append_right _ (List.mem_append_right _ (List.mem_append_right _ (List.mem_append_right _ (List.mem_append_right _ (List.mem_append_right _ (List.mem_append_right _ (List.mem_append_right _ (List.mem_append_left _ (List.mem_of_getElem? (i := 28) rfl))))))))))
theorem gw_349 : (Cond.classLink RL 13 "java/lang/NullPointerException") ∈ G := List.mem_append_left _ (List.mem_append_right _ (List.mem_append_right _ (List.mem_append_right _ (List.mem_append_right _ (List.mem_append_right _ (List.mem_append_right _ (List.mem_append_right _ (List.mem_append_right _ (List.mem_append_left _ (List.mem_of_getElem? (i := 29) rfl))))))))))
theorem gw_350 : (Cond.classLink RL 15 "java/lang/ArrayIndexOutOfBoundsException") ∈ G := List.mem_append_left _ (List.mem_append_right _ (List.mem_append_right _ (List.mem_append_right _ (List.mem_append_right _ (List.mem_append_right _ (List.mem_append_right _ (List.mem_append_right _ (List.mem_append_right _ (List.mem_append_left _ (List.mem_of_getElem? (i := 30) rfl))))))))))
theorem gw_351 : (Cond.methodLink RL 7 yX5_value) ∈ G := List.mem_append_left _ (List.mem_append_right _ (List.mem_append_right _ (List.mem_append_right _ (List.mem_append_right _ (List.mem_append_right _ (List.mem_append_right _ (List.mem_append_right _ (List.mem_append_right _ (List.mem_append_left _ (List.mem_of_getElem? (i := 31) rfl))))))))))
theorem gw_352 : (Cond.instanceMethod yX5_value) ∈ G := List.mem_append_left _ (List.mem_append_right _ (List.mem_append_right _ (List.mem_append_right _ (List.mem_append_right _ (List.mem_append_right _ (List.mem_append_right _ (List.mem_append_right _ (List.mem_append_right _ (List.mem_append_left _ (List.mem_of_getElem? (i := 32) rfl))))))))))
theorem gw_353 : (Cond.selects RX5 yX5_value yX5_value) ∈ G := List.mem_append_left _ (List.mem_append_right _ (List.mem_append_right _ (List.mem_append_right _ (List.mem_append_right _ (List.mem_append_right _ (List.mem_append_right _ (List.mem_append_right _ (List.mem_append_right _ (List.mem_append_left _ (List.mem_of_getElem? (i := 33) rfl))))))))))
theorem gw_354 : (Cond.code yX5_value cX5_value 4 (some .long)) ∈ G := List.mem_append_left _ (List.mem_append_right _ (List.mem_append_right _ (List.mem_append_right _ (List.mem_append_right _ (List.mem_append_right _ (List.mem_append_right _ (List.mem_append_right _ (List.mem_append_right _ (List.mem_append_left _ (List.mem_of_getElem? (i := 34) rfl))))))))))
theorem gw_355 : (Cond.classLink RX5 131 RJx5d777) ∈ G := List.mem_append_left _ (List.mem_append_right _ (List.mem_append_right _ (List.mem_append_right _ (List.mem_append_right _ (List.mem_append_right _ (List.mem_append_right _ (List.mem_append_right _ (List.mem_append_right _ (List.mem_append_left _ (List.mem_of_getElem? (i := 35) rfl))))))))))
theorem gw_356 : (Cond.instantiable RJx5d777 8) ∈ G := List.mem_append_left _ (List.mem_append_right _ (List.mem_append_right _ (List.mem_append_right _ (List.mem_append_right _ (List.mem_append_right _ (List.mem_append_right _ (List.mem_append_right _ (List.mem_append_right _ (List.mem_append_left _ (List.mem_of_getElem? (i := 36) rfl))))))))))
theorem gw_357 : (Cond.initialized RJx5d777) ∈ G := List.mem_append_left _ (List.mem_append_right _ (List.mem_append_right _ (List.mem_append_right _ (List.mem_append_right _ (List.mem_append_right _ (List.mem_append_right _ (List.mem_append_right _ (List.mem_append_right _ (List.mem_append_left _ (List.mem_of_getElem? (i := 37) rfl))))))))))
theorem gw_358 : (Cond.classLink RX5 138 RJx00060) ∈ G := List.mem_append_left _ (List.mem_append_right _ (List.mem_append_right _ (List.mem_append_right _ (List.mem_append_right _ (List.mem_append_right _ (List.mem_append_right _ (List.mem_append_right _ (List.mem_append_right _ (List.mem_append_left _ (List.mem_of_getElem? (i := 38) rfl))))))))))
theorem gw_359 : (Cond.instantiable RJx00060 6) ∈ G := List.mem_append_left _ (List.mem_append_right _ (List.mem_append_right _ (List.mem_append_right _ (List.mem_append_right _ (List.mem_append_right _ (List.mem_append_right _ (List.mem_append_right _ (List.mem_append_right _ (List.mem_append_left _ (List.mem_of_getElem? (i := 39) rfl))))))))))
theorem gw_360 : (Cond.initialized RJx00060) ∈ G := List.mem_append_left _ (List.mem_append_right _ (List.mem_append_right _ (List.mem_append_right _ (List.mem_append_right _ (List.mem_append_right _ (List.mem_append_right _ (List.mem_append_right _ (List.mem_append_right _ (List.mem_append_right _ (List.mem_append_left _ (List.mem_of_getElem? (i := 0) rfl)))))))))))
theorem gw_361 : (Cond.fieldLink RX5 143 "EventRows$Block" "values" "[J") ∈ G := List.mem_append_left _ (List.mem_append_right _ (List.mem_append_right _ (List.mem_append_right _ (List.mem_append_right _ (List.mem_append_right _ (List.mem_append_right _ (List.mem_append_right _ (List.mem_append_right _ (List.mem_append_right _ (List.mem_append_left _ (List.mem_of_getElem? (i := 1) rfl)))))))))))
theorem gw_362 : (Cond.methodLink RX5 128 yX5_neededBlock) ∈ G := List.mem_append_left _ (List.mem_append_right _ (List.mem_append_right _ (List.mem_append_right _ (List.mem_append_right _ (List.mem_append_right _ (List.mem_append_right _ (List.mem_append_right _ (List.mem_append_right _ (List.mem_append_right _ (List.mem_append_left _ (List.mem_of_getElem? (i := 2) rfl)))))))))))
theorem gw_363 : (Cond.instanceMethod yX5_neededBlock) ∈ G := List.mem_append_left _ (List.mem_append_right _ (List.mem_append_right _ (List.mem_append_right _ (List.mem_append_right _ (List.mem_append_right _ (List.mem_append_right _ (List.mem_append_right _ (List.mem_append_right _ (List.mem_append_right _ (List.mem_append_left _ (List.mem_of_getElem? (i := 3) rfl)))))))))))
theorem gw_364 : (Cond.selects RX5 yX5_neededBlock yX5_neededBlock) ∈ G := List.mem_append_left _ (List.mem_append_right _ (List.mem_append_right _ (List.mem_append_right _ (List.mem_append_right _ (List.mem_append_right _ (List.mem_append_right _ (List.mem_append_right _ (List.mem_append_right _ (List.mem_append_right _ (List.mem_append_left _ (List.mem_of_getElem? (i := 4) rfl)))))))))))
theorem gw_365 : (Cond.code yX5_neededBlock cX5_neededBlock 3 (some (.object "EventRows$Block"))) ∈ G := List.mem_append_left _ (List.mem_append_right _ (List.mem_append_right _ (List.mem_append_right _ (List.mem_append_right _ (List.mem_append_right _ (List.mem_append_right _ (List.mem_append_right _ (List.mem_append_right _ (List.mem_append_right _ (List.mem_append_left _ (List.mem_of_getElem? (i := 5) rfl)))))))))))
theorem gw_366 : (Cond.methodLink RL 81 yX6_value) ∈ G := List.mem_append_left _ (List.mem_append_right _ (List.mem_append_right _ (List.mem_append_right _ (List.mem_append_right _ (List.mem_append_right _ (List.mem_append_right _ (List.mem_append_right _ (List.mem_append_right _ (List.mem_append_right _ (List.mem_append_left _ (List.mem_of_getElem? (i := 6) rfl)))))))))))
theorem gw_367 : (Cond.instanceMethod yX6_value) ∈ G := List.mem_append_left _ (List.mem_append_right _ (List.mem_append_right _ (List.mem_append_right _ (List.mem_append_right _ (List.mem_append_right _ (List.mem_append_right _ (List.mem_append_right _ (List.mem_append_right _ (List.mem_append_right _ (List.mem_append_left _ (List.mem_of_getElem? (i := 7) rfl)))))))))))
theorem gw_368 : (Cond.selects RX6 yX6_value yX6_value) ∈ G := List.mem_append_left _ (List.mem_append_right _ (List.mem_append_right _ (List.mem_append_right _ (List.mem_append_right _ (List.mem_append_right _ (List.mem_append_right _ (List.mem_append_right _ (List.mem_append_right _ (List.mem_append_right _ (List.mem_append_left _ (List.mem_of_getElem? (i := 8) rfl)))))))))))
theorem gw_369 : (Cond.code yX6_value cX6_value 3 (some .long)) ∈ G := List.mem_append_left _ (List.mem_append_right _ (List.mem_append_right _ (List.mem_append_right _ (List.mem_append_right _ (List.mem_append_right _ (List.mem_append_right _ (List.mem_append_right _ (List.mem_append_right _ (List.mem_append_right _ (List.mem_append_left _ (List.mem_of_getElem? (i := 9) rfl)))))))))))
theorem gw_370 : (Cond.fieldLink RX6 63 "EventRowsModel" "thrown" "I") ∈ G := List.mem_append_left _ (List.mem_append_right _ (List.mem_append_right _ (List.mem_append_right _ (List.mem_append_right _ (List.mem_append_right _ (List.mem_append_right _ (List.mem_append_right _ (List.mem_append_right _ (List.mem_append_right _ (List.mem_append_left _ (List.mem_of_getElem? (i := 10) rfl)))))))))))
theorem gw_371 : (Cond.methodLink RL 82 yX6_thrown) ∈ G := List.mem_append_left _ (List.mem_append_right _ (List.mem_append_right _ (List.mem_append_right _ (List.mem_append_right _ (List.mem_append_right _ (List.mem_append_right _ (List.mem_append_right _ (List.mem_append_right _ (List.mem_append_right _ (List.mem_append_left _ (List.mem_of_getElem? (i := 11) rfl)))))))))))
theorem gw_372 : (Cond.instanceMethod yX6_thrown) ∈ G := List.mem_append_left _ (List.mem_append_right _ (List.mem_append_right _ (List.mem_append_right _ (List.mem_append_right _ (List.mem_append_right _ (List.mem_append_right _ (List.mem_append_right _ (List.mem_append_right _ (List.mem_append_right _ (List.mem_append_left _ (List.mem_of_getElem? (i := 12) rfl)))))))))))
theorem gw_373 : (Cond.selects RX6 yX6_thrown yX6_thrown) ∈ G := List.mem_append_left _ (List.mem_append_right _ (List.mem_append_right _ (List.mem_append_right _ (List.mem_append_right _ (List.mem_append_right _ (List.mem_append_right _ (List.mem_append_right _ (List.mem_append_right _ (List.mem_append_right _ (List.mem_append_left _ (List.mem_of_getElem? (i := 13) rfl)))))))))))
theorem gw_374 : (Cond.code yX6_thrown cX6_thrown 1 (some .int)) ∈ G := List.mem_append_left _ (List.mem_append_right _ (List.mem_append_right _ (List.mem_append_right _ (List.mem_append_right _ (List.mem_append_right _ (List.mem_append_right _ (List.mem_append_right _ (List.mem_append_right _ (List.mem_append_right _ (List.mem_append_left _ (List.mem_of_getElem? (i := 14) rfl)))))))))))
theorem gw_375 : (Cond.methodLink RL 85 yL_root) ∈ G := List.mem_append_left _ (List.mem_append_right _ (List.mem_append_right _ (List.mem_append_right _ (List.mem_append_right _ (List.mem_append_right _ (List.mem_append_right _ (List.mem_append_right _ (List.mem_append_right _ (List.mem_append_right _ (List.mem_append_left _ (List.mem_of_getElem? (i := 15) rfl)))))))))))
theorem gw_376 : (Cond.static yL_root) ∈ G := List.mem_append_left _ (List.mem_append_right _ (List.mem_append_right _ (List.mem_append_right _ (List.mem_append_right _ (List.mem_append_right _ (List.mem_append_right _ (List.mem_append_right _ (List.mem_append_right _ (List.mem_append_right _ (List.mem_append_left _ (List.mem_of_getElem? (i := 16) rfl)))))))))))
theorem gw_377 : (Cond.codeWith yL_root cL_root 4 (some .int) [(0, 8, 11, 15)]) ∈ G := List.mem_append_left _ (List.mem_append_right _ (List.mem_append_right _ (List.mem_append_right _ (List.mem_append_right _ (List.mem_append_right _ (List.mem_append_right _ (List.mem_append_right _ (List.mem_append_right _ (List.mem_append_right _ (List.mem_append_left _ (List.mem_of_getElem? (i := 17) rfl)))))))))))
theorem gw_378 : (Cond.methodLink RL 17 yX5_root) ∈ G := List.mem_append_left _ (List.mem_append_right _ (List.mem_append_right _ (List.mem_append_right _ (List.mem_append_right _ (List.mem_append_right _ (List.mem_append_right _ (List.mem_append_right _ (List.mem_append_right _ (List.mem_append_right _ (List.mem_append_left _ (List.mem_of_getElem? (i := 18) rfl)))))))))))
theorem gw_379 : (Cond.instanceMethod yX5_root) ∈ G := List.mem_append_left _ (List.mem_append_right _ (List.mem_append_right _ (List.mem_append_right _ (List.mem_append_right _ (List.mem_append_right _ (List.mem_append_right _ (List.mem_append_right _ (List.mem_append_right _ (List.mem_append_right _ (List.mem_append_left _ (List.mem_of_getElem? (i := 19) rfl)))))))))))
theorem gw_380 : (Cond.selects RX5 yX5_root yX5_root) ∈ G := List.mem_append_left _ (List.mem_append_right _ (List.mem_append_right _ (List.mem_append_right _ (List.mem_append_right _ (List.mem_append_right _ (List.mem_append_right _ (List.mem_append_right _ (List.mem_append_right _ (List.mem_append_right _ (List.mem_append_left _ (List.mem_of_getElem? (i := 20) rfl)))))))))))
theorem gw_381 : (Cond.code yX5_root cX5_root 2 (some .long)) ∈ G := List.mem_append_left _ (List.mem_append_right _ (List.mem_append_right _ (List.mem_append_right _ (List.mem_append_right _ (List.mem_append_right _ (List.mem_append_right _ (List.mem_append_right _ (List.mem_append_right _ (List.mem_append_right _ (List.mem_append_left _ (List.mem_of_getElem? (i := 21) rfl)))))))))))
theorem gw_382 : (Cond.fieldLink RX5 147 "EventRows$Block" "rootDigest" "J") ∈ G := List.mem_append_left _ (List.mem_append_right _ (List.mem_append_right _ (List.mem_append_right _ (List.mem_append_right _ (List.mem_append_right _ (List.mem_append_right _ (List.mem_append_right _ (List.mem_append_right _ (List.mem_append_right _ (List.mem_append_left _ (List.mem_of_getElem? (i := 22) rfl)))))))))))
theorem gw_383 : (Cond.methodLink RL 88 yX6_root) ∈ G := List.mem_append_left _ (List.mem_append_right _ (List.mem_append_right _ (List.mem_append_right _ (List.mem_append_right _ (List.mem_append_right _ (List.mem_append_right _ (List.mem_append_right _ (List.mem_append_right _ (List.mem_append_right _ (List.mem_append_left _ (List.mem_of_getElem? (i := 23) rfl)))))))))))
theorem gw_384 : (Cond.instanceMethod yX6_root) ∈ G := List.mem_append_left _ (List.mem_append_right _ (List.mem_append_right _ (List.mem_append_right _ (List.mem_append_right _ (List.mem_append_right _ (List.mem_append_right _ (List.mem_append_right _ (List.mem_append_right _ (List.mem_append_right _ (List.mem_append_left _ (List.mem_of_getElem? (i := 24) rfl)))))))))))
theorem gw_385 : (Cond.selects RX6 yX6_root yX6_root) ∈ G := List.mem_append_left _ (List.mem_append_right _ (List.mem_append_right _ (List.mem_append_right _ (List.mem_append_right _ (List.mem_append_right _ (List.mem_append_right _ (List.mem_append_right _ (List.mem_append_right _ (List.mem_append_right _ (List.mem_append_left _ (List.mem_of_getElem? (i := 25) rfl)))))))))))
theorem gw_386 : (Cond.code yX6_root cX6_root 2 (some .long)) ∈ G := List.mem_append_left _ (List.mem_append_right _ (List.mem_append_right _ (List.mem_append_right _ (List.mem_append_right _ (List.mem_append_right _ (List.mem_append_right _ (List.mem_append_right _ (List.mem_append_right _ (List.mem_append_right _ (List.mem_append_left _ (List.mem_of_getElem? (i := 26) rfl)))))))))))
theorem gw_387 : (Cond.methodLink RL 89 yL_filter) ∈ G := List.mem_append_left _ (List.mem_append_right _ (List.mem_append_right _ (List.mem_append_right _ (List.mem_append_right _ (List.mem_append_right _ (List.mem_append_right _ (List.mem_append_right _ (List.mem_append_right _ (List.mem_append_right _ (List.mem_append_left _ (List.mem_of_getElem? (i := 27) rfl)))))))))))
theorem gw_388 : (Cond.static yL_filter) ∈ G := List.mem_append_left _ (List.mem_append_right _ (List.mem_append_right _ (List.mem_append_right _ (List.mem_append_right _ (List.mem_append_right _ (List.mem_append_right _ (List.mem_append_right _ (List.mem_append_right _ (List.mem_append_right _ (List.mem_append_left _ (List.mem_of_getElem? (i := 28) rfl)))))))))))
theorem gw_389 : (Cond.codeWith yL_filter cL_filter 4 (some .int) [(0, 8, 11, 15)]) ∈ G := List.mem_append_left _ (List.mem_append_right _ (List.mem_append_right _ (List.mem_append_right _ (List.mem_append_right _ (List.mem_append_right _ (List.mem_append_right _ (List.mem_append_right _ (List.mem_append_right _ (List.mem_append_right _ (List.mem_append_left _ (List.mem_of_getElem? (i := 29) rfl)))))))))))
theorem gw_390 : (Cond.methodLink RL 21 yX5_filter) ∈ G := List.mem_append_left _ (List.mem_append_right _ (List.mem_append_right _ (List.mem_append_right _ (List.mem_append_right _ (List.mem_append_right _ (List.mem_append_right _ (List.mem_append_right _ (List.mem_append_right _ (List.mem_append_right _ (List.mem_append_left _ (List.mem_of_getElem? (i := 30) rfl)))))))))))
theorem gw_391 : (Cond.instanceMethod yX5_filter) ∈ G := List.mem_append_left _ (List.mem_append_right _ (List.mem_append_right _ (List.mem_append_right _ (List.mem_append_right _ (List.mem_append_right _ (List.mem_append_right _ (List.mem_append_right _ (List.mem_append_right _ (List.mem_append_right _ (List.mem_append_left _ (List.mem_of_getElem? (i := 31) rfl)))))))))))
theorem gw_392 : (Cond.selects RX5 yX5_filter yX5_filter) ∈ G := List.mem_append_left _ (List.mem_append_right _ (List.mem_append_right _ (List.mem_append_right _ (List.mem_append_right _ (List.mem_append_right _ (List.mem_append_right _ (List.mem_append_right _ (List.mem_append_right _ (List.mem_append_right _ (List.mem_append_left _ (List.mem_of_getElem? (i := 32) rfl)))))))))))
theorem gw_393 : (Cond.code yX5_filter cX5_filter 2 (some .long)) ∈ G := List.mem_append_left _ (List.mem_append_right _ (List.mem_append_right _ (List.mem_append_right _ (List.mem_append_right _ (List.mem_append_right _ (List.mem_append_right _ (List.mem_append_right _ (List.mem_append_right _ (List.mem_append_right _ (List.mem_append_left _ (List.mem_of_getElem? (i := 33) rfl)))))))))))
theorem gw_394 : (Cond.fieldLink RX5 151 "EventRows$Block" "filterBits" "J") ∈ G := List.mem_append_left _ (List.mem_append_right _ (List.mem_append_right _ (List.mem_append_right _ (List.mem_append_right _ (List.mem_append_right _ (List.mem_append_right _ (List.mem_append_right _ (List.mem_append_right _ (List.mem_append_right _ (List.mem_append_left _ (List.mem_of_getElem? (i := 34) rfl)))))))))))
theorem gw_395 : (Cond.methodLink RL 91 yX6_filter) ∈ G := List.mem_append_left _ (List.mem_append_right _ (List.mem_append_right _ (List.mem_append_right _ (List.mem_append_right _ (List.mem_append_right _ (List.mem_append_right _ (List.mem_append_right _ (List.mem_append_right _ (List.mem_append_right _ (List.mem_append_left _ (List.mem_of_getElem? (i := 35) rfl)))))))))))
theorem gw_396 : (Cond.instanceMethod yX6_filter) ∈ G := List.mem_append_left _ (List.mem_append_right _ (List.mem_append_right _ (List.mem_append_right _ (List.mem_append_right _ (List.mem_append_right _ (List.mem_append_right _ (List.mem_append_right _ (List.mem_append_right _ (List.mem_append_right _ (List.mem_append_left _ (List.mem_of_getElem? (i := 36) rfl)))))))))))
theorem gw_397 : (Cond.selects RX6 yX6_filter yX6_filter) ∈ G := List.mem_append_left _ (List.mem_append_right _ (List.mem_append_right _ (List.mem_append_right _ (List.mem_append_right _ (List.mem_append_right _ (List.mem_append_right _ (List.mem_append_right _ (List.mem_append_right _ (List.mem_append_right _ (List.mem_append_left _ (List.mem_of_getElem? (i := 37) rfl)))))))))))
theorem gw_398 : (Cond.code yX6_filter cX6_filter 2 (some .long)) ∈ G := List.mem_append_left _ (List.mem_append_right _ (List.mem_append_right _ (List.mem_append_right _ (List.mem_append_right _ (List.mem_append_right _ (List.mem_append_right _ (List.mem_append_right _ (List.mem_append_right _ (List.mem_append_right _ (List.mem_append_left _ (List.mem_of_getElem? (i := 38) rfl)))))))))))
theorem gw_399 : (Cond.methodLink RL 92 yX5_may) ∈ G := List.mem_append_left _ (List.mem_append_right _ (List.mem_append_right _ (List.mem_append_right _ (List.mem_append_right _ (List.mem_append_right _ (List.mem_append_right _ (List.mem_append_right _ (List.mem_append_right _ (List.mem_append_right _ (List.mem_append_left _ (List.mem_of_getElem? (i := 39) rfl)))))))))))
theorem gw_400 : (Cond.instanceMethod yX5_may) ∈ G := List.mem_append_left _ (List.mem_append_right _ (List.mem_append_right _ (List.mem_append_right _ (List.mem_append_right _ (List.mem_append_right _ (List.mem_append_right _ (List.mem_append_right _ (List.mem_append_right _ (List.mem_append_right _ (List.mem_append_right _ (List.mem_append_left _ (List.mem_of_getElem? (i := 0) rfl))))))))))))
theorem gw_401 : (Cond.selects RX5 yX5_may yX5_may) ∈ G := List.mem_append_left _ (List.mem_append_right _ (List.mem_append_right _ (List.mem_append_right _ (List.mem_append_right _ (List.mem_append_right _ (List.mem_append_right _ (List.mem_append_right _ (List.mem_append_right _ (List.mem_append_right _ (List.mem_append_right _ (List.mem_append_left _ (List.mem_of_getElem? (i := 1) rfl))))))))))))
theorem gw_402 : (Cond.code yX5_may cX5_may 6 (some .int)) ∈ G := List.mem_append_left _ (List.mem_append_right _ (List.mem_append_right _ (List.mem_append_right _ (List.mem_append_right _ (List.mem_append_right _ (List.mem_append_right _ (List.mem_append_right _ (List.mem_append_right _ (List.mem_append_right _ (List.mem_append_right _ (List.mem_append_left _ (List.mem_of_getElem? (i := 2) rfl))))))))))))
theorem gw_403 : (Cond.methodLink RX5 157 yX5_bitsOf) ∈ G := List.mem_append_left _ (List.mem_append_right _ (List.mem_append_right _ (List.mem_append_right _ (List.mem_append_right _ (List.mem_append_right _ (List.mem_append_right _ (List.mem_append_right _ (List.mem_append_right _ (List.mem_append_right _ (List.mem_append_right _ (List.mem_append_left _ (List.mem_of_getElem? (i := 3) rfl))))))))))))
theorem gw_404 : (Cond.methodLink RL 95 yX6_may) ∈ G := List.mem_append_left _ (List.mem_append_right _ (List.mem_append_right _ (List.mem_append_right _ (List.mem_append_right _ (List.mem_append_right _ (List.mem_append_right _ (List.mem_append_right _ (List.mem_append_right _ (List.mem_append_right _ (List.mem_append_right _ (List.mem_append_left _ (List.mem_of_getElem? (i := 4) rfl))))))))))))
theorem gw_405 : (Cond.instanceMethod yX6_may) ∈ G := List.mem_append_left _ (List.mem_append_right _ (List.mem_append_right _ (List.mem_append_right _ (List.mem_append_right _ (List.mem_append_right _ (List.mem_append_right _ (List.mem_append_right _ (List.mem_append_right _ (List.mem_append_right _ (List.mem_append_right _ (List.mem_append_left _ (List.mem_of_getElem? (i := 5) rfl))))))))))))
theorem gw_406 : (Cond.selects RX6 yX6_may yX6_may) ∈ G := List.mem_append_left _ (List.mem_append_right _ (List.mem_append_right _ (List.mem_append_right _ (List.mem_append_right _ (List.mem_append_right _ (List.mem_append_right _ (List.mem_append_right _ (List.mem_append_right _ (List.mem_append_right _ (List.mem_append_right _ (List.mem_append_left _ (List.mem_of_getElem? (i := 6) rfl))))))))))))
theorem gw_407 : (Cond.code yX6_may cX6_may 3 (some .int)) ∈ G := List.mem_append_left _ (List.mem_append_right _ (List.mem_append_right _ (List.mem_append_right _ (List.mem_append_right _ (List.mem_append_right _ (List.mem_append_right _ (List.mem_append_right _ (List.mem_append_right _ (List.mem_append_right _ (List.mem_append_right _ (List.mem_append_left _ (List.mem_of_getElem? (i := 7) rfl))))))))))))
theorem gw_408 : (Cond.methodLink RL 96 yX5_find) ∈ G := List.mem_append_left _ (List.mem_append_right _ (List.mem_append_right _ (List.mem_append_right _ (List.mem_append_right _ (List.mem_append_right _ (List.mem_append_right _ (List.mem_append_right _ (List.mem_append_right _ (List.mem_append_right _ (List.mem_append_right _ (List.mem_append_left _ (List.mem_of_getElem? (i := 8) rfl))))))))))))
theorem gw_409 : (Cond.instanceMethod yX5_find) ∈ G := List.mem_append_left _ (List.mem_append_right _ (List.mem_append_right _ (List.mem_append_right _ (List.mem_append_right _ (List.mem_append_right _ (List.mem_append_right _ (List.mem_append_right _ (List.mem_append_right _ (List.mem_append_right _ (List.mem_append_right _ (List.mem_append_left _ (List.mem_of_getElem? (i := 9) rfl))))))))))))
theorem gw_410 : (Cond.selects RX5 yX5_find yX5_find) ∈ G := List.mem_append_left _ (List.mem_append_right _ (List.mem_append_right _ (List.mem_append_right _ (List.mem_append_right _ (List.mem_append_right _ (List.mem_append_right _ (List.mem_append_right _ (List.mem_append_right _ (List.mem_append_right _ (List.mem_append_right _ (List.mem_append_left _ (List.mem_of_getElem? (i := 10) rfl))))))))))))
theorem gw_411 : (Cond.code yX5_find cX5_find 5 (some .int)) ∈ G := List.mem_append_left _ (List.mem_append_right _ (List.mem_append_right _ (List.mem_append_right _ (List.mem_append_right _ (List.mem_append_right _ (List.mem_append_right _ (List.mem_append_right _ (List.mem_append_right _ (List.mem_append_right _ (List.mem_append_right _ (List.mem_append_left _ (List.mem_of_getElem? (i := 11) rfl))))))))))))
theorem gw_412 : (Cond.methodLink RX5 161 yX0_firstWith) ∈ G := List.mem_append_left _ (List.mem_append_right _ (List.mem_append_right _ (List.mem_append_right _ (List.mem_append_right _ (List.mem_append_right _ (List.mem_append_right _ (List.mem_append_right _ (List.mem_append_right _ (List.mem_append_right _ (List.mem_append_right _ (List.mem_append_left _ (List.mem_of_getElem? (i := 12) rfl))))))))))))
theorem gw_413 : (Cond.instanceMethod yX0_firstWith) ∈ G := List.mem_append_left _ (List.mem_append_right _ (List.mem_append_right _ (List.mem_append_right _ (List.mem_append_right _ (List.mem_append_right _ (List.mem_append_right _ (List.mem_append_right _ (List.mem_append_right _ (List.mem_append_right _ (List.mem_append_right _ (List.mem_append_left _ (List.mem_of_getElem? (i := 13) rfl))))))))))))
theorem gw_414 : (Cond.selects RX0 yX0_firstWith yX0_firstWith) ∈ G := List.mem_append_left _ (List.mem_append_right _ (List.mem_append_right _ (List.mem_append_right _ (List.mem_append_right _ (List.mem_append_right _ (List.mem_append_right _ (List.mem_append_right _ (List.mem_append_right _ (List.mem_append_right _ (List.mem_append_right _ (List.mem_append_left _ (List.mem_of_getElem? (i := 14) rfl))))))))))))
theorem gw_415 : (Cond.code yX0_firstWith cX0_firstWith 4 (some .int)) ∈ G := List.mem_append_left _ (List.mem_append_right _ (List.mem_append_right _ (List.mem_append_right _ (List.mem_append_right _ (List.mem_append_right _ (List.mem_append_right _ (List.mem_append_right _ (List.mem_append_right _ (List.mem_append_right _ (List.mem_append_right _ (List.mem_append_left _ (List.mem_of_getElem? (i := 15) rfl))))))))))))
theorem gw_416 : (Cond.methodLink RX0 61 yX0_hasTopic) ∈ G := List.mem_append_left _ (List.mem_append_right _ (List.mem_append_right _ (List.mem_append_right _ (List.mem_append_right _ (List.mem_append_right _ (List.mem_append_right _ (List.mem_append_right _ (List.mem_append_right _ (List.mem_append_right _ (List.mem_append_right _ (List.mem_append_left _ (List.mem_of_getElem? (i := 16) rfl))))))))))))
theorem gw_417 : (Cond.instanceMethod yX0_hasTopic) ∈ G := List.mem_append_left _ (List.mem_append_right _ (List.mem_append_right _ (List.mem_append_right _ (List.mem_append_right _ (List.mem_append_right _ (List.mem_append_right _ (List.mem_append_right _ (List.mem_append_right _ (List.mem_append_right _ (List.mem_append_right _ (List.mem_append_left _ (List.mem_of_getElem? (i := 17) rfl))))))))))))
theorem gw_418 : (Cond.selects RX0 yX0_hasTopic yX0_hasTopic) ∈ G := List.mem_append_left _ (List.mem_append_right _ (List.mem_append_right _ (List.mem_append_right _ (List.mem_append_right _ (List.mem_append_right _ (List.mem_append_right _ (List.mem_append_right _ (List.mem_append_right _ (List.mem_append_right _ (List.mem_append_right _ (List.mem_append_left _ (List.mem_of_getElem? (i := 18) rfl))))))))))))
theorem gw_419 : (Cond.code yX0_hasTopic cX0_hasTopic 3 (some .boolean)) ∈ G := List.mem_append_left _ (List.mem_append_right _ (List.mem_append_right _ (List.mem_append_right _ (List.mem_append_right _ (List.mem_append_right _ (List.mem_append_right _ (List.mem_append_right _ (List.mem_append_right _ (List.mem_append_right _ (List.mem_append_right _ (List.mem_append_left _ (List.mem_of_getElem? (i := 19) rfl))))))))))))
theorem gw_420 : (Cond.methodLink RL 99 yX6_find) ∈ G := List.mem_append_left _ (List.mem_append_right _ (List.mem_append_right _ (List.mem_append_right _ (List.mem_append_right _ (List.mem_append_right _ (List.mem_append_right _ (List.mem_append_right _ (List.mem_append_right _ (List.mem_append_right _ (List.mem_append_right _ (List.mem_append_left _ (List.mem_of_getElem? (i := 20) rfl))))))))))))
theorem gw_421 : (Cond.instanceMethod yX6_find) ∈ G := List.mem_append_left _ (List.mem_append_right _ (List.mem_append_right _ (List.mem_append_right _ (List.mem_append_right _ (List.mem_append_right _ (List.mem_append_right _ (List.mem_append_right _ (List.mem_append_right _ (List.mem_append_right _ (List.mem_append_right _ (List.mem_append_left _ (List.mem_of_getElem? (i := 21) rfl))))))))))))
theorem gw_422 : (Cond.selects RX6 yX6_find yX6_find) ∈ G := List.mem_append_left _ (List.mem_append_right _ (List.mem_append_right _ (List.mem_append_right _ (List.mem_append_right _ (List.mem_append_right _ (List.mem_append_right _ (List.mem_append_right _ (List.mem_append_right _ (List.mem_append_right _ (List.mem_append_right _ (List.mem_append_left _ (List.mem_of_getElem? (i := 22) rfl))))))))))))
theorem gw_423 : (Cond.code yX6_find cX6_find 5 (some .int)) ∈ G := List.mem_append_left _ (List.mem_append_right _ (List.mem_append_right _ (List.mem_append_right _ (List.mem_append_right _ (List.mem_append_right _ (List.mem_append_right _ (List.mem_append_right _ (List.mem_append_right _ (List.mem_append_right _ (List.mem_append_right _ (List.mem_append_left _ (List.mem_of_getElem? (i := 23) rfl))))))))))))
theorem gw_424 : (Cond.methodLink RX6 143 yX6_has) ∈ G := List.mem_append_left _ (List.mem_append_right _ (List.mem_append_right _ (List.mem_append_right _ (List.mem_append_right _ (List.mem_append_right _ (List.mem_append_right _ (List.mem_append_right _ (List.mem_append_right _ (List.mem_append_right _ (List.mem_append_right _ (List.mem_append_left _ (List.mem_of_getElem? (i := 24) rfl))))))))))))
theorem gw_425 : (Cond.instanceMethod yX6_has) ∈ G := List.mem_append_left _ (List.mem_append_right _ (List.mem_append_right _ (List.mem_append_right _ (List.mem_append_right _ (List.mem_append_right _ (List.mem_append_right _ (List.mem_append_right _ (List.mem_append_right _ (List.mem_append_right _ (List.mem_append_right _ (List.mem_append_left _ (List.mem_of_getElem? (i := 25) rfl))))))))))))
theorem gw_426 : (Cond.selects RX6 yX6_has yX6_has) ∈ G := List.mem_append_left _ (List.mem_append_right _ (List.mem_append_right _ (List.mem_append_right _ (List.mem_append_right _ (List.mem_append_right _ (List.mem_append_right _ (List.mem_append_right _ (List.mem_append_right _ (List.mem_append_right _ (List.mem_append_right _ (List.mem_append_left _ (List.mem_of_getElem? (i := 26) rfl))))))))))))
theorem gw_427 : (Cond.code yX6_has cX6_has 3 (some .boolean)) ∈ G := List.mem_append_left _ (List.mem_append_right _ (List.mem_append_right _ (List.mem_append_right _ (List.mem_append_right _ (List.mem_append_right _ (List.mem_append_right _ (List.mem_append_right _ (List.mem_append_right _ (List.mem_append_right _ (List.mem_append_right _ (List.mem_append_left _ (List.mem_of_getElem? (i := 27) rfl))))))))))))
theorem gw_428 : (Cond.methodLink RL 100 yX5_path) ∈ G := List.mem_append_left _ (List.mem_append_right _ (List.mem_append_right _ (List.mem_append_right _ (List.mem_append_right _ (List.mem_append_right _ (List.mem_append_right _ (List.mem_append_right _ (List.mem_append_right _ (List.mem_append_right _ (List.mem_append_right _ (List.mem_append_left _ (List.mem_of_getElem? (i := 28) rfl))))))))))))
theorem gw_429 : (Cond.instanceMethod yX5_path) ∈ G := List.mem_append_left _ (List.mem_append_right _ (List.mem_append_right _ (List.mem_append_right _ (List.mem_append_right _ (List.mem_append_right _ (List.mem_append_right _ (List.mem_append_right _ (List.mem_append_right _ (List.mem_append_right _ (List.mem_append_right _ (List.mem_append_left _ (List.mem_of_getElem? (i := 29) rfl))))))))))))
theorem gw_430 : (Cond.selects RX5 yX5_path yX5_path) ∈ G := List.mem_append_left _ (List.mem_append_right _ (List.mem_append_right _ (List.mem_append_right _ (List.mem_append_right _ (List.mem_append_right _ (List.mem_append_right _ (List.mem_append_right _ (List.mem_append_right _ (List.mem_append_right _ (List.mem_append_right _ (List.mem_append_left _ (List.mem_of_getElem? (i := 30) rfl))))))))))))
theorem gw_431 : (Cond.code yX5_path cX5_path 4 (some .int)) ∈ G := List.mem_append_left _ (List.mem_append_right _ (List.mem_append_right _ (List.mem_append_right _ (List.mem_append_right _ (List.mem_append_right _ (List.mem_append_right _ (List.mem_append_right _ (List.mem_append_right _ (List.mem_append_right _ (List.mem_append_right _ (List.mem_append_left _ (List.mem_of_getElem? (i := 31) rfl))))))))))))
theorem gw_432 : (Cond.fieldLink RX5 168 "EventRows$Out" "count" "I") ∈ G := List.mem_append_left _ (List.mem_append_right _ (List.mem_append_right _ (List.mem_append_right _ (List.mem_append_right _ (List.mem_append_right _ (List.mem_append_right _ (List.mem_append_right _ (List.mem_append_right _ (List.mem_append_right _ (List.mem_append_right _ (List.mem_append_left _ (List.mem_of_getElem? (i := 32) rfl))))))))))))
theorem gw_433 : (Cond.methodLink RX5 164 yX4_pathOf) ∈ G := List.mem_append_left _ (List.mem_append_right _ (List.mem_append_right _ (List.mem_append_right _ (List.mem_append_right _ (List.mem_append_right _ (List.mem_append_right _ (List.mem_append_right _ (List.mem_append_right _ (List.mem_append_right _ (List.mem_append_right _ (List.mem_append_left _ (List.mem_of_getElem? (i := 33) rfl))))))))))))
theorem gw_434 : (Cond.instanceMethod yX4_pathOf) ∈ G := List.mem_append_left _ (List.mem_append_right _ (List.mem_append_right _ (List.mem_append_right _ (List.mem_append_right _ (List.mem_append_right _ (List.mem_append_right _ (List.mem_append_right _ (List.mem_append_right _ (List.mem_append_right _ (List.mem_append_right _ (List.mem_append_left _ (List.mem_of_getElem? (i := 34) rfl))))))))))))
theorem gw_435 : (Cond.selects RX4 yX4_pathOf yX4_pathOf) ∈ G := List.mem_append_left _ (List.mem_append_right _ (List.mem_append_right _ (List.mem_append_right _ (List.mem_append_right _ (List.mem_append_right _ (List.mem_append_right _ (List.mem_append_right _ (List.mem_append_right _ (List.mem_append_right _ (List.mem_append_right _ (List.mem_append_left _ (List.mem_of_getElem? (i := 35) rfl))))))))))))
theorem gw_436 : (Cond.code yX4_pathOf cX4_pathOf 7 none) ∈ G := List.mem_append_left _ (List.mem_append_right _ (List.mem_append_right _ (List.mem_append_right _ (List.mem_append_right _ (List.mem_append_right _ (List.mem_append_right _ (List.mem_append_right _ (List.mem_append_right _ (List.mem_append_right _ (List.mem_append_right _ (List.mem_append_left _ (List.mem_of_getElem? (i := 36) rfl))))))))))))
theorem gw_437 : (Cond.fieldLink RX4 39 "EventRows$Out" "count" "I") ∈ G := List.mem_append_left _ (List.mem_append_right _ (List.mem_append_right _ (List.mem_append_right _ (List.mem_append_right _ (List.mem_append_right _ (List.mem_append_right _ (List.mem_append_right _ (List.mem_append_right _ (List.mem_append_right _ (List.mem_append_right _ (List.mem_append_left _ (List.mem_of_getElem? (i := 37) rfl))))))))))))
theorem gw_438 : (Cond.methodLink RX4 42 yX2_add) ∈ G := List.mem_append_left _ (List.mem_append_right _ (List.mem_append_right _ (List.mem_append_right _ (List.mem_append_right _ (List.mem_append_right _ (List.mem_append_right _ (List.mem_append_right _ (List.mem_append_right _ (List.mem_append_right _ (List.mem_append_right _ (List.mem_append_left _ (List.mem_of_getElem? (i := 38) rfl))))))))))))
theorem gw_439 : (Cond.instanceMethod yX2_add) ∈ G := List.mem_append_left _ (List.mem_append_right _ (List.mem_append_right _ (List.mem_append_right _ (List.mem_append_right _ (List.mem_append_right _ (List.mem_append_right _ (List.mem_append_right _ (List.mem_append_right _ (List.mem_append_right _ (List.mem_append_right _ (List.mem_append_left _ (List.mem_of_getElem? (i := 39) rfl))))))))))))
theorem gw_440 : (Cond.selects RX2 yX2_add yX2_add) ∈ G := List.mem_append_left _ (List.mem_append_right _ (List.mem_append_right _ (List.mem_append_right _ (List.mem_append_right _ (List.mem_append_right _ (List.mem_append_right _ (List.mem_append_right _ (List.mem_append_right _ (List.mem_append_right _ (List.mem_append_right _ (List.mem_append_right _ (List.mem_append_left _ (List.mem_of_getElem? (i := 0) rfl)))))))))))))
theorem gw_441 : (Cond.code yX2_add cX2_add 3 (some .boolean)) ∈ G := List.mem_append_left _ (List.mem_append_right _ (List.mem_append_right _ (List.mem_append_right _ (List.mem_append_right _ (List.mem_append_right _ (List.mem_append_right _ (List.mem_append_right _ (List.mem_append_right _ (List.mem_append_right _ (List.mem_append_right _ (List.mem_append_right _ (List.mem_append_left _ (List.mem_of_getElem? (i := 1) rfl)))))))))))))
theorem gw_442 : (Cond.fieldLink RX2 15 "EventRows$Out" "count" "I") ∈ G := List.mem_append_left _ (List.mem_append_right _ (List.mem_append_right _ (List.mem_append_right _ (List.mem_append_right _ (List.mem_append_right _ (List.mem_append_right _ (List.mem_append_right _ (List.mem_append_right _ (List.mem_append_right _ (List.mem_append_right _ (List.mem_append_right _ (List.mem_append_left _ (List.mem_of_getElem? (i := 2) rfl)))))))))))))
theorem gw_443 : (Cond.methodLink RL 103 yX6_path) ∈ G := List.mem_append_left _ (List.mem_append_right _ (List.mem_append_right _ (List.mem_append_right _ (List.mem_append_right _ (List.mem_append_right _ (List.mem_append_right _ (List.mem_append_right _ (List.mem_append_right _ (List.mem_append_right _ (List.mem_append_right _ (List.mem_append_right _ (List.mem_append_left _ (List.mem_of_getElem? (i := 3) rfl)))))))))))))
theorem gw_444 : (Cond.instanceMethod yX6_path) ∈ G := List.mem_append_left _ (List.mem_append_right _ (List.mem_append_right _ (List.mem_append_right _ (List.mem_append_right _ (List.mem_append_right _ (List.mem_append_right _ (List.mem_append_right _ (List.mem_append_right _ (List.mem_append_right _ (List.mem_append_right _ (List.mem_append_right _ (List.mem_append_left _ (List.mem_of_getElem? (i := 4) rfl)))))))))))))
theorem gw_445 : (Cond.selects RX6 yX6_path yX6_path) ∈ G := List.mem_append_left _ (List.mem_append_right _ (List.mem_append_right _ (List.mem_append_right _ (List.mem_append_right _ (List.mem_append_right _ (List.mem_append_right _ (List.mem_append_right _ (List.mem_append_right _ (List.mem_append_right _ (List.mem_append_right _ (List.mem_append_right _ (List.mem_append_left _ (List.mem_of_getElem? (i := 5) rfl)))))))))))))
theorem gw_446 : (Cond.code yX6_path cX6_path 6 (some .int)) ∈ G := List.mem_append_left _ (List.mem_append_right _ (List.mem_append_right _ (List.mem_append_right _ (List.mem_append_right _ (List.mem_append_right _ (List.mem_append_right _ (List.mem_append_right _ (List.mem_append_right _ (List.mem_append_right _ (List.mem_append_right _ (List.mem_append_right _ (List.mem_append_left _ (List.mem_of_getElem? (i := 6) rfl)))))))))))))
theorem gw_447 : (Cond.fieldLink RX6 147 "EventRowsModel" "outSize" "I") ∈ G := List.mem_append_left _ (List.mem_append_right _ (List.mem_append_right _ (List.mem_append_right _ (List.mem_append_right _ (List.mem_append_right _ (List.mem_append_right _ (List.mem_append_right _ (List.mem_append_right _ (List.mem_append_right _ (List.mem_append_right _ (List.mem_append_right _ (List.mem_append_left _ (List.mem_of_getElem? (i := 7) rfl)))))))))))))
theorem gw_448 : (Cond.methodLink RL 104 yL_out) ∈ G := List.mem_append_left _ (List.mem_append_right _ (List.mem_append_right _ (List.mem_append_right _ (List.mem_append_right _ (List.mem_append_right _ (List.mem_append_right _ (List.mem_append_right _ (List.mem_append_right _ (List.mem_append_right _ (List.mem_append_right _ (List.mem_append_right _ (List.mem_append_left _ (List.mem_of_getElem? (i := 8) rfl)))))))))))))
theorem gw_449 : (Cond.static yL_out) ∈ G := List.mem_append_left _ (List.mem_append_right _ (List.mem_append_right _ (List.mem_append_right _ (List.mem_append_right _ (List.mem_append_right _ (List.mem_append_right _ (List.mem_append_right _ (List.mem_append_right _ (List.mem_append_right _ (List.mem_append_right _ (List.mem_append_right _ (List.mem_append_left _ (List.mem_of_getElem? (i := 9) rfl)))))))))))))
theorem gw_450 : (Cond.codeWith yL_out cL_out 4 (some .int) [(0, 8, 11, 15)]) ∈ G := List.mem_append_left _ (List.mem_append_right _ (List.mem_append_right _ (List.mem_append_right _ (List.mem_append_right _ (List.mem_append_right _ (List.mem_append_right _ (List.mem_append_right _ (List.mem_append_right _ (List.mem_append_right _ (List.mem_append_right _ (List.mem_append_right _ (List.mem_append_left _ (List.mem_of_getElem? (i := 10) rfl)))))))))))))
theorem gw_451 : (Cond.methodLink RL 24 yX5_out) ∈ G := List.mem_append_left _ (List.mem_append_right _ (List.mem_append_right _ (List.mem_append_right _ (List.mem_append_right _ (List.mem_append_right _ (List.mem_append_right _ (List.mem_append_right _ (List.mem_append_right _ (List.mem_append_right _ (List.mem_append_right _ (List.mem_append_right _ (List.mem_append_left _ (List.mem_of_getElem? (i := 11) rfl)))))))))))))
theorem gw_452 : (Cond.instanceMethod yX5_out) ∈ G := List.mem_append_left _ (List.mem_append_right _ (List.mem_append_right _ (List.mem_append_right _ (List.mem_append_right _ (List.mem_append_right _ (List.mem_append_right _ (List.mem_append_right _ (List.mem_append_right _ (List.mem_append_right _ (List.mem_append_right _ (List.mem_append_right _ (List.mem_append_left _ (List.mem_of_getElem? (i := 12) rfl)))))))))))))
theorem gw_453 : (Cond.selects RX5 yX5_out yX5_out) ∈ G := List.mem_append_left _ (List.mem_append_right _ (List.mem_append_right _ (List.mem_append_right _ (List.mem_append_right _ (List.mem_append_right _ (List.mem_append_right _ (List.mem_append_right _ (List.mem_append_right _ (List.mem_append_right _ (List.mem_append_right _ (List.mem_append_right _ (List.mem_append_left _ (List.mem_of_getElem? (i := 13) rfl)))))))))))))
theorem gw_454 : (Cond.code yX5_out cX5_out 2 (some .long)) ∈ G := List.mem_append_left _ (List.mem_append_right _ (List.mem_append_right _ (List.mem_append_right _ (List.mem_append_right _ (List.mem_append_right _ (List.mem_append_right _ (List.mem_append_right _ (List.mem_append_right _ (List.mem_append_right _ (List.mem_append_right _ (List.mem_append_right _ (List.mem_append_left _ (List.mem_of_getElem? (i := 14) rfl)))))))))))))
theorem gw_455 : (Cond.fieldLink RX5 171 "EventRows$Out" "digests" "[J") ∈ G := List.mem_append_left _ (List.mem_append_right _ (List.mem_append_right _ (List.mem_append_right _ (List.mem_append_right _ (List.mem_append_right _ (List.mem_append_right _ (List.mem_append_right _ (List.mem_append_right _ (List.mem_append_right _ (List.mem_append_right _ (List.mem_append_right _ (List.mem_append_left _ (List.mem_of_getElem? (i := 15) rfl)))))))))))))
theorem gw_456 : (Cond.methodLink RL 106 yX6_out) ∈ G := List.mem_append_left _ (List.mem_append_right _ (List.mem_append_right _ (List.mem_append_right _ (List.mem_append_right _ (List.mem_append_right _ (List.mem_append_right _ (List.mem_append_right _ (List.mem_append_right _ (List.mem_append_right _ (List.mem_append_right _ (List.mem_append_right _ (List.mem_append_left _ (List.mem_of_getElem? (i := 16) rfl)))))))))))))
theorem gw_457 : (Cond.instanceMethod yX6_out) ∈ G := List.mem_append_left _ (List.mem_append_right _ (List.mem_append_right _ (List.mem_append_right _ (List.mem_append_right _ (List.mem_append_right _ (List.mem_append_right _ (List.mem_append_right _ (List.mem_append_right _ (List.mem_append_right _ (List.mem_append_right _ (List.mem_append_right _ (List.mem_append_left _ (List.mem_of_getElem? (i := 17) rfl)))))))))))))
theorem gw_458 : (Cond.selects RX6 yX6_out yX6_out) ∈ G := List.mem_append_left _ (List.mem_append_right _ (List.mem_append_right _ (List.mem_append_right _ (List.mem_append_right _ (List.mem_append_right _ (List.mem_append_right _ (List.mem_append_right _ (List.mem_append_right _ (List.mem_append_right _ (List.mem_append_right _ (List.mem_append_right _ (List.mem_append_left _ (List.mem_of_getElem? (i := 18) rfl)))))))))))))
theorem gw_459 : (Cond.code yX6_out cX6_out 2 (some .long)) ∈ G := List.mem_append_left _ (List.mem_append_right _ (List.mem_append_right _ (List.mem_append_right _ (List.mem_append_right _ (List.mem_append_right _ (List.mem_append_right _ (List.mem_append_right _ (List.mem_append_right _ (List.mem_append_right _ (List.mem_append_right _ (List.mem_append_right _ (List.mem_append_left _ (List.mem_of_getElem? (i := 19) rfl)))))))))))))
theorem gw_460 : (Cond.methodLink RL 107 yX5_lay) ∈ G := List.mem_append_left _ (List.mem_append_right _ (List.mem_append_right _ (List.mem_append_right _ (List.mem_append_right _ (List.mem_append_right _ (List.mem_append_right _ (List.mem_append_right _ (List.mem_append_right _ (List.mem_append_right _ (List.mem_append_right _ (List.mem_append_right _ (List.mem_append_left _ (List.mem_of_getElem? (i := 20) rfl)))))))))))))
theorem gw_461 : (Cond.instanceMethod yX5_lay) ∈ G := List.mem_append_left _ (List.mem_append_right _ (List.mem_append_right _ (List.mem_append_right _ (List.mem_append_right _ (List.mem_append_right _ (List.mem_append_right _ (List.mem_append_right _ (List.mem_append_right _ (List.mem_append_right _ (List.mem_append_right _ (List.mem_append_right _ (List.mem_append_left _ (List.mem_of_getElem? (i := 21) rfl)))))))))))))
theorem gw_462 : (Cond.selects RX5 yX5_lay yX5_lay) ∈ G := List.mem_append_left _ (List.mem_append_right _ (List.mem_append_right _ (List.mem_append_right _ (List.mem_append_right _ (List.mem_append_right _ (List.mem_append_right _ (List.mem_append_right _ (List.mem_append_right _ (List.mem_append_right _ (List.mem_append_right _ (List.mem_append_right _ (List.mem_append_left _ (List.mem_of_getElem? (i := 22) rfl)))))))))))))
theorem gw_463 : (Cond.code yX5_lay cX5_lay 3 (some .int)) ∈ G := List.mem_append_left _ (List.mem_append_right _ (List.mem_append_right _ (List.mem_append_right _ (List.mem_append_right _ (List.mem_append_right _ (List.mem_append_right _ (List.mem_append_right _ (List.mem_append_right _ (List.mem_append_right _ (List.mem_append_right _ (List.mem_append_right _ (List.mem_append_left _ (List.mem_of_getElem? (i := 23) rfl)))))))))))))
theorem gw_464 : (Cond.methodLink RX5 174 yX2_add) ∈ G := List.mem_append_left _ (List.mem_append_right _ (List.mem_append_right _ (List.mem_append_right _ (List.mem_append_right _ (List.mem_append_right _ (List.mem_append_right _ (List.mem_append_right _ (List.mem_append_right _ (List.mem_append_right _ (List.mem_append_right _ (List.mem_append_right _ (List.mem_append_left _ (List.mem_of_getElem? (i := 24) rfl)))))))))))))
theorem gw_465 : (Cond.methodLink RL 111 yX6_lay) ∈ G := List.mem_append_left _ (List.mem_append_right _ (List.mem_append_right _ (List.mem_append_right _ (List.mem_append_right _ (List.mem_append_right _ (List.mem_append_right _ (List.mem_append_right _ (List.mem_append_right _ (List.mem_append_right _ (List.mem_append_right _ (List.mem_append_right _ (List.mem_append_left _ (List.mem_of_getElem? (i := 25) rfl)))))))))))))
theorem gw_466 : (Cond.instanceMethod yX6_lay) ∈ G := List.mem_append_left _ (List.mem_append_right _ (List.mem_append_right _ (List.mem_append_right _ (List.mem_append_right _ (List.mem_append_right _ (List.mem_append_right _ (List.mem_append_right _ (List.mem_append_right _ (List.mem_append_right _ (List.mem_append_right _ (List.mem_append_right _ (List.mem_append_left _ (List.mem_of_getElem? (i := 26) rfl)))))))))))))
theorem gw_467 : (Cond.selects RX6 yX6_lay yX6_lay) ∈ G := List.mem_append_left _ (List.mem_append_right _ (List.mem_append_right _ (List.mem_append_right _ (List.mem_append_right _ (List.mem_append_right _ (List.mem_append_right _ (List.mem_append_right _ (List.mem_append_right _ (List.mem_append_right _ (List.mem_append_right _ (List.mem_append_right _ (List.mem_append_left _ (List.mem_of_getElem? (i := 27) rfl)))))))))))))
theorem gw_468 : (Cond.code yX6_lay cX6_lay 3 (some .int)) ∈ G := List.mem_append_left _ (List.mem_append_right _ (List.mem_append_right _ (List.mem_append_right _ (List.mem_append_right _ (List.mem_append_right _ (List.mem_append_right _ (List.mem_append_right _ (List.mem_append_right _ (List.mem_append_right _ (List.mem_append_right _ (List.mem_append_right _ (List.mem_append_left _ (List.mem_of_getElem? (i := 28) rfl)))))))))))))
theorem gw_469 : (Cond.methodLink RL 112 yX5_wipe) ∈ G := List.mem_append_left _ (List.mem_append_right _ (List.mem_append_right _ (List.mem_append_right _ (List.mem_append_right _ (List.mem_append_right _ (List.mem_append_right _ (List.mem_append_right _ (List.mem_append_right _ (List.mem_append_right _ (List.mem_append_right _ (List.mem_append_right _ (List.mem_append_left _ (List.mem_of_getElem? (i := 29) rfl)))))))))))))
theorem gw_470 : (Cond.instanceMethod yX5_wipe) ∈ G := List.mem_append_left _ (List.mem_append_right _ (List.mem_append_right _ (List.mem_append_right _ (List.mem_append_right _ (List.mem_append_right _ (List.mem_append_right _ (List.mem_append_right _ (List.mem_append_right _ (List.mem_append_right _ (List.mem_append_right _ (List.mem_append_right _ (List.mem_append_left _ (List.mem_of_getElem? (i := 30) rfl)))))))))))))
theorem gw_471 : (Cond.selects RX5 yX5_wipe yX5_wipe) ∈ G := List.mem_append_left _ (List.mem_append_right _ (List.mem_append_right _ (List.mem_append_right _ (List.mem_append_right _ (List.mem_append_right _ (List.mem_append_right _ (List.mem_append_right _ (List.mem_append_right _ (List.mem_append_right _ (List.mem_append_right _ (List.mem_append_right _ (List.mem_append_left _ (List.mem_of_getElem? (i := 31) rfl)))))))))))))
theorem gw_472 : (Cond.code yX5_wipe cX5_wipe 2 (some .int)) ∈ G := List.mem_append_left _ (List.mem_append_right _ (List.mem_append_right _ (List.mem_append_right _ (List.mem_append_right _ (List.mem_append_right _ (List.mem_append_right _ (List.mem_append_right _ (List.mem_append_right _ (List.mem_append_right _ (List.mem_append_right _ (List.mem_append_right _ (List.mem_append_left _ (List.mem_of_getElem? (i := 32) rfl)))))))))))))
theorem gw_473 : (Cond.methodLink RL 115 yX6_wipe) ∈ G := List.mem_append_left _ (List.mem_append_right _ (List.mem_append_right _ (List.mem_append_right _ (List.mem_append_right _ (List.mem_append_right _ (List.mem_append_right _ (List.mem_append_right _ (List.mem_append_right _ (List.mem_append_right _ (List.mem_append_right _ (List.mem_append_right _ (List.mem_append_left _ (List.mem_of_getElem? (i := 33) rfl)))))))))))))
theorem gw_474 : (Cond.instanceMethod yX6_wipe) ∈ G := List.mem_append_left _ (List.mem_append_right _ (List.mem_append_right _ (List.mem_append_right _ (List.mem_append_right _ (List.mem_append_right _ (List.mem_append_right _ (List.mem_append_right _ (List.mem_append_right _ (List.mem_append_right _ (List.mem_append_right _ (List.mem_append_right _ (List.mem_append_left _ (List.mem_of_getElem? (i := 34) rfl)))))))))))))
theorem gw_475 : (Cond.selects RX6 yX6_wipe yX6_wipe) ∈ G := List.mem_append_left _ (List.mem_append_right _ (List.mem_append_right _ (List.mem_append_right _ (List.mem_append_right _ (List.mem_append_right _ (List.mem_append_right _ (List.mem_append_right _ (List.mem_append_right _ (List.mem_append_right _ (List.mem_append_right _ (List.mem_append_right _ (List.mem_append_left _ (List.mem_of_getElem? (i := 35) rfl)))))))))))))
theorem gw_476 : (Cond.code yX6_wipe cX6_wipe 2 (some .int)) ∈ G := List.mem_append_left _ (List.mem_append_right _ (List.mem_append_right _ (List.mem_append_right _ (List.mem_append_right _ (List.mem_append_right _ (List.mem_append_right _ (List.mem_append_right _ (List.mem_append_right _ (List.mem_append_right _ (List.mem_append_right _ (List.mem_append_right _ (List.mem_append_left _ (List.mem_of_getElem? (i := 36) rfl)))))))))))))
theorem gw_477 : (Cond.methodLink RL 116 yX5_proved) ∈ G := List.mem_append_left _ (List.mem_append_right _ (List.mem_append_right _ (List.mem_append_right _ (List.mem_append_right _ (List.mem_append_right _ (List.mem_append_right _ (List.mem_append_right _ (List.mem_append_right _ (List.mem_append_right _ (List.mem_append_right _ (List.mem_append_right _ (List.mem_append_left _ (List.mem_of_getElem? (i := 37) rfl)))))))))))))
theorem gw_478 : (Cond.instanceMethod yX5_proved) ∈ G := List.mem_append_left _ (List.mem_append_right _ (List.mem_append_right _ (List.mem_append_right _ (List.mem_append_right _ (List.mem_append_right _ (List.mem_append_right _ (List.mem_append_right _ (List.mem_append_right _ (List.mem_append_right _ (List.mem_append_right _ (List.mem_append_right _ (List.mem_append_left _ (List.mem_of_getElem? (i := 38) rfl)))))))))))))
theorem gw_479 : (Cond.selects RX5 yX5_proved yX5_proved) ∈ G := List.mem_append_left _ (List.mem_append_right _ (List.mem_append_right _ (List.mem_append_right _ (List.mem_append_right _ (List.mem_append_right _ (List.mem_append_right _ (List.mem_append_right _ (List.mem_append_right _ (List.mem_append_right _ (List.mem_append_right _ (List.mem_append_right _ (List.mem_append_left _ (List.mem_of_getElem? (i := 39) rfl)))))))))))))
theorem gw_480 : (Cond.code yX5_proved cX5_proved 12 (some .int)) ∈ G := List.mem_append_left _ (List.mem_append_right _ (List.mem_append_right _ (List.mem_append_right _ (List.mem_append_right _ (List.mem_append_right _ (List.mem_append_right _ (List.mem_append_right _ (List.mem_append_right _ (List.mem_append_right _ (List.mem_append_right _ (List.mem_append_right _ (List.mem_append_right _ (List.mem_append_left _ (List.mem_of_getElem? (i := 0) rfl))))))))))))))
theorem gw_481 : (Cond.methodLink RX5 177 yX5_leafOf) ∈ G := List.mem_append_left _ (List.mem_append_right _ (List.mem_append_right _ (List.mem_append_right _ (List.mem_append_right _ (List.mem_append_right _ (List.mem_append_right _ (List.mem_append_right _ (List.mem_append_right _ (List.mem_append_right _ (List.mem_append_right _ (List.mem_append_right _ (List.mem_append_right _ (List.mem_append_left _ (List.mem_of_getElem? (i := 1) rfl))))))))))))))
theorem gw_482 : (Cond.methodLink RX5 181 yX2_leadsTo) ∈ G := List.mem_append_left _ (List.mem_append_right _ (List.mem_append_right _ (List.mem_append_right _ (List.mem_append_right _ (List.mem_append_right _ (List.mem_append_right _ (List.mem_append_right _ (List.mem_append_right _ (List.mem_append_right _ (List.mem_append_right _ (List.mem_append_right _ (List.mem_append_right _ (List.mem_append_left _ (List.mem_of_getElem? (i := 2) rfl))))))))))))))
theorem gw_483 : (Cond.instanceMethod yX2_leadsTo) ∈ G := List.mem_append_left _ (List.mem_append_right _ (List.mem_append_right _ (List.mem_append_right _ (List.mem_append_right _ (List.mem_append_right _ (List.mem_append_right _ (List.mem_append_right _ (List.mem_append_right _ (List.mem_append_right _ (List.mem_append_right _ (List.mem_append_right _ (List.mem_append_right _ (List.mem_append_left _ (List.mem_of_getElem? (i := 3) rfl))))))))))))))
theorem gw_484 : (Cond.selects RX2 yX2_leadsTo yX2_leadsTo) ∈ G := List.mem_append_left _ (List.mem_append_right _ (List.mem_append_right _ (List.mem_append_right _ (List.mem_append_right _ (List.mem_append_right _ (List.mem_append_right _ (List.mem_append_right _ (List.mem_append_right _ (List.mem_append_right _ (List.mem_append_right _ (List.mem_append_right _ (List.mem_append_right _ (List.mem_append_left _ (List.mem_of_getElem? (i := 4) rfl))))))))))))))
theorem gw_485 : (Cond.code yX2_leadsTo cX2_leadsTo 15 (some .boolean)) ∈ G := List.mem_append_left _ (List.mem_append_right _ (List.mem_append_right _ (List.mem_append_right _ (List.mem_append_right _ (List.mem_append_right _ (List.mem_append_right _ (List.mem_append_right _ (List.mem_append_right _ (List.mem_append_right _ (List.mem_append_right _ (List.mem_append_right _ (List.mem_append_right _ (List.mem_append_left _ (List.mem_of_getElem? (i := 5) rfl))))))))))))))
theorem gw_486 : (Cond.methodLink RL 120 yX6_proved) ∈ G := List.mem_append_left _ (List.mem_append_right _ (List.mem_append_right _ (List.mem_append_right _ (List.mem_append_right _ (List.mem_append_right _ (List.mem_append_right _ (List.mem_append_right _ (List.mem_append_right _ (List.mem_append_right _ (List.mem_append_right _ (List.mem_append_right _ (List.mem_append_right _ (List.mem_append_left _ (List.mem_of_getElem? (i := 6) rfl))))))))))))))
theorem gw_487 : (Cond.instanceMethod yX6_proved) ∈ G := List.mem_append_left _ (List.mem_append_right _ (List.mem_append_right _ (List.mem_append_right _ (List.mem_append_right _ (List.mem_append_right _ (List.mem_append_right _ (List.mem_append_right _ (List.mem_append_right _ (List.mem_append_right _ (List.mem_append_right _ (List.mem_append_right _ (List.mem_append_right _ (List.mem_append_left _ (List.mem_of_getElem? (i := 7) rfl))))))))))))))
theorem gw_488 : (Cond.selects RX6 yX6_proved yX6_proved) ∈ G := List.mem_append_left _ (List.mem_append_right _ (List.mem_append_right _ (List.mem_append_right _ (List.mem_append_right _ (List.mem_append_right _ (List.mem_append_right _ (List.mem_append_right _ (List.mem_append_right _ (List.mem_append_right _ (List.mem_append_right _ (List.mem_append_right _ (List.mem_append_right _ (List.mem_append_left _ (List.mem_of_getElem? (i := 8) rfl))))))))))))))
theorem gw_489 : (Cond.code yX6_proved cX6_proved 18 (some .int)) ∈ G := List.mem_append_left _ (List.mem_append_right _ (List.mem_append_right _ (List.mem_append_right _ (List.mem_append_right _ (List.mem_append_right _ (List.mem_append_right _ (List.mem_append_right _ (List.mem_append_right _ (List.mem_append_right _ (List.mem_append_right _ (List.mem_append_right _ (List.mem_append_right _ (List.mem_append_left _ (List.mem_of_getElem? (i := 9) rfl))))))))))))))
theorem gw_490 : (Cond.methodLink RL 121 yX5_subscribe) ∈ G := List.mem_append_left _ (List.mem_append_right _ (List.mem_append_right _ (List.mem_append_right _ (List.mem_append_right _ (List.mem_append_right _ (List.mem_append_right _ (List.mem_append_right _ (List.mem_append_right _ (List.mem_append_right _ (List.mem_append_right _ (List.mem_append_right _ (List.mem_append_right _ (List.mem_append_left _ (List.mem_of_getElem? (i := 10) rfl))))))))))))))
theorem gw_491 : (Cond.instanceMethod yX5_subscribe) ∈ G := List.mem_append_left _ (List.mem_append_right _ (List.mem_append_right _ (List.mem_append_right _ (List.mem_append_right _ (List.mem_append_right _ (List.mem_append_right _ (List.mem_append_right _ (List.mem_append_right _ (List.mem_append_right _ (List.mem_append_right _ (List.mem_append_right _ (List.mem_append_right _ (List.mem_append_left _ (List.mem_of_getElem? (i := 11) rfl))))))))))))))
theorem gw_492 : (Cond.selects RX5 yX5_subscribe yX5_subscribe) ∈ G := List.mem_append_left _ (List.mem_append_right _ (List.mem_append_right _ (List.mem_append_right _ (List.mem_append_right _ (List.mem_append_right _ (List.mem_append_right _ (List.mem_append_right _ (List.mem_append_right _ (List.mem_append_right _ (List.mem_append_right _ (List.mem_append_right _ (List.mem_append_right _ (List.mem_append_left _ (List.mem_of_getElem? (i := 12) rfl))))))))))))))
theorem gw_493 : (Cond.code yX5_subscribe cX5_subscribe 3 (some .int)) ∈ G := List.mem_append_left _ (List.mem_append_right _ (List.mem_append_right _ (List.mem_append_right _ (List.mem_append_right _ (List.mem_append_right _ (List.mem_append_right _ (List.mem_append_right _ (List.mem_append_right _ (List.mem_append_right _ (List.mem_append_right _ (List.mem_append_right _ (List.mem_append_right _ (List.mem_append_left _ (List.mem_of_getElem? (i := 13) rfl))))))))))))))
theorem gw_494 : (Cond.instantiable RX3 3) ∈ G := List.mem_append_left _ (List.mem_append_right _ (List.mem_append_right _ (List.mem_append_right _ (List.mem_append_right _ (List.mem_append_right _ (List.mem_append_right _ (List.mem_append_right _ (List.mem_append_right _ (List.mem_append_right _ (List.mem_append_right _ (List.mem_append_right _ (List.mem_append_right _ (List.mem_append_left _ (List.mem_of_getElem? (i := 14) rfl))))))))))))))
theorem gw_495 : (Cond.methodLink RX5 188 yX3_init) ∈ G := List.mem_append_left _ (List.mem_append_right _ (List.mem_append_right _ (List.mem_append_right _ (List.mem_append_right _ (List.mem_append_right _ (List.mem_append_right _ (List.mem_append_right _ (List.mem_append_right _ (List.mem_append_right _ (List.mem_append_right _ (List.mem_append_right _ (List.mem_append_right _ (List.mem_append_left _ (List.mem_of_getElem? (i := 15) rfl))))))))))))))
theorem gw_496 : (Cond.instanceMethod yX3_init) ∈ G := List.mem_append_left _ (List.mem_append_right _ (List.mem_append_right _ (List.mem_append_right _ (List.mem_append_right _ (List.mem_append_right _ (List.mem_append_right _ (List.mem_append_right _ (List.mem_append_right _ (List.mem_append_right _ (List.mem_append_right _ (List.mem_append_right _ (List.mem_append_right _ (List.mem_append_left _ (List.mem_of_getElem? (i := 16) rfl))))))))))))))
theorem gw_497 : (Cond.code yX3_init cX3_init 3 none) ∈ G := List.mem_append_left _ (List.mem_append_right _ (List.mem_append_right _ (List.mem_append_right _ (List.mem_append_right _ (List.mem_append_right _ (List.mem_append_right _ (List.mem_append_right _ (List.mem_append_right _ (List.mem_append_right _ (List.mem_append_right _ (List.mem_append_right _ (List.mem_append_right _ (List.mem_append_left _ (List.mem_of_getElem? (i := 17) rfl))))))))))))))
theorem gw_498 : (Cond.methodLink RX3 1 objectInit) ∈ G := List.mem_append_left _ (List.mem_append_right _ (List.mem_append_right _ (List.mem_append_right _ (List.mem_append_right _ (List.mem_append_right _ (List.mem_append_right _ (List.mem_append_right _ (List.mem_append_right _ (List.mem_append_right _ (List.mem_append_right _ (List.mem_append_right _ (List.mem_append_right _ (List.mem_append_left _ (List.mem_of_getElem? (i := 18) rfl))))))))))))))
theorem gw_499 : (Cond.fieldLink RX3 7 "EventRows$Subscriber" "topic" "I") ∈ G := List.mem_append_left _ (List.mem_append_right _ (List.mem_append_right _ (List.mem_append_right _ (List.mem_append_right _ (List.mem_append_right _ (List.mem_append_right _ (List.mem_append_right _ (List.mem_append_right _ (List.mem_append_right _ (List.mem_append_right _ (List.mem_append_right _ (List.mem_append_right _ (List.mem_append_left _ (List.mem_of_getElem? (i := 19) rfl))))))))))))))
theorem gw_500 : (Cond.methodLink RL 124 yX6_subscribe) ∈ G := List.mem_append_left _ (List.mem_append_right _ (List.mem_append_right _ (List.mem_append_right _ (List.mem_append_right _ (List.mem_append_right _ (List.mem_append_right _ (List.mem_append_right _ (List.mem_append_right _ (List.mem_append_right _ (List.mem_append_right _ (List.mem_append_right _ (List.mem_append_right _ (List.mem_append_left _ (List.mem_of_getElem? (i := 20) rfl))))))))))))))
theorem gw_501 : (Cond.instanceMethod yX6_subscribe) ∈ G := List.mem_append_left _ (List.mem_append_right _ (List.mem_append_right _ (List.mem_append_right _ (List.mem_append_right _ (List.mem_append_right _ (List.mem_append_right _ (List.mem_append_right _ (List.mem_append_right _ (List.mem_append_right _ (List.mem_append_right _ (List.mem_append_right _ (List.mem_append_right _ (List.mem_append_left _ (List.mem_of_getElem? (i := 21) rfl))))))))))))))
theorem gw_502 : (Cond.selects RX6 yX6_subscribe yX6_subscribe) ∈ G := List.mem_append_left _ (List.mem_append_right _ (List.mem_append_right _ (List.mem_append_right _ (List.mem_append_right _ (List.mem_append_right _ (List.mem_append_right _ (List.mem_append_right _ (List.mem_append_right _ (List.mem_append_right _ (List.mem_append_right _ (List.mem_append_right _ (List.mem_append_right _ (List.mem_append_left _ (List.mem_of_getElem? (i := 22) rfl))))))))))))))
theorem gw_503 : (Cond.code yX6_subscribe cX6_subscribe 3 (some .int)) ∈ G := List.mem_append_left _ (List.mem_append_right _ (List.mem_append_right _ (List.mem_append_right _ (List.mem_append_right _ (List.mem_append_right _ (List.mem_append_right _ (List.mem_append_right _ (List.mem_append_right _ (List.mem_append_right _ (List.mem_append_right _ (List.mem_append_right _ (List.mem_append_right _ (List.mem_append_left _ (List.mem_of_getElem? (i := 23) rfl))))))))))))))
theorem gw_504 : (Cond.methodLink RL 125 yX5_next) ∈ G := List.mem_append_left _ (List.mem_append_right _ (List.mem_append_right _ (List.mem_append_right _ (List.mem_append_right _ (List.mem_append_right _ (List.mem_append_right _ (List.mem_append_right _ (List.mem_append_right _ (List.mem_append_right _ (List.mem_append_right _ (List.mem_append_right _ (List.mem_append_right _ (List.mem_append_left _ (List.mem_of_getElem? (i := 24) rfl))))))))))))))
theorem gw_505 : (Cond.instanceMethod yX5_next) ∈ G := List.mem_append_left _ (List.mem_append_right _ (List.mem_append_right _ (List.mem_append_right _ (List.mem_append_right _ (List.mem_append_right _ (List.mem_append_right _ (List.mem_append_right _ (List.mem_append_right _ (List.mem_append_right _ (List.mem_append_right _ (List.mem_append_right _ (List.mem_append_right _ (List.mem_append_left _ (List.mem_of_getElem? (i := 25) rfl))))))))))))))
theorem gw_506 : (Cond.selects RX5 yX5_next yX5_next) ∈ G := List.mem_append_left _ (List.mem_append_right _ (List.mem_append_right _ (List.mem_append_right _ (List.mem_append_right _ (List.mem_append_right _ (List.mem_append_right _ (List.mem_append_right _ (List.mem_append_right _ (List.mem_append_right _ (List.mem_append_right _ (List.mem_append_right _ (List.mem_append_right _ (List.mem_append_left _ (List.mem_of_getElem? (i := 26) rfl))))))))))))))
theorem gw_507 : (Cond.code yX5_next cX5_next 6 (some .int)) ∈ G := List.mem_append_left _ (List.mem_append_right _ (List.mem_append_right _ (List.mem_append_right _ (List.mem_append_right _ (List.mem_append_right _ (List.mem_append_right _ (List.mem_append_right _ (List.mem_append_right _ (List.mem_append_right _ (List.mem_append_right _ (List.mem_append_right _ (List.mem_append_right _ (List.mem_append_left _ (List.mem_of_getElem? (i := 27) rfl))))))))))))))
theorem gw_508 : (Cond.fieldLink RX5 195 "EventRows$Subscriber" "number" "I") ∈ G := List.mem_append_left _ (List.mem_append_right _ (List.mem_append_right _ (List.mem_append_right _ (List.mem_append_right _ (List.mem_append_right _ (List.mem_append_right _ (List.mem_append_right _ (List.mem_append_right _ (List.mem_append_right _ (List.mem_append_right _ (List.mem_append_right _ (List.mem_append_right _ (List.mem_append_left _ (List.mem_of_getElem? (i := 28) rfl))))))))))))))
theorem gw_509 : (Cond.fieldLink RX5 201 "EventRows$Subscriber" "topic" "I") ∈ G := List.mem_append_left _ (List.mem_append_right _ (List.mem_append_right _ (List.mem_append_right _ (List.mem_append_right _ (List.mem_append_right _ (List.mem_append_right _ (List.mem_append_right _ (List.mem_append_right _ (List.mem_append_right _ (List.mem_append_right _ (List.mem_append_right _ (List.mem_append_right _ (List.mem_append_left _ (List.mem_of_getElem? (i := 29) rfl))))))))))))))
theorem gw_510 : (Cond.methodLink RX5 204 yX5_firstKeptWith) ∈ G := List.mem_append_left _ (List.mem_append_right _ (List.mem_append_right _ (List.mem_append_right _ (List.mem_append_right _ (List.mem_append_right _ (List.mem_append_right _ (List.mem_append_right _ (List.mem_append_right _ (List.mem_append_right _ (List.mem_append_right _ (List.mem_append_right _ (List.mem_append_right _ (List.mem_append_left _ (List.mem_of_getElem? (i := 30) rfl))))))))))))))
theorem gw_511 : (Cond.instanceMethod yX5_firstKeptWith) ∈ G := List.mem_append_left _ (List.mem_append_right _ (List.mem_append_right _ (List.mem_append_right _ (List.mem_append_right _ (List.mem_append_right _ (List.mem_append_right _ (List.mem_append_right _ (List.mem_append_right _ (List.mem_append_right _ (List.mem_append_right _ (List.mem_append_right _ (List.mem_append_right _ (List.mem_append_left _ (List.mem_of_getElem? (i := 31) rfl))))))))))))))
theorem gw_512 : (Cond.selects RX5 yX5_firstKeptWith yX5_firstKeptWith) ∈ G := List.mem_append_left _ (List.mem_append_right _ (List.mem_append_right _ (List.mem_append_right _ (List.mem_append_right _ (List.mem_append_right _ (List.mem_append_right _ (List.mem_append_right _ (List.mem_append_right _ (List.mem_append_right _ (List.mem_append_right _ (List.mem_append_right _ (List.mem_append_right _ (List.mem_append_left _ (List.mem_of_getElem? (i := 32) rfl))))))))))))))
theorem gw_513 : (Cond.code yX5_firstKeptWith cX5_firstKeptWith 5 (some .int)) ∈ G := List.mem_append_left _ (List.mem_append_right _ (List.mem_append_right _ (List.mem_append_right _ (List.mem_append_right _ (List.mem_append_right _ (List.mem_append_right _ (List.mem_append_right _ (List.mem_append_right _ (List.mem_append_right _ (List.mem_append_right _ (List.mem_append_right _ (List.mem_append_right _ (List.mem_append_left _ (List.mem_of_getElem? (i := 33) rfl))))))))))))))
theorem gw_514 : (Cond.methodLink RL 128 yX6_next) ∈ G := List.mem_append_left _ (List.mem_append_right _ (List.mem_append_right _ (List.mem_append_right _ (List.mem_append_right _ (List.mem_append_right _ (List.mem_append_right _ (List.mem_append_right _ (List.mem_append_right _ (List.mem_append_right _ (List.mem_append_right _ (List.mem_append_right _ (List.mem_append_right _ (List.mem_append_left _ (List.mem_of_getElem? (i := 34) rfl))))))))))))))
theorem gw_515 : (Cond.instanceMethod yX6_next) ∈ G := List.mem_append_left _ (List.mem_append_right _ (List.mem_append_right _ (List.mem_append_right _ (List.mem_append_right _ (List.mem_append_right _ (List.mem_append_right _ (List.mem_append_right _ (List.mem_append_right _ (List.mem_append_right _ (List.mem_append_right _ (List.mem_append_right _ (List.mem_append_right _ (List.mem_append_left _ (List.mem_of_getElem? (i := 35) rfl))))))))))))))
theorem gw_516 : (Cond.selects RX6 yX6_next yX6_next) ∈ G := List.mem_append_left _ (List.mem_append_right _ (List.mem_append_right _ (List.mem_append_right _ (List.mem_append_right _ (List.mem_append_right _ (List.mem_append_right _ (List.mem_append_right _ (List.mem_append_right _ (List.mem_append_right _ (List.mem_append_right _ (List.mem_append_right _ (List.mem_append_right _ (List.mem_append_left _ (List.mem_of_getElem? (i := 36) rfl))))))))))))))
theorem gw_517 : (Cond.code yX6_next cX6_next 4 (some .int)) ∈ G := List.mem_append_left _ (List.mem_append_right _ (List.mem_append_right _ (List.mem_append_right _ (List.mem_append_right _ (List.mem_append_right _ (List.mem_append_right _ (List.mem_append_right _ (List.mem_append_right _ (List.mem_append_right _ (List.mem_append_right _ (List.mem_append_right _ (List.mem_append_right _ (List.mem_append_left _ (List.mem_of_getElem? (i := 37) rfl))))))))))))))
theorem gw_518 : (Cond.methodLink RL 129 yX5_place) ∈ G := List.mem_append_left _ (List.mem_append_right _ (List.mem_append_right _ (List.mem_append_right _ (List.mem_append_right _ (List.mem_append_right _ (List.mem_append_right _ (List.mem_append_right _ (List.mem_append_right _ (List.mem_append_right _ (List.mem_append_right _ (List.mem_append_right _ (List.mem_append_right _ (List.mem_append_left _ (List.mem_of_getElem? (i := 38) rfl))))))))))))))
theorem gw_519 : (Cond.instanceMethod yX5_place) ∈ G := List.mem_append_left _ (List.mem_append_right _ (List.mem_append_right _ (List.mem_append_right _ (List.mem_append_right _ (List.mem_append_right _ (List.mem_append_right _ (List.mem_append_right _ (List.mem_append_right _ (List.mem_append_right _ (List.mem_append_right _ (List.mem_append_right _ (List.mem_append_right _ (List.mem_append_left _ (List.mem_of_getElem? (i := 39) rfl))))))))))))))
theorem gw_520 : (Cond.selects RX5 yX5_place yX5_place) ∈ G := List.mem_append_left _ (List.mem_append_right _ (List.mem_append_right _ (List.mem_append_right _ (List.mem_append_right _ (List.mem_append_right _ (List.mem_append_right _ (List.mem_append_right _ (List.mem_append_right _ (List.mem_append_right _ (List.mem_append_right _ (List.mem_append_right _ (List.mem_append_right _ (List.mem_append_right _ (List.mem_of_getElem? (i := 0) rfl))))))))))))))
theorem gw_521 : (Cond.code yX5_place cX5_place 3 (some .int)) ∈ G := List.mem_append_left _ (List.mem_append_right _ (List.mem_append_right _ (List.mem_append_right _ (List.mem_append_right _ (List.mem_append_right _ (List.mem_append_right _ (List.mem_append_right _ (List.mem_append_right _ (List.mem_append_right _ (List.mem_append_right _ (List.mem_append_right _ (List.mem_append_right _ (List.mem_append_right _ (List.mem_of_getElem? (i := 1) rfl))))))))))))))
theorem gw_522 : (Cond.methodLink RL 132 yX6_place) ∈ G := List.mem_append_left _ (List.mem_append_right _ (List.mem_append_right _ (List.mem_append_right _ (List.mem_append_right _ (List.mem_append_right _ (List.mem_append_right _ (List.mem_append_right _ (List.mem_append_right _ (List.mem_append_right _ (List.mem_append_right _ (List.mem_append_right _ (List.mem_append_right _ (List.mem_append_right _ (List.mem_of_getElem? (i := 2) rfl))))))))))))))
theorem gw_523 : (Cond.instanceMethod yX6_place) ∈ G := List.mem_append_left _ (List.mem_append_right _ (List.mem_append_right _ (List.mem_append_right _ (List.mem_append_right _ (List.mem_append_right _ (List.mem_append_right _ (List.mem_append_right _ (List.mem_append_right _ (List.mem_append_right _ (List.mem_append_right _ (List.mem_append_right _ (List.mem_append_right _ (List.mem_append_right _ (List.mem_of_getElem? (i := 3) rfl))))))))))))))
theorem gw_524 : (Cond.selects RX6 yX6_place yX6_place) ∈ G := List.mem_append_left _ (List.mem_append_right _ (List.mem_append_right _ (List.mem_append_right _ (List.mem_append_right _ (List.mem_append_right _ (List.mem_append_right _ (List.mem_append_right _ (List.mem_append_right _ (List.mem_append_right _ (List.mem_append_right _ (List.mem_append_right _ (List.mem_append_right _ (List.mem_append_right _ (List.mem_of_getElem? (i := 4) rfl))))))))))))))
theorem gw_525 : (Cond.code yX6_place cX6_place 2 (some .int)) ∈ G := List.mem_append_left _ (List.mem_append_right _ (List.mem_append_right _ (List.mem_append_right _ (List.mem_append_right _ (List.mem_append_right _ (List.mem_append_right _ (List.mem_append_right _ (List.mem_append_right _ (List.mem_append_right _ (List.mem_append_right _ (List.mem_append_right _ (List.mem_append_right _ (List.mem_append_right _ (List.mem_of_getElem? (i := 5) rfl))))))))))))))
end
section
theorem dX0_init_0 : decode cX0_init 0 = .ok (.aload_n 0, 1) := by decide +kernel
theorem dX0_init_1 : decode cX0_init 1 = .ok (.invokespecial 3, 3) := by decide +kernel
theorem dX0_init_4 : decode cX0_init 4 = .ok (.aload_n 0, 1) := by decide +kernel
theorem dX0_init_5 : decode cX0_init 5 = .ok (.bipush 32, 2) := by decide +kernel
theorem dX0_init_7 : decode cX0_init 7 = .ok (.newarray .int, 2) := by decide +kernel
theorem dX0_init_9 : decode cX0_init 9 = .ok (.putfield 9, 3) := by decide +kernel
theorem dX0_init_12 : decode cX0_init 12 = .ok (.aload_n 0, 1) := by decide +kernel
theorem dX0_init_13 : decode cX0_init 13 = .ok (.bipush 32, 2) := by decide +kernel
theorem dX0_init_15 : decode cX0_init 15 = .ok (.newarray .int, 2) := by decide +kernel
theorem dX0_init_17 : decode cX0_init 17 = .ok (.putfield 15, 3) := by decide +kernel
theorem dX0_init_20 : decode cX0_init 20 = .ok (.aload_n 0, 1) := by decide +kernel
theorem dX0_init_21 : decode cX0_init 21 = .ok (.bipush 32, 2) := by decide +kernel
theorem dX0_init_23 : decode cX0_init 23 = .ok (.newarray .int, 2) := by decide +kernel
theorem dX0_init_25 : decode cX0_init 25 = .ok (.putfield 18, 3) := by decide +kernel
theorem dX0_init_28 : decode cX0_init 28 = .ok (.aload_n 0, 1) := by decide +kernel
theorem dX0_init_29 : decode cX0_init 29 = .ok (.bipush 32, 2) := by decide +kernel
theorem dX0_init_31 : decode cX0_init 31 = .ok (.newarray .int, 2) := by decide +kernel
theorem dX0_init_33 : decode cX0_init 33 = .ok (.putfield 21, 3) := by decide +kernel
theorem dX0_init_36 : decode cX0_init 36 = .ok (.aload_n 0, 1) := by decide +kernel
theorem dX0_init_37 : decode cX0_init 37 = .ok (.bipush 32, 2) := by decide +kernel
theorem dX0_init_39 : decode cX0_init 39 = .ok (.newarray .long, 2) := by decide +kernel
theorem dX0_init_41 : decode cX0_init 41 = .ok (.putfield 24, 3) := by decide +kernel
theorem dX0_init_44 : decode cX0_init 44 = .ok (.aload_n 0, 1) := by decide +kernel
theorem dX0_init_45 : decode cX0_init 45 = .ok (.iconst 1, 1) := by decide +kernel
theorem dX0_init_46 : decode cX0_init 46 = .ok (.putfield 28, 3) := by decide +kernel
theorem dX0_init_49 : decode cX0_init 49 = .ok (.return_, 1) := by decide +kernel
theorem dX0_add_0 : decode cX0_add 0 = .ok (.aload_n 0, 1) := by decide +kernel
theorem dX0_add_1 : decode cX0_add 1 = .ok (.getfield 9, 3) := by decide +kernel
theorem dX0_add_4 : decode cX0_add 4 = .ok (.aload_n 0, 1) := by decide +kernel
theorem dX0_add_5 : decode cX0_add 5 = .ok (.getfield 32, 3) := by decide +kernel
theorem dX0_add_8 : decode cX0_add 8 = .ok (.iload_n 1, 1) := by decide +kernel
theorem dX0_add_9 : decode cX0_add 9 = .ok (.iastore, 1) := by decide +kernel
theorem dX0_add_10 : decode cX0_add 10 = .ok (.aload_n 0, 1) := by decide +kernel
theorem dX0_add_11 : decode cX0_add 11 = .ok (.getfield 15, 3) := by decide +kernel
theorem dX0_add_14 : decode cX0_add 14 = .ok (.aload_n 0, 1) := by decide +kernel
theorem dX0_add_15 : decode cX0_add 15 = .ok (.getfield 32, 3) := by decide +kernel
theorem dX0_add_18 : decode cX0_add 18 = .ok (.iload_n 2, 1) := by decide +kernel
theorem dX0_add_19 : decode cX0_add 19 = .ok (.iastore, 1) := by decide +kernel
theorem dX0_add_20 : decode cX0_add 20 = .ok (.aload_n 0, 1) := by decide +kernel
theorem dX0_add_21 : decode cX0_add 21 = .ok (.getfield 18, 3) := by decide +kernel
theorem dX0_add_24 : decode cX0_add 24 = .ok (.aload_n 0, 1) := by decide +kernel
theorem dX0_add_25 : decode cX0_add 25 = .ok (.getfield 32, 3) := by decide +kernel
theorem dX0_add_28 : decode cX0_add 28 = .ok (.iload_n 3, 1) := by decide +kernel
theorem dX0_add_29 : decode cX0_add 29 = .ok (.iastore, 1) := by decide +kernel
theorem dX0_add_30 : decode cX0_add 30 = .ok (.aload_n 0, 1) := by decide +kernel
theorem dX0_add_31 : decode cX0_add 31 = .ok (.getfield 21, 3) := by decide +kernel
theorem dX0_add_34 : decode cX0_add 34 = .ok (.aload_n 0, 1) := by decide +kernel
theorem dX0_add_35 : decode cX0_add 35 = .ok (.getfield 32, 3) := by decide +kernel
theorem dX0_add_38 : decode cX0_add 38 = .ok (.iload 4, 2) := by decide +kernel
theorem dX0_add_40 : decode cX0_add 40 = .ok (.iastore, 1) := by decide +kernel
theorem dX0_add_41 : decode cX0_add 41 = .ok (.aload_n 0, 1) := by decide +kernel
theorem dX0_add_42 : decode cX0_add 42 = .ok (.getfield 24, 3) := by decide +kernel
theorem dX0_add_45 : decode cX0_add 45 = .ok (.aload_n 0, 1) := by decide +kernel
theorem dX0_add_46 : decode cX0_add 46 = .ok (.getfield 32, 3) := by decide +kernel
theorem dX0_add_49 : decode cX0_add 49 = .ok (.lload 5, 2) := by decide +kernel
theorem dX0_add_51 : decode cX0_add 51 = .ok (.lastore, 1) := by decide +kernel
theorem dX0_add_52 : decode cX0_add 52 = .ok (.aload_n 0, 1) := by decide +kernel
theorem dX0_add_53 : decode cX0_add 53 = .ok (.dup, 1) := by decide +kernel
theorem dX0_add_54 : decode cX0_add 54 = .ok (.getfield 32, 3) := by decide +kernel
theorem dX0_add_57 : decode cX0_add 57 = .ok (.iconst 1, 1) := by decide +kernel
theorem dX0_add_58 : decode cX0_add 58 = .ok (.iadd, 1) := by decide +kernel
theorem dX0_add_59 : decode cX0_add 59 = .ok (.putfield 32, 3) := by decide +kernel
theorem dX0_add_62 : decode cX0_add 62 = .ok (.return_, 1) := by decide +kernel
theorem dX0_clear_0 : decode cX0_clear 0 = .ok (.aload_n 0, 1) := by decide +kernel
theorem dX0_clear_1 : decode cX0_clear 1 = .ok (.iconst 0, 1) := by decide +kernel
theorem dX0_clear_2 : decode cX0_clear 2 = .ok (.putfield 32, 3) := by decide +kernel
theorem dX0_clear_5 : decode cX0_clear 5 = .ok (.aload_n 0, 1) := by decide +kernel
theorem dX0_clear_6 : decode cX0_clear 6 = .ok (.iconst 1, 1) := by decide +kernel
theorem dX0_clear_7 : decode cX0_clear 7 = .ok (.putfield 28, 3) := by decide +kernel
theorem dX0_clear_10 : decode cX0_clear 10 = .ok (.return_, 1) := by decide +kernel
theorem dX0_seal_0 : decode cX0_seal 0 = .ok (.aload_n 0, 1) := by decide +kernel
theorem dX0_seal_1 : decode cX0_seal 1 = .ok (.iload_n 1, 1) := by decide +kernel
theorem dX0_seal_2 : decode cX0_seal 2 = .ok (.putfield 36, 3) := by decide +kernel
theorem dX0_seal_5 : decode cX0_seal 5 = .ok (.aload_n 0, 1) := by decide +kernel
theorem dX0_seal_6 : decode cX0_seal 6 = .ok (.lload_n 2, 1) := by decide +kernel
theorem dX0_seal_7 : decode cX0_seal 7 = .ok (.putfield 39, 3) := by decide +kernel
theorem dX0_seal_10 : decode cX0_seal 10 = .ok (.aload_n 0, 1) := by decide +kernel
theorem dX0_seal_11 : decode cX0_seal 11 = .ok (.lconst 0, 1) := by decide +kernel
theorem dX0_seal_12 : decode cX0_seal 12 = .ok (.putfield 43, 3) := by decide +kernel
theorem dX0_seal_15 : decode cX0_seal 15 = .ok (.iconst 0, 1) := by decide +kernel
theorem dX0_seal_16 : decode cX0_seal 16 = .ok (.istore 4, 2) := by decide +kernel
theorem dX0_seal_18 : decode cX0_seal 18 = .ok (.iload 4, 2) := by decide +kernel
theorem dX0_seal_20 : decode cX0_seal 20 = .ok (.aload_n 0, 1) := by decide +kernel
theorem dX0_seal_21 : decode cX0_seal 21 = .ok (.getfield 32, 3) := by decide +kernel
theorem dX0_seal_24 : decode cX0_seal 24 = .ok (.if_icmp .ge 24, 3) := by decide +kernel
theorem dX0_seal_27 : decode cX0_seal 27 = .ok (.aload_n 0, 1) := by decide +kernel
theorem dX0_seal_28 : decode cX0_seal 28 = .ok (.dup, 1) := by decide +kernel
theorem dX0_seal_29 : decode cX0_seal 29 = .ok (.getfield 43, 3) := by decide +kernel
theorem dX0_seal_32 : decode cX0_seal 32 = .ok (.aload_n 0, 1) := by decide +kernel
theorem dX0_seal_33 : decode cX0_seal 33 = .ok (.iload 4, 2) := by decide +kernel
theorem dX0_seal_35 : decode cX0_seal 35 = .ok (.invokevirtual 46, 3) := by decide +kernel
theorem dX0_seal_38 : decode cX0_seal 38 = .ok (.lor, 1) := by decide +kernel
theorem dX0_seal_39 : decode cX0_seal 39 = .ok (.putfield 43, 3) := by decide +kernel
theorem dX0_seal_42 : decode cX0_seal 42 = .ok (.iinc 4 1, 3) := by decide +kernel
theorem dX0_seal_45 : decode cX0_seal 45 = .ok (.goto (-27), 3) := by decide +kernel
theorem dX0_seal_48 : decode cX0_seal 48 = .ok (.return_, 1) := by decide +kernel
theorem dX0_topicBits_0 : decode cX0_topicBits 0 = .ok (.aload_n 0, 1) := by decide +kernel
theorem dX0_topicBits_1 : decode cX0_topicBits 1 = .ok (.getfield 15, 3) := by decide +kernel
theorem dX0_topicBits_4 : decode cX0_topicBits 4 = .ok (.iload_n 1, 1) := by decide +kernel
theorem dX0_topicBits_5 : decode cX0_topicBits 5 = .ok (.iaload, 1) := by decide +kernel
theorem dX0_topicBits_6 : decode cX0_topicBits 6 = .ok (.invokestatic 50, 3) := by decide +kernel
theorem dX0_topicBits_9 : decode cX0_topicBits 9 = .ok (.lstore_n 2, 1) := by decide +kernel
theorem dX0_topicBits_10 : decode cX0_topicBits 10 = .ok (.aload_n 0, 1) := by decide +kernel
theorem dX0_topicBits_11 : decode cX0_topicBits 11 = .ok (.getfield 18, 3) := by decide +kernel
theorem dX0_topicBits_14 : decode cX0_topicBits 14 = .ok (.iload_n 1, 1) := by decide +kernel
theorem dX0_topicBits_15 : decode cX0_topicBits 15 = .ok (.iaload, 1) := by decide +kernel
theorem dX0_topicBits_16 : decode cX0_topicBits 16 = .ok (.iconst (-1), 1) := by decide +kernel
theorem dX0_topicBits_17 : decode cX0_topicBits 17 = .ok (.if_icmp .eq 15, 3) := by decide +kernel
theorem dX0_topicBits_20 : decode cX0_topicBits 20 = .ok (.lload_n 2, 1) := by decide +kernel
theorem dX0_topicBits_21 : decode cX0_topicBits 21 = .ok (.aload_n 0, 1) := by decide +kernel
theorem dX0_topicBits_22 : decode cX0_topicBits 22 = .ok (.getfield 18, 3) := by decide +kernel
theorem dX0_topicBits_25 : decode cX0_topicBits 25 = .ok (.iload_n 1, 1) := by decide +kernel
theorem dX0_topicBits_26 : decode cX0_topicBits 26 = .ok (.iaload, 1) := by decide +kernel
theorem dX0_topicBits_27 : decode cX0_topicBits 27 = .ok (.invokestatic 50, 3) := by decide +kernel
theorem dX0_topicBits_30 : decode cX0_topicBits 30 = .ok (.lor, 1) := by decide +kernel
theorem dX0_topicBits_31 : decode cX0_topicBits 31 = .ok (.lstore_n 2, 1) := by decide +kernel
theorem dX0_topicBits_32 : decode cX0_topicBits 32 = .ok (.aload_n 0, 1) := by decide +kernel
theorem dX0_topicBits_33 : decode cX0_topicBits 33 = .ok (.getfield 21, 3) := by decide +kernel
theorem dX0_topicBits_36 : decode cX0_topicBits 36 = .ok (.iload_n 1, 1) := by decide +kernel
theorem dX0_topicBits_37 : decode cX0_topicBits 37 = .ok (.iaload, 1) := by decide +kernel
theorem dX0_topicBits_38 : decode cX0_topicBits 38 = .ok (.iconst (-1), 1) := by decide +kernel
theorem dX0_topicBits_39 : decode cX0_topicBits 39 = .ok (.if_icmp .eq 15, 3) := by decide +kernel
theorem dX0_topicBits_42 : decode cX0_topicBits 42 = .ok (.lload_n 2, 1) := by decide +kernel
theorem dX0_topicBits_43 : decode cX0_topicBits 43 = .ok (.aload_n 0, 1) := by decide +kernel
theorem dX0_topicBits_44 : decode cX0_topicBits 44 = .ok (.getfield 21, 3) := by decide +kernel
theorem dX0_topicBits_47 : decode cX0_topicBits 47 = .ok (.iload_n 1, 1) := by decide +kernel
theorem dX0_topicBits_48 : decode cX0_topicBits 48 = .ok (.iaload, 1) := by decide +kernel
theorem dX0_topicBits_49 : decode cX0_topicBits 49 = .ok (.invokestatic 50, 3) := by decide +kernel
theorem dX0_topicBits_52 : decode cX0_topicBits 52 = .ok (.lor, 1) := by decide +kernel
theorem dX0_topicBits_53 : decode cX0_topicBits 53 = .ok (.lstore_n 2, 1) := by decide +kernel
theorem dX0_topicBits_54 : decode cX0_topicBits 54 = .ok (.lload_n 2, 1) := by decide +kernel
theorem dX0_topicBits_55 : decode cX0_topicBits 55 = .ok (.lreturn, 1) := by decide +kernel
theorem dX0_hasEvent_0 : decode cX0_hasEvent 0 = .ok (.iload_n 1, 1) := by decide +kernel
theorem dX0_hasEvent_1 : decode cX0_hasEvent 1 = .ok (.ifCond .lt 15, 3) := by decide +kernel
theorem dX0_hasEvent_4 : decode cX0_hasEvent 4 = .ok (.iload_n 1, 1) := by decide +kernel
theorem dX0_hasEvent_5 : decode cX0_hasEvent 5 = .ok (.aload_n 0, 1) := by decide +kernel
theorem dX0_hasEvent_6 : decode cX0_hasEvent 6 = .ok (.getfield 32, 3) := by decide +kernel
theorem dX0_hasEvent_9 : decode cX0_hasEvent 9 = .ok (.if_icmp .ge 7, 3) := by decide +kernel
theorem dX0_hasEvent_12 : decode cX0_hasEvent 12 = .ok (.iconst 1, 1) := by decide +kernel
theorem dX0_hasEvent_13 : decode cX0_hasEvent 13 = .ok (.goto 4, 3) := by decide +kernel
theorem dX0_hasEvent_16 : decode cX0_hasEvent 16 = .ok (.iconst 0, 1) := by decide +kernel
theorem dX0_hasEvent_17 : decode cX0_hasEvent 17 = .ok (.ireturn, 1) := by decide +kernel
theorem dX0_detail_0 : decode cX0_detail 0 = .ok (.iload_n 2, 1) := by decide +kernel
theorem dX0_detail_1 : decode cX0_detail 1 = .ok (.tableswitch 85 0 4 #[35, 42, 58, 65, 75], 35) := by decide +kernel
theorem dX0_detail_36 : decode cX0_detail 36 = .ok (.aload_n 0, 1) := by decide +kernel
theorem dX0_detail_37 : decode cX0_detail 37 = .ok (.getfield 9, 3) := by decide +kernel
theorem dX0_detail_40 : decode cX0_detail 40 = .ok (.iload_n 1, 1) := by decide +kernel
theorem dX0_detail_41 : decode cX0_detail 41 = .ok (.iaload, 1) := by decide +kernel
theorem dX0_detail_42 : decode cX0_detail 42 = .ok (.ireturn, 1) := by decide +kernel
theorem dX0_detail_43 : decode cX0_detail 43 = .ok (.aload_n 0, 1) := by decide +kernel
theorem dX0_detail_44 : decode cX0_detail 44 = .ok (.getfield 18, 3) := by decide +kernel
theorem dX0_detail_47 : decode cX0_detail 47 = .ok (.iload_n 1, 1) := by decide +kernel
theorem dX0_detail_48 : decode cX0_detail 48 = .ok (.iaload, 1) := by decide +kernel
theorem dX0_detail_49 : decode cX0_detail 49 = .ok (.aload_n 0, 1) := by decide +kernel
theorem dX0_detail_50 : decode cX0_detail 50 = .ok (.getfield 21, 3) := by decide +kernel
theorem dX0_detail_53 : decode cX0_detail 53 = .ok (.iload_n 1, 1) := by decide +kernel
theorem dX0_detail_54 : decode cX0_detail 54 = .ok (.iaload, 1) := by decide +kernel
theorem dX0_detail_55 : decode cX0_detail 55 = .ok (.invokestatic 53, 3) := by decide +kernel
theorem dX0_detail_58 : decode cX0_detail 58 = .ok (.ireturn, 1) := by decide +kernel
theorem dX0_detail_59 : decode cX0_detail 59 = .ok (.aload_n 0, 1) := by decide +kernel
theorem dX0_detail_60 : decode cX0_detail 60 = .ok (.getfield 15, 3) := by decide +kernel
theorem dX0_detail_63 : decode cX0_detail 63 = .ok (.iload_n 1, 1) := by decide +kernel
theorem dX0_detail_64 : decode cX0_detail 64 = .ok (.iaload, 1) := by decide +kernel
theorem dX0_detail_65 : decode cX0_detail 65 = .ok (.ireturn, 1) := by decide +kernel
theorem dX0_detail_66 : decode cX0_detail 66 = .ok (.aload_n 0, 1) := by decide +kernel
theorem dX0_detail_67 : decode cX0_detail 67 = .ok (.getfield 18, 3) := by decide +kernel
theorem dX0_detail_70 : decode cX0_detail 70 = .ok (.iload_n 1, 1) := by decide +kernel
theorem dX0_detail_71 : decode cX0_detail 71 = .ok (.iaload, 1) := by decide +kernel
theorem dX0_detail_72 : decode cX0_detail 72 = .ok (.invokestatic 57, 3) := by decide +kernel
theorem dX0_detail_75 : decode cX0_detail 75 = .ok (.ireturn, 1) := by decide +kernel
theorem dX0_detail_76 : decode cX0_detail 76 = .ok (.aload_n 0, 1) := by decide +kernel
theorem dX0_detail_77 : decode cX0_detail 77 = .ok (.getfield 21, 3) := by decide +kernel
theorem dX0_detail_80 : decode cX0_detail 80 = .ok (.iload_n 1, 1) := by decide +kernel
theorem dX0_detail_81 : decode cX0_detail 81 = .ok (.iaload, 1) := by decide +kernel
theorem dX0_detail_82 : decode cX0_detail 82 = .ok (.invokestatic 57, 3) := by decide +kernel
theorem dX0_detail_85 : decode cX0_detail 85 = .ok (.ireturn, 1) := by decide +kernel
theorem dX0_detail_86 : decode cX0_detail 86 = .ok (.aload_n 0, 1) := by decide +kernel
theorem dX0_detail_87 : decode cX0_detail 87 = .ok (.getfield 36, 3) := by decide +kernel
theorem dX0_detail_90 : decode cX0_detail 90 = .ok (.iload_n 1, 1) := by decide +kernel
theorem dX0_detail_91 : decode cX0_detail 91 = .ok (.iadd, 1) := by decide +kernel
theorem dX0_detail_92 : decode cX0_detail 92 = .ok (.ireturn, 1) := by decide +kernel
theorem dX0_topicOrNone_0 : decode cX0_topicOrNone 0 = .ok (.iload_n 0, 1) := by decide +kernel
theorem dX0_topicOrNone_1 : decode cX0_topicOrNone 1 = .ok (.iconst (-1), 1) := by decide +kernel
theorem dX0_topicOrNone_2 : decode cX0_topicOrNone 2 = .ok (.if_icmp .ne 8, 3) := by decide +kernel
theorem dX0_topicOrNone_5 : decode cX0_topicOrNone 5 = .ok (.bipush (-5), 2) := by decide +kernel
theorem dX0_topicOrNone_7 : decode cX0_topicOrNone 7 = .ok (.goto 4, 3) := by decide +kernel
theorem dX0_topicOrNone_10 : decode cX0_topicOrNone 10 = .ok (.iload_n 0, 1) := by decide +kernel
theorem dX0_topicOrNone_11 : decode cX0_topicOrNone 11 = .ok (.ireturn, 1) := by decide +kernel
theorem dX0_firstWith_0 : decode cX0_firstWith 0 = .ok (.iload_n 2, 1) := by decide +kernel
theorem dX0_firstWith_1 : decode cX0_firstWith 1 = .ok (.istore_n 3, 1) := by decide +kernel
theorem dX0_firstWith_2 : decode cX0_firstWith 2 = .ok (.iload_n 3, 1) := by decide +kernel
theorem dX0_firstWith_3 : decode cX0_firstWith 3 = .ok (.aload_n 0, 1) := by decide +kernel
theorem dX0_firstWith_4 : decode cX0_firstWith 4 = .ok (.getfield 32, 3) := by decide +kernel
theorem dX0_firstWith_7 : decode cX0_firstWith 7 = .ok (.if_icmp .ge 25, 3) := by decide +kernel
theorem dX0_firstWith_10 : decode cX0_firstWith 10 = .ok (.iload_n 1, 1) := by decide +kernel
theorem dX0_firstWith_11 : decode cX0_firstWith 11 = .ok (.iconst (-1), 1) := by decide +kernel
theorem dX0_firstWith_12 : decode cX0_firstWith 12 = .ok (.if_icmp .eq 12, 3) := by decide +kernel
theorem dX0_firstWith_15 : decode cX0_firstWith 15 = .ok (.aload_n 0, 1) := by decide +kernel
theorem dX0_firstWith_16 : decode cX0_firstWith 16 = .ok (.iload_n 3, 1) := by decide +kernel
theorem dX0_firstWith_17 : decode cX0_firstWith 17 = .ok (.iload_n 1, 1) := by decide +kernel
theorem dX0_firstWith_18 : decode cX0_firstWith 18 = .ok (.invokevirtual 61, 3) := by decide +kernel
theorem dX0_firstWith_21 : decode cX0_firstWith 21 = .ok (.ifCond .eq 5, 3) := by decide +kernel
theorem dX0_firstWith_24 : decode cX0_firstWith 24 = .ok (.iload_n 3, 1) := by decide +kernel
theorem dX0_firstWith_25 : decode cX0_firstWith 25 = .ok (.ireturn, 1) := by decide +kernel
theorem dX0_firstWith_26 : decode cX0_firstWith 26 = .ok (.iinc 3 1, 3) := by decide +kernel
theorem dX0_firstWith_29 : decode cX0_firstWith 29 = .ok (.goto (-27), 3) := by decide +kernel
theorem dX0_firstWith_32 : decode cX0_firstWith 32 = .ok (.bipush (-5), 2) := by decide +kernel
theorem dX0_firstWith_34 : decode cX0_firstWith 34 = .ok (.ireturn, 1) := by decide +kernel
theorem dX0_hasTopic_0 : decode cX0_hasTopic 0 = .ok (.aload_n 0, 1) := by decide +kernel
theorem dX0_hasTopic_1 : decode cX0_hasTopic 1 = .ok (.getfield 15, 3) := by decide +kernel
theorem dX0_hasTopic_4 : decode cX0_hasTopic 4 = .ok (.iload_n 1, 1) := by decide +kernel
theorem dX0_hasTopic_5 : decode cX0_hasTopic 5 = .ok (.iaload, 1) := by decide +kernel
theorem dX0_hasTopic_6 : decode cX0_hasTopic 6 = .ok (.iload_n 2, 1) := by decide +kernel
theorem dX0_hasTopic_7 : decode cX0_hasTopic 7 = .ok (.if_icmp .eq 23, 3) := by decide +kernel
theorem dX0_hasTopic_10 : decode cX0_hasTopic 10 = .ok (.aload_n 0, 1) := by decide +kernel
theorem dX0_hasTopic_11 : decode cX0_hasTopic 11 = .ok (.getfield 18, 3) := by decide +kernel
theorem dX0_hasTopic_14 : decode cX0_hasTopic 14 = .ok (.iload_n 1, 1) := by decide +kernel
theorem dX0_hasTopic_15 : decode cX0_hasTopic 15 = .ok (.iaload, 1) := by decide +kernel
theorem dX0_hasTopic_16 : decode cX0_hasTopic 16 = .ok (.iload_n 2, 1) := by decide +kernel
theorem dX0_hasTopic_17 : decode cX0_hasTopic 17 = .ok (.if_icmp .eq 13, 3) := by decide +kernel
theorem dX0_hasTopic_20 : decode cX0_hasTopic 20 = .ok (.aload_n 0, 1) := by decide +kernel
theorem dX0_hasTopic_21 : decode cX0_hasTopic 21 = .ok (.getfield 21, 3) := by decide +kernel
theorem dX0_hasTopic_24 : decode cX0_hasTopic 24 = .ok (.iload_n 1, 1) := by decide +kernel
theorem dX0_hasTopic_25 : decode cX0_hasTopic 25 = .ok (.iaload, 1) := by decide +kernel
theorem dX0_hasTopic_26 : decode cX0_hasTopic 26 = .ok (.iload_n 2, 1) := by decide +kernel
theorem dX0_hasTopic_27 : decode cX0_hasTopic 27 = .ok (.if_icmp .ne 7, 3) := by decide +kernel
theorem dX0_hasTopic_30 : decode cX0_hasTopic 30 = .ok (.iconst 1, 1) := by decide +kernel
theorem dX0_hasTopic_31 : decode cX0_hasTopic 31 = .ok (.goto 4, 3) := by decide +kernel
theorem dX0_hasTopic_34 : decode cX0_hasTopic 34 = .ok (.iconst 0, 1) := by decide +kernel
theorem dX0_hasTopic_35 : decode cX0_hasTopic 35 = .ok (.ireturn, 1) := by decide +kernel
theorem dX0_leaf_0 : decode cX0_leaf 0 = .ok (.aload_n 0, 1) := by decide +kernel
theorem dX0_leaf_1 : decode cX0_leaf 1 = .ok (.getfield 9, 3) := by decide +kernel
theorem dX0_leaf_4 : decode cX0_leaf 4 = .ok (.iload_n 1, 1) := by decide +kernel
theorem dX0_leaf_5 : decode cX0_leaf 5 = .ok (.iaload, 1) := by decide +kernel
theorem dX0_leaf_6 : decode cX0_leaf 6 = .ok (.aload_n 0, 1) := by decide +kernel
theorem dX0_leaf_7 : decode cX0_leaf 7 = .ok (.getfield 15, 3) := by decide +kernel
theorem dX0_leaf_10 : decode cX0_leaf 10 = .ok (.iload_n 1, 1) := by decide +kernel
theorem dX0_leaf_11 : decode cX0_leaf 11 = .ok (.iaload, 1) := by decide +kernel
theorem dX0_leaf_12 : decode cX0_leaf 12 = .ok (.aload_n 0, 1) := by decide +kernel
theorem dX0_leaf_13 : decode cX0_leaf 13 = .ok (.getfield 18, 3) := by decide +kernel
theorem dX0_leaf_16 : decode cX0_leaf 16 = .ok (.iload_n 1, 1) := by decide +kernel
theorem dX0_leaf_17 : decode cX0_leaf 17 = .ok (.iaload, 1) := by decide +kernel
theorem dX0_leaf_18 : decode cX0_leaf 18 = .ok (.aload_n 0, 1) := by decide +kernel
theorem dX0_leaf_19 : decode cX0_leaf 19 = .ok (.getfield 21, 3) := by decide +kernel
theorem dX0_leaf_22 : decode cX0_leaf 22 = .ok (.iload_n 1, 1) := by decide +kernel
theorem dX0_leaf_23 : decode cX0_leaf 23 = .ok (.iaload, 1) := by decide +kernel
theorem dX0_leaf_24 : decode cX0_leaf 24 = .ok (.aload_n 0, 1) := by decide +kernel
theorem dX0_leaf_25 : decode cX0_leaf 25 = .ok (.getfield 24, 3) := by decide +kernel
theorem dX0_leaf_28 : decode cX0_leaf 28 = .ok (.iload_n 1, 1) := by decide +kernel
theorem dX0_leaf_29 : decode cX0_leaf 29 = .ok (.laload, 1) := by decide +kernel
theorem dX0_leaf_30 : decode cX0_leaf 30 = .ok (.iload_n 1, 1) := by decide +kernel
theorem dX0_leaf_31 : decode cX0_leaf 31 = .ok (.invokestatic 65, 3) := by decide +kernel
theorem dX0_leaf_34 : decode cX0_leaf 34 = .ok (.lreturn, 1) := by decide +kernel
theorem dX1_init_0 : decode cX1_init 0 = .ok (.aload_n 0, 1) := by decide +kernel
theorem dX1_init_1 : decode cX1_init 1 = .ok (.invokespecial 3, 3) := by decide +kernel
theorem dX1_init_4 : decode cX1_init 4 = .ok (.aload_n 0, 1) := by decide +kernel
theorem dX1_init_5 : decode cX1_init 5 = .ok (.bipush 8, 2) := by decide +kernel
theorem dX1_init_7 : decode cX1_init 7 = .ok (.newarray .int, 2) := by decide +kernel
theorem dX1_init_9 : decode cX1_init 9 = .ok (.putfield 9, 3) := by decide +kernel
theorem dX1_init_12 : decode cX1_init 12 = .ok (.aload_n 0, 1) := by decide +kernel
theorem dX1_init_13 : decode cX1_init 13 = .ok (.bipush 8, 2) := by decide +kernel
theorem dX1_init_15 : decode cX1_init 15 = .ok (.newarray .int, 2) := by decide +kernel
theorem dX1_init_17 : decode cX1_init 17 = .ok (.putfield 15, 3) := by decide +kernel
theorem dX1_init_20 : decode cX1_init 20 = .ok (.aload_n 0, 1) := by decide +kernel
theorem dX1_init_21 : decode cX1_init 21 = .ok (.bipush 8, 2) := by decide +kernel
theorem dX1_init_23 : decode cX1_init 23 = .ok (.newarray .int, 2) := by decide +kernel
theorem dX1_init_25 : decode cX1_init 25 = .ok (.putfield 18, 3) := by decide +kernel
theorem dX1_init_28 : decode cX1_init 28 = .ok (.aload_n 0, 1) := by decide +kernel
theorem dX1_init_29 : decode cX1_init 29 = .ok (.bipush 8, 2) := by decide +kernel
theorem dX1_init_31 : decode cX1_init 31 = .ok (.newarray .boolean, 2) := by decide +kernel
theorem dX1_init_33 : decode cX1_init 33 = .ok (.putfield 21, 3) := by decide +kernel
theorem dX1_init_36 : decode cX1_init 36 = .ok (.return_, 1) := by decide +kernel
theorem dX1_usedOfInnermost_0 : decode cX1_usedOfInnermost 0 = .ok (.aload_n 0, 1) := by decide +kernel
theorem dX1_usedOfInnermost_1 : decode cX1_usedOfInnermost 1 = .ok (.getfield 25, 3) := by decide +kernel
theorem dX1_usedOfInnermost_4 : decode cX1_usedOfInnermost 4 = .ok (.ifCond .ne 7, 3) := by decide +kernel
theorem dX1_usedOfInnermost_7 : decode cX1_usedOfInnermost 7 = .ok (.iconst 0, 1) := by decide +kernel
theorem dX1_usedOfInnermost_8 : decode cX1_usedOfInnermost 8 = .ok (.goto 14, 3) := by decide +kernel
theorem dX1_usedOfInnermost_11 : decode cX1_usedOfInnermost 11 = .ok (.aload_n 0, 1) := by decide +kernel
theorem dX1_usedOfInnermost_12 : decode cX1_usedOfInnermost 12 = .ok (.getfield 15, 3) := by decide +kernel
theorem dX1_usedOfInnermost_15 : decode cX1_usedOfInnermost 15 = .ok (.aload_n 0, 1) := by decide +kernel
theorem dX1_usedOfInnermost_16 : decode cX1_usedOfInnermost 16 = .ok (.getfield 25, 3) := by decide +kernel
theorem dX1_usedOfInnermost_19 : decode cX1_usedOfInnermost 19 = .ok (.iconst 1, 1) := by decide +kernel
theorem dX1_usedOfInnermost_20 : decode cX1_usedOfInnermost 20 = .ok (.isub, 1) := by decide +kernel
theorem dX1_usedOfInnermost_21 : decode cX1_usedOfInnermost 21 = .ok (.iaload, 1) := by decide +kernel
theorem dX1_usedOfInnermost_22 : decode cX1_usedOfInnermost 22 = .ok (.ireturn, 1) := by decide +kernel
theorem dX1_leftOfInnermost_0 : decode cX1_leftOfInnermost 0 = .ok (.aload_n 0, 1) := by decide +kernel
theorem dX1_leftOfInnermost_1 : decode cX1_leftOfInnermost 1 = .ok (.getfield 25, 3) := by decide +kernel
theorem dX1_leftOfInnermost_4 : decode cX1_leftOfInnermost 4 = .ok (.ifCond .ne 7, 3) := by decide +kernel
theorem dX1_leftOfInnermost_7 : decode cX1_leftOfInnermost 7 = .ok (.iconst 0, 1) := by decide +kernel
theorem dX1_leftOfInnermost_8 : decode cX1_leftOfInnermost 8 = .ok (.goto 26, 3) := by decide +kernel
theorem dX1_leftOfInnermost_11 : decode cX1_leftOfInnermost 11 = .ok (.aload_n 0, 1) := by decide +kernel
theorem dX1_leftOfInnermost_12 : decode cX1_leftOfInnermost 12 = .ok (.getfield 9, 3) := by decide +kernel
theorem dX1_leftOfInnermost_15 : decode cX1_leftOfInnermost 15 = .ok (.aload_n 0, 1) := by decide +kernel
theorem dX1_leftOfInnermost_16 : decode cX1_leftOfInnermost 16 = .ok (.getfield 25, 3) := by decide +kernel
theorem dX1_leftOfInnermost_19 : decode cX1_leftOfInnermost 19 = .ok (.iconst 1, 1) := by decide +kernel
theorem dX1_leftOfInnermost_20 : decode cX1_leftOfInnermost 20 = .ok (.isub, 1) := by decide +kernel
theorem dX1_leftOfInnermost_21 : decode cX1_leftOfInnermost 21 = .ok (.iaload, 1) := by decide +kernel
theorem dX1_leftOfInnermost_22 : decode cX1_leftOfInnermost 22 = .ok (.aload_n 0, 1) := by decide +kernel
theorem dX1_leftOfInnermost_23 : decode cX1_leftOfInnermost 23 = .ok (.getfield 15, 3) := by decide +kernel
theorem dX1_leftOfInnermost_26 : decode cX1_leftOfInnermost 26 = .ok (.aload_n 0, 1) := by decide +kernel
theorem dX1_leftOfInnermost_27 : decode cX1_leftOfInnermost 27 = .ok (.getfield 25, 3) := by decide +kernel
theorem dX1_leftOfInnermost_30 : decode cX1_leftOfInnermost 30 = .ok (.iconst 1, 1) := by decide +kernel
theorem dX1_leftOfInnermost_31 : decode cX1_leftOfInnermost 31 = .ok (.isub, 1) := by decide +kernel
theorem dX1_leftOfInnermost_32 : decode cX1_leftOfInnermost 32 = .ok (.iaload, 1) := by decide +kernel
theorem dX1_leftOfInnermost_33 : decode cX1_leftOfInnermost 33 = .ok (.isub, 1) := by decide +kernel
theorem dX1_leftOfInnermost_34 : decode cX1_leftOfInnermost 34 = .ok (.ireturn, 1) := by decide +kernel
theorem dX1_pay_0 : decode cX1_pay 0 = .ok (.aload_n 0, 1) := by decide +kernel
theorem dX1_pay_1 : decode cX1_pay 1 = .ok (.getfield 25, 3) := by decide +kernel
theorem dX1_pay_4 : decode cX1_pay 4 = .ok (.ifCond .eq 11, 3) := by decide +kernel
theorem dX1_pay_7 : decode cX1_pay 7 = .ok (.iload_n 1, 1) := by decide +kernel
theorem dX1_pay_8 : decode cX1_pay 8 = .ok (.aload_n 0, 1) := by decide +kernel
theorem dX1_pay_9 : decode cX1_pay 9 = .ok (.invokevirtual 29, 3) := by decide +kernel
theorem dX1_pay_12 : decode cX1_pay 12 = .ok (.if_icmp .le 5, 3) := by decide +kernel
theorem dX1_pay_15 : decode cX1_pay 15 = .ok (.iconst 0, 1) := by decide +kernel
theorem dX1_pay_16 : decode cX1_pay 16 = .ok (.ireturn, 1) := by decide +kernel
theorem dX1_pay_17 : decode cX1_pay 17 = .ok (.aload_n 0, 1) := by decide +kernel
theorem dX1_pay_18 : decode cX1_pay 18 = .ok (.getfield 15, 3) := by decide +kernel
theorem dX1_pay_21 : decode cX1_pay 21 = .ok (.aload_n 0, 1) := by decide +kernel
theorem dX1_pay_22 : decode cX1_pay 22 = .ok (.getfield 25, 3) := by decide +kernel
theorem dX1_pay_25 : decode cX1_pay 25 = .ok (.iconst 1, 1) := by decide +kernel
theorem dX1_pay_26 : decode cX1_pay 26 = .ok (.isub, 1) := by decide +kernel
theorem dX1_pay_27 : decode cX1_pay 27 = .ok (.dup2, 1) := by decide +kernel
theorem dX1_pay_28 : decode cX1_pay 28 = .ok (.iaload, 1) := by decide +kernel
theorem dX1_pay_29 : decode cX1_pay 29 = .ok (.iload_n 1, 1) := by decide +kernel
theorem dX1_pay_30 : decode cX1_pay 30 = .ok (.iadd, 1) := by decide +kernel
theorem dX1_pay_31 : decode cX1_pay 31 = .ok (.iastore, 1) := by decide +kernel
theorem dX1_pay_32 : decode cX1_pay 32 = .ok (.iconst 1, 1) := by decide +kernel
theorem dX1_pay_33 : decode cX1_pay 33 = .ok (.ireturn, 1) := by decide +kernel
theorem dX1_push_0 : decode cX1_push 0 = .ok (.aload_n 0, 1) := by decide +kernel
theorem dX1_push_1 : decode cX1_push 1 = .ok (.getfield 9, 3) := by decide +kernel
theorem dX1_push_4 : decode cX1_push 4 = .ok (.aload_n 0, 1) := by decide +kernel
theorem dX1_push_5 : decode cX1_push 5 = .ok (.getfield 25, 3) := by decide +kernel
theorem dX1_push_8 : decode cX1_push 8 = .ok (.aload_n 0, 1) := by decide +kernel
theorem dX1_push_9 : decode cX1_push 9 = .ok (.getfield 25, 3) := by decide +kernel
theorem dX1_push_12 : decode cX1_push 12 = .ok (.ifCond .ne 7, 3) := by decide +kernel
theorem dX1_push_15 : decode cX1_push 15 = .ok (.iload_n 1, 1) := by decide +kernel
theorem dX1_push_16 : decode cX1_push 16 = .ok (.goto 11, 3) := by decide +kernel
theorem dX1_push_19 : decode cX1_push 19 = .ok (.iload_n 1, 1) := by decide +kernel
theorem dX1_push_20 : decode cX1_push 20 = .ok (.aload_n 0, 1) := by decide +kernel
theorem dX1_push_21 : decode cX1_push 21 = .ok (.invokevirtual 29, 3) := by decide +kernel
theorem dX1_push_24 : decode cX1_push 24 = .ok (.invokestatic 33, 3) := by decide +kernel
theorem dX1_push_27 : decode cX1_push 27 = .ok (.iastore, 1) := by decide +kernel
theorem dX1_push_28 : decode cX1_push 28 = .ok (.aload_n 0, 1) := by decide +kernel
theorem dX1_push_29 : decode cX1_push 29 = .ok (.getfield 15, 3) := by decide +kernel
theorem dX1_push_32 : decode cX1_push 32 = .ok (.aload_n 0, 1) := by decide +kernel
theorem dX1_push_33 : decode cX1_push 33 = .ok (.getfield 25, 3) := by decide +kernel
theorem dX1_push_36 : decode cX1_push 36 = .ok (.iconst 0, 1) := by decide +kernel
theorem dX1_push_37 : decode cX1_push 37 = .ok (.iastore, 1) := by decide +kernel
theorem dX1_push_38 : decode cX1_push 38 = .ok (.aload_n 0, 1) := by decide +kernel
theorem dX1_push_39 : decode cX1_push 39 = .ok (.getfield 18, 3) := by decide +kernel
theorem dX1_push_42 : decode cX1_push 42 = .ok (.aload_n 0, 1) := by decide +kernel
theorem dX1_push_43 : decode cX1_push 43 = .ok (.getfield 25, 3) := by decide +kernel
theorem dX1_push_46 : decode cX1_push 46 = .ok (.iload_n 3, 1) := by decide +kernel
theorem dX1_push_47 : decode cX1_push 47 = .ok (.iastore, 1) := by decide +kernel
theorem dX1_push_48 : decode cX1_push 48 = .ok (.aload_n 0, 1) := by decide +kernel
theorem dX1_push_49 : decode cX1_push 49 = .ok (.getfield 21, 3) := by decide +kernel
theorem dX1_push_52 : decode cX1_push 52 = .ok (.aload_n 0, 1) := by decide +kernel
theorem dX1_push_53 : decode cX1_push 53 = .ok (.getfield 25, 3) := by decide +kernel
theorem dX1_push_56 : decode cX1_push 56 = .ok (.iload_n 2, 1) := by decide +kernel
theorem dX1_push_57 : decode cX1_push 57 = .ok (.bastore, 1) := by decide +kernel
theorem dX1_push_58 : decode cX1_push 58 = .ok (.aload_n 0, 1) := by decide +kernel
theorem dX1_push_59 : decode cX1_push 59 = .ok (.dup, 1) := by decide +kernel
theorem dX1_push_60 : decode cX1_push 60 = .ok (.getfield 25, 3) := by decide +kernel
theorem dX1_push_63 : decode cX1_push 63 = .ok (.iconst 1, 1) := by decide +kernel
theorem dX1_push_64 : decode cX1_push 64 = .ok (.iadd, 1) := by decide +kernel
theorem dX1_push_65 : decode cX1_push 65 = .ok (.putfield 25, 3) := by decide +kernel
theorem dX1_push_68 : decode cX1_push 68 = .ok (.return_, 1) := by decide +kernel
theorem dX1_pop_0 : decode cX1_pop 0 = .ok (.aload_n 0, 1) := by decide +kernel
theorem dX1_pop_1 : decode cX1_pop 1 = .ok (.dup, 1) := by decide +kernel
theorem dX1_pop_2 : decode cX1_pop 2 = .ok (.getfield 25, 3) := by decide +kernel
theorem dX1_pop_5 : decode cX1_pop 5 = .ok (.iconst 1, 1) := by decide +kernel
theorem dX1_pop_6 : decode cX1_pop 6 = .ok (.isub, 1) := by decide +kernel
theorem dX1_pop_7 : decode cX1_pop 7 = .ok (.putfield 25, 3) := by decide +kernel
theorem dX1_pop_10 : decode cX1_pop 10 = .ok (.aload_n 0, 1) := by decide +kernel
theorem dX1_pop_11 : decode cX1_pop 11 = .ok (.getfield 15, 3) := by decide +kernel
theorem dX1_pop_14 : decode cX1_pop 14 = .ok (.aload_n 0, 1) := by decide +kernel
theorem dX1_pop_15 : decode cX1_pop 15 = .ok (.getfield 25, 3) := by decide +kernel
theorem dX1_pop_18 : decode cX1_pop 18 = .ok (.iaload, 1) := by decide +kernel
theorem dX1_pop_19 : decode cX1_pop 19 = .ok (.istore_n 1, 1) := by decide +kernel
theorem dX1_pop_20 : decode cX1_pop 20 = .ok (.aload_n 0, 1) := by decide +kernel
theorem dX1_pop_21 : decode cX1_pop 21 = .ok (.getfield 25, 3) := by decide +kernel
theorem dX1_pop_24 : decode cX1_pop 24 = .ok (.ifCond .le 18, 3) := by decide +kernel
theorem dX1_pop_27 : decode cX1_pop 27 = .ok (.aload_n 0, 1) := by decide +kernel
theorem dX1_pop_28 : decode cX1_pop 28 = .ok (.getfield 15, 3) := by decide +kernel
theorem dX1_pop_31 : decode cX1_pop 31 = .ok (.aload_n 0, 1) := by decide +kernel
theorem dX1_pop_32 : decode cX1_pop 32 = .ok (.getfield 25, 3) := by decide +kernel
theorem dX1_pop_35 : decode cX1_pop 35 = .ok (.iconst 1, 1) := by decide +kernel
theorem dX1_pop_36 : decode cX1_pop 36 = .ok (.isub, 1) := by decide +kernel
theorem dX1_pop_37 : decode cX1_pop 37 = .ok (.dup2, 1) := by decide +kernel
theorem dX1_pop_38 : decode cX1_pop 38 = .ok (.iaload, 1) := by decide +kernel
theorem dX1_pop_39 : decode cX1_pop 39 = .ok (.iload_n 1, 1) := by decide +kernel
theorem dX1_pop_40 : decode cX1_pop 40 = .ok (.iadd, 1) := by decide +kernel
theorem dX1_pop_41 : decode cX1_pop 41 = .ok (.iastore, 1) := by decide +kernel
theorem dX1_pop_42 : decode cX1_pop 42 = .ok (.iload_n 1, 1) := by decide +kernel
theorem dX1_pop_43 : decode cX1_pop 43 = .ok (.ireturn, 1) := by decide +kernel
theorem dX1_fail_0 : decode cX1_fail 0 = .ok (.iconst 0, 1) := by decide +kernel
theorem dX1_fail_1 : decode cX1_fail 1 = .ok (.istore_n 2, 1) := by decide +kernel
theorem dX1_fail_2 : decode cX1_fail 2 = .ok (.iconst 1, 1) := by decide +kernel
theorem dX1_fail_3 : decode cX1_fail 3 = .ok (.istore_n 3, 1) := by decide +kernel
theorem dX1_fail_4 : decode cX1_fail 4 = .ok (.aload_n 0, 1) := by decide +kernel
theorem dX1_fail_5 : decode cX1_fail 5 = .ok (.getfield 25, 3) := by decide +kernel
theorem dX1_fail_8 : decode cX1_fail 8 = .ok (.iconst 1, 1) := by decide +kernel
theorem dX1_fail_9 : decode cX1_fail 9 = .ok (.isub, 1) := by decide +kernel
theorem dX1_fail_10 : decode cX1_fail 10 = .ok (.istore 4, 2) := by decide +kernel
theorem dX1_fail_12 : decode cX1_fail 12 = .ok (.iload 4, 2) := by decide +kernel
theorem dX1_fail_14 : decode cX1_fail 14 = .ok (.ifCond .lt 48, 3) := by decide +kernel
theorem dX1_fail_17 : decode cX1_fail 17 = .ok (.iload_n 3, 1) := by decide +kernel
theorem dX1_fail_18 : decode cX1_fail 18 = .ok (.ifCond .eq 44, 3) := by decide +kernel
theorem dX1_fail_21 : decode cX1_fail 21 = .ok (.aload_n 1, 1) := by decide +kernel
theorem dX1_fail_22 : decode cX1_fail 22 = .ok (.aload_n 0, 1) := by decide +kernel
theorem dX1_fail_23 : decode cX1_fail 23 = .ok (.getfield 18, 3) := by decide +kernel
theorem dX1_fail_26 : decode cX1_fail 26 = .ok (.iload 4, 2) := by decide +kernel
theorem dX1_fail_28 : decode cX1_fail 28 = .ok (.iaload, 1) := by decide +kernel
theorem dX1_fail_29 : decode cX1_fail 29 = .ok (.putfield 39, 3) := by decide +kernel
theorem dX1_fail_32 : decode cX1_fail 32 = .ok (.aload_n 0, 1) := by decide +kernel
theorem dX1_fail_33 : decode cX1_fail 33 = .ok (.getfield 21, 3) := by decide +kernel
theorem dX1_fail_36 : decode cX1_fail 36 = .ok (.iload 4, 2) := by decide +kernel
theorem dX1_fail_38 : decode cX1_fail 38 = .ok (.baload, 1) := by decide +kernel
theorem dX1_fail_39 : decode cX1_fail 39 = .ok (.ifCond .ne 7, 3) := by decide +kernel
theorem dX1_fail_42 : decode cX1_fail 42 = .ok (.iconst 1, 1) := by decide +kernel
theorem dX1_fail_43 : decode cX1_fail 43 = .ok (.goto 4, 3) := by decide +kernel
theorem dX1_fail_46 : decode cX1_fail 46 = .ok (.iconst 0, 1) := by decide +kernel
theorem dX1_fail_47 : decode cX1_fail 47 = .ok (.istore_n 3, 1) := by decide +kernel
theorem dX1_fail_48 : decode cX1_fail 48 = .ok (.aload_n 0, 1) := by decide +kernel
theorem dX1_fail_49 : decode cX1_fail 49 = .ok (.invokevirtual 44, 3) := by decide +kernel
theorem dX1_fail_52 : decode cX1_fail 52 = .ok (.pop, 1) := by decide +kernel
theorem dX1_fail_53 : decode cX1_fail 53 = .ok (.iinc 2 1, 3) := by decide +kernel
theorem dX1_fail_56 : decode cX1_fail 56 = .ok (.iinc 4 (-1), 3) := by decide +kernel
theorem dX1_fail_59 : decode cX1_fail 59 = .ok (.goto (-47), 3) := by decide +kernel
theorem dX1_fail_62 : decode cX1_fail 62 = .ok (.iload_n 2, 1) := by decide +kernel
theorem dX1_fail_63 : decode cX1_fail 63 = .ok (.ireturn, 1) := by decide +kernel
theorem dX2_init_0 : decode cX2_init 0 = .ok (.aload_n 0, 1) := by decide +kernel
theorem dX2_init_1 : decode cX2_init 1 = .ok (.invokespecial 3, 3) := by decide +kernel
theorem dX2_init_4 : decode cX2_init 4 = .ok (.aload_n 0, 1) := by decide +kernel
theorem dX2_init_5 : decode cX2_init 5 = .ok (.iconst 5, 1) := by decide +kernel
theorem dX2_init_6 : decode cX2_init 6 = .ok (.newarray .long, 2) := by decide +kernel
theorem dX2_init_8 : decode cX2_init 8 = .ok (.putfield 9, 3) := by decide +kernel
theorem dX2_init_11 : decode cX2_init 11 = .ok (.return_, 1) := by decide +kernel
theorem dX2_add_0 : decode cX2_add 0 = .ok (.aload_n 0, 1) := by decide +kernel
theorem dX2_add_1 : decode cX2_add 1 = .ok (.getfield 15, 3) := by decide +kernel
theorem dX2_add_4 : decode cX2_add 4 = .ok (.iconst 5, 1) := by decide +kernel
theorem dX2_add_5 : decode cX2_add 5 = .ok (.if_icmp .lt 5, 3) := by decide +kernel
theorem dX2_add_8 : decode cX2_add 8 = .ok (.iconst 0, 1) := by decide +kernel
theorem dX2_add_9 : decode cX2_add 9 = .ok (.ireturn, 1) := by decide +kernel
theorem dX2_add_10 : decode cX2_add 10 = .ok (.aload_n 0, 1) := by decide +kernel
theorem dX2_add_11 : decode cX2_add 11 = .ok (.getfield 9, 3) := by decide +kernel
theorem dX2_add_14 : decode cX2_add 14 = .ok (.aload_n 0, 1) := by decide +kernel
theorem dX2_add_15 : decode cX2_add 15 = .ok (.getfield 15, 3) := by decide +kernel
theorem dX2_add_18 : decode cX2_add 18 = .ok (.lload_n 1, 1) := by decide +kernel
theorem dX2_add_19 : decode cX2_add 19 = .ok (.lastore, 1) := by decide +kernel
theorem dX2_add_20 : decode cX2_add 20 = .ok (.aload_n 0, 1) := by decide +kernel
theorem dX2_add_21 : decode cX2_add 21 = .ok (.dup, 1) := by decide +kernel
theorem dX2_add_22 : decode cX2_add 22 = .ok (.getfield 15, 3) := by decide +kernel
theorem dX2_add_25 : decode cX2_add 25 = .ok (.iconst 1, 1) := by decide +kernel
theorem dX2_add_26 : decode cX2_add 26 = .ok (.iadd, 1) := by decide +kernel
theorem dX2_add_27 : decode cX2_add 27 = .ok (.putfield 15, 3) := by decide +kernel
theorem dX2_add_30 : decode cX2_add 30 = .ok (.iconst 1, 1) := by decide +kernel
theorem dX2_add_31 : decode cX2_add 31 = .ok (.ireturn, 1) := by decide +kernel
theorem dX2_leadsTo_0 : decode cX2_leadsTo 0 = .ok (.lload_n 3, 1) := by decide +kernel
theorem dX2_leadsTo_1 : decode cX2_leadsTo 1 = .ok (.lstore 7, 2) := by decide +kernel
theorem dX2_leadsTo_3 : decode cX2_leadsTo 3 = .ok (.iload 5, 2) := by decide +kernel
theorem dX2_leadsTo_5 : decode cX2_leadsTo 5 = .ok (.istore 9, 2) := by decide +kernel
theorem dX2_leadsTo_7 : decode cX2_leadsTo 7 = .ok (.iload 6, 2) := by decide +kernel
theorem dX2_leadsTo_9 : decode cX2_leadsTo 9 = .ok (.istore 10, 2) := by decide +kernel
theorem dX2_leadsTo_11 : decode cX2_leadsTo 11 = .ok (.iconst 0, 1) := by decide +kernel
theorem dX2_leadsTo_12 : decode cX2_leadsTo 12 = .ok (.istore 11, 2) := by decide +kernel
theorem dX2_leadsTo_14 : decode cX2_leadsTo 14 = .ok (.iconst 0, 1) := by decide +kernel
theorem dX2_leadsTo_15 : decode cX2_leadsTo 15 = .ok (.istore 12, 2) := by decide +kernel
theorem dX2_leadsTo_17 : decode cX2_leadsTo 17 = .ok (.iload 12, 2) := by decide +kernel
theorem dX2_leadsTo_19 : decode cX2_leadsTo 19 = .ok (.iconst 5, 1) := by decide +kernel
theorem dX2_leadsTo_20 : decode cX2_leadsTo 20 = .ok (.if_icmp .ge 84, 3) := by decide +kernel
theorem dX2_leadsTo_23 : decode cX2_leadsTo 23 = .ok (.iload 9, 2) := by decide +kernel
theorem dX2_leadsTo_25 : decode cX2_leadsTo 25 = .ok (.iconst 1, 1) := by decide +kernel
theorem dX2_leadsTo_26 : decode cX2_leadsTo 26 = .ok (.ixor, 1) := by decide +kernel
theorem dX2_leadsTo_27 : decode cX2_leadsTo 27 = .ok (.iload 10, 2) := by decide +kernel
theorem dX2_leadsTo_29 : decode cX2_leadsTo 29 = .ok (.if_icmp .ge 52, 3) := by decide +kernel
theorem dX2_leadsTo_32 : decode cX2_leadsTo 32 = .ok (.iload 11, 2) := by decide +kernel
theorem dX2_leadsTo_34 : decode cX2_leadsTo 34 = .ok (.aload_n 0, 1) := by decide +kernel
theorem dX2_leadsTo_35 : decode cX2_leadsTo 35 = .ok (.getfield 15, 3) := by decide +kernel
theorem dX2_leadsTo_38 : decode cX2_leadsTo 38 = .ok (.if_icmp .lt 5, 3) := by decide +kernel
theorem dX2_leadsTo_41 : decode cX2_leadsTo 41 = .ok (.iconst 0, 1) := by decide +kernel
theorem dX2_leadsTo_42 : decode cX2_leadsTo 42 = .ok (.ireturn, 1) := by decide +kernel
theorem dX2_leadsTo_43 : decode cX2_leadsTo 43 = .ok (.aload_n 0, 1) := by decide +kernel
theorem dX2_leadsTo_44 : decode cX2_leadsTo 44 = .ok (.getfield 9, 3) := by decide +kernel
theorem dX2_leadsTo_47 : decode cX2_leadsTo 47 = .ok (.iload 11, 2) := by decide +kernel
theorem dX2_leadsTo_49 : decode cX2_leadsTo 49 = .ok (.laload, 1) := by decide +kernel
theorem dX2_leadsTo_50 : decode cX2_leadsTo 50 = .ok (.lstore 13, 2) := by decide +kernel
theorem dX2_leadsTo_52 : decode cX2_leadsTo 52 = .ok (.iload 9, 2) := by decide +kernel
theorem dX2_leadsTo_54 : decode cX2_leadsTo 54 = .ok (.iconst 2, 1) := by decide +kernel
theorem dX2_leadsTo_55 : decode cX2_leadsTo 55 = .ok (.irem, 1) := by decide +kernel
theorem dX2_leadsTo_56 : decode cX2_leadsTo 56 = .ok (.ifCond .ne 13, 3) := by decide +kernel
theorem dX2_leadsTo_59 : decode cX2_leadsTo 59 = .ok (.lload 7, 2) := by decide +kernel
theorem dX2_leadsTo_61 : decode cX2_leadsTo 61 = .ok (.lload 13, 2) := by decide +kernel
theorem dX2_leadsTo_63 : decode cX2_leadsTo 63 = .ok (.invokestatic 19, 3) := by decide +kernel
theorem dX2_leadsTo_66 : decode cX2_leadsTo 66 = .ok (.goto 10, 3) := by decide +kernel
theorem dX2_leadsTo_69 : decode cX2_leadsTo 69 = .ok (.lload 13, 2) := by decide +kernel
theorem dX2_leadsTo_71 : decode cX2_leadsTo 71 = .ok (.lload 7, 2) := by decide +kernel
theorem dX2_leadsTo_73 : decode cX2_leadsTo 73 = .ok (.invokestatic 19, 3) := by decide +kernel
theorem dX2_leadsTo_76 : decode cX2_leadsTo 76 = .ok (.lstore 7, 2) := by decide +kernel
theorem dX2_leadsTo_78 : decode cX2_leadsTo 78 = .ok (.iinc 11 1, 3) := by decide +kernel
theorem dX2_leadsTo_81 : decode cX2_leadsTo 81 = .ok (.iload 9, 2) := by decide +kernel
theorem dX2_leadsTo_83 : decode cX2_leadsTo 83 = .ok (.iconst 2, 1) := by decide +kernel
theorem dX2_leadsTo_84 : decode cX2_leadsTo 84 = .ok (.idiv, 1) := by decide +kernel
theorem dX2_leadsTo_85 : decode cX2_leadsTo 85 = .ok (.istore 9, 2) := by decide +kernel
theorem dX2_leadsTo_87 : decode cX2_leadsTo 87 = .ok (.iload 10, 2) := by decide +kernel
theorem dX2_leadsTo_89 : decode cX2_leadsTo 89 = .ok (.iconst 2, 1) := by decide +kernel
theorem dX2_leadsTo_90 : decode cX2_leadsTo 90 = .ok (.idiv, 1) := by decide +kernel
theorem dX2_leadsTo_91 : decode cX2_leadsTo 91 = .ok (.iload 10, 2) := by decide +kernel
theorem dX2_leadsTo_93 : decode cX2_leadsTo 93 = .ok (.iconst 2, 1) := by decide +kernel
theorem dX2_leadsTo_94 : decode cX2_leadsTo 94 = .ok (.irem, 1) := by decide +kernel
theorem dX2_leadsTo_95 : decode cX2_leadsTo 95 = .ok (.iadd, 1) := by decide +kernel
theorem dX2_leadsTo_96 : decode cX2_leadsTo 96 = .ok (.istore 10, 2) := by decide +kernel
theorem dX2_leadsTo_98 : decode cX2_leadsTo 98 = .ok (.iinc 12 1, 3) := by decide +kernel
theorem dX2_leadsTo_101 : decode cX2_leadsTo 101 = .ok (.goto (-84), 3) := by decide +kernel
theorem dX2_leadsTo_104 : decode cX2_leadsTo 104 = .ok (.iload 11, 2) := by decide +kernel
theorem dX2_leadsTo_106 : decode cX2_leadsTo 106 = .ok (.aload_n 0, 1) := by decide +kernel
theorem dX2_leadsTo_107 : decode cX2_leadsTo 107 = .ok (.getfield 15, 3) := by decide +kernel
theorem dX2_leadsTo_110 : decode cX2_leadsTo 110 = .ok (.if_icmp .ne 14, 3) := by decide +kernel
theorem dX2_leadsTo_113 : decode cX2_leadsTo 113 = .ok (.lload 7, 2) := by decide +kernel
theorem dX2_leadsTo_115 : decode cX2_leadsTo 115 = .ok (.lload_n 1, 1) := by decide +kernel
theorem dX2_leadsTo_116 : decode cX2_leadsTo 116 = .ok (.lcmp, 1) := by decide +kernel
theorem dX2_leadsTo_117 : decode cX2_leadsTo 117 = .ok (.ifCond .ne 7, 3) := by decide +kernel
theorem dX2_leadsTo_120 : decode cX2_leadsTo 120 = .ok (.iconst 1, 1) := by decide +kernel
theorem dX2_leadsTo_121 : decode cX2_leadsTo 121 = .ok (.goto 4, 3) := by decide +kernel
theorem dX2_leadsTo_124 : decode cX2_leadsTo 124 = .ok (.iconst 0, 1) := by decide +kernel
theorem dX2_leadsTo_125 : decode cX2_leadsTo 125 = .ok (.ireturn, 1) := by decide +kernel
theorem dX3_init_0 : decode cX3_init 0 = .ok (.aload_n 0, 1) := by decide +kernel
theorem dX3_init_1 : decode cX3_init 1 = .ok (.invokespecial 1, 3) := by decide +kernel
theorem dX3_init_4 : decode cX3_init 4 = .ok (.aload_n 0, 1) := by decide +kernel
theorem dX3_init_5 : decode cX3_init 5 = .ok (.iload_n 1, 1) := by decide +kernel
theorem dX3_init_6 : decode cX3_init 6 = .ok (.putfield 7, 3) := by decide +kernel
theorem dX3_init_9 : decode cX3_init 9 = .ok (.aload_n 0, 1) := by decide +kernel
theorem dX3_init_10 : decode cX3_init 10 = .ok (.iload_n 2, 1) := by decide +kernel
theorem dX3_init_11 : decode cX3_init 11 = .ok (.putfield 13, 3) := by decide +kernel
theorem dX3_init_14 : decode cX3_init 14 = .ok (.return_, 1) := by decide +kernel
theorem dX3_moveTo_0 : decode cX3_moveTo 0 = .ok (.aload_n 0, 1) := by decide +kernel
theorem dX3_moveTo_1 : decode cX3_moveTo 1 = .ok (.iload_n 1, 1) := by decide +kernel
theorem dX3_moveTo_2 : decode cX3_moveTo 2 = .ok (.putfield 13, 3) := by decide +kernel
theorem dX3_moveTo_5 : decode cX3_moveTo 5 = .ok (.aload_n 0, 1) := by decide +kernel
theorem dX3_moveTo_6 : decode cX3_moveTo 6 = .ok (.iload_n 2, 1) := by decide +kernel
theorem dX3_moveTo_7 : decode cX3_moveTo 7 = .ok (.putfield 16, 3) := by decide +kernel
theorem dX3_moveTo_10 : decode cX3_moveTo 10 = .ok (.return_, 1) := by decide +kernel
theorem dX4_init_0 : decode cX4_init 0 = .ok (.aload_n 0, 1) := by decide +kernel
theorem dX4_init_1 : decode cX4_init 1 = .ok (.invokespecial 3, 3) := by decide +kernel
theorem dX4_init_4 : decode cX4_init 4 = .ok (.aload_n 0, 1) := by decide +kernel
theorem dX4_init_5 : decode cX4_init 5 = .ok (.bipush 32, 2) := by decide +kernel
theorem dX4_init_7 : decode cX4_init 7 = .ok (.newarray .long, 2) := by decide +kernel
theorem dX4_init_9 : decode cX4_init 9 = .ok (.putfield 9, 3) := by decide +kernel
theorem dX4_init_12 : decode cX4_init 12 = .ok (.return_, 1) := by decide +kernel
theorem dX4_plant_0 : decode cX4_plant 0 = .ok (.aload_n 0, 1) := by decide +kernel
theorem dX4_plant_1 : decode cX4_plant 1 = .ok (.aload_n 1, 1) := by decide +kernel
theorem dX4_plant_2 : decode cX4_plant 2 = .ok (.getfield 15, 3) := by decide +kernel
theorem dX4_plant_5 : decode cX4_plant 5 = .ok (.putfield 21, 3) := by decide +kernel
theorem dX4_plant_8 : decode cX4_plant 8 = .ok (.iconst 0, 1) := by decide +kernel
theorem dX4_plant_9 : decode cX4_plant 9 = .ok (.istore_n 2, 1) := by decide +kernel
theorem dX4_plant_10 : decode cX4_plant 10 = .ok (.iload_n 2, 1) := by decide +kernel
theorem dX4_plant_11 : decode cX4_plant 11 = .ok (.aload_n 0, 1) := by decide +kernel
theorem dX4_plant_12 : decode cX4_plant 12 = .ok (.getfield 21, 3) := by decide +kernel
theorem dX4_plant_15 : decode cX4_plant 15 = .ok (.if_icmp .ge 20, 3) := by decide +kernel
theorem dX4_plant_18 : decode cX4_plant 18 = .ok (.aload_n 0, 1) := by decide +kernel
theorem dX4_plant_19 : decode cX4_plant 19 = .ok (.getfield 9, 3) := by decide +kernel
theorem dX4_plant_22 : decode cX4_plant 22 = .ok (.iload_n 2, 1) := by decide +kernel
theorem dX4_plant_23 : decode cX4_plant 23 = .ok (.aload_n 1, 1) := by decide +kernel
theorem dX4_plant_24 : decode cX4_plant 24 = .ok (.iload_n 2, 1) := by decide +kernel
theorem dX4_plant_25 : decode cX4_plant 25 = .ok (.invokevirtual 24, 3) := by decide +kernel
theorem dX4_plant_28 : decode cX4_plant 28 = .ok (.lastore, 1) := by decide +kernel
theorem dX4_plant_29 : decode cX4_plant 29 = .ok (.iinc 2 1, 3) := by decide +kernel
theorem dX4_plant_32 : decode cX4_plant 32 = .ok (.goto (-22), 3) := by decide +kernel
theorem dX4_plant_35 : decode cX4_plant 35 = .ok (.return_, 1) := by decide +kernel
theorem dX4_rise_0 : decode cX4_rise 0 = .ok (.aload_n 0, 1) := by decide +kernel
theorem dX4_rise_1 : decode cX4_rise 1 = .ok (.getfield 21, 3) := by decide +kernel
theorem dX4_rise_4 : decode cX4_rise 4 = .ok (.iconst 2, 1) := by decide +kernel
theorem dX4_rise_5 : decode cX4_rise 5 = .ok (.idiv, 1) := by decide +kernel
theorem dX4_rise_6 : decode cX4_rise 6 = .ok (.istore_n 1, 1) := by decide +kernel
theorem dX4_rise_7 : decode cX4_rise 7 = .ok (.iconst 0, 1) := by decide +kernel
theorem dX4_rise_8 : decode cX4_rise 8 = .ok (.istore_n 2, 1) := by decide +kernel
theorem dX4_rise_9 : decode cX4_rise 9 = .ok (.iload_n 2, 1) := by decide +kernel
theorem dX4_rise_10 : decode cX4_rise 10 = .ok (.iload_n 1, 1) := by decide +kernel
theorem dX4_rise_11 : decode cX4_rise 11 = .ok (.if_icmp .ge 36, 3) := by decide +kernel
theorem dX4_rise_14 : decode cX4_rise 14 = .ok (.aload_n 0, 1) := by decide +kernel
theorem dX4_rise_15 : decode cX4_rise 15 = .ok (.getfield 9, 3) := by decide +kernel
theorem dX4_rise_18 : decode cX4_rise 18 = .ok (.iload_n 2, 1) := by decide +kernel
theorem dX4_rise_19 : decode cX4_rise 19 = .ok (.aload_n 0, 1) := by decide +kernel
theorem dX4_rise_20 : decode cX4_rise 20 = .ok (.getfield 9, 3) := by decide +kernel
theorem dX4_rise_23 : decode cX4_rise 23 = .ok (.iconst 2, 1) := by decide +kernel
theorem dX4_rise_24 : decode cX4_rise 24 = .ok (.iload_n 2, 1) := by decide +kernel
theorem dX4_rise_25 : decode cX4_rise 25 = .ok (.imul, 1) := by decide +kernel
theorem dX4_rise_26 : decode cX4_rise 26 = .ok (.laload, 1) := by decide +kernel
theorem dX4_rise_27 : decode cX4_rise 27 = .ok (.aload_n 0, 1) := by decide +kernel
theorem dX4_rise_28 : decode cX4_rise 28 = .ok (.getfield 9, 3) := by decide +kernel
theorem dX4_rise_31 : decode cX4_rise 31 = .ok (.iconst 2, 1) := by decide +kernel
theorem dX4_rise_32 : decode cX4_rise 32 = .ok (.iload_n 2, 1) := by decide +kernel
theorem dX4_rise_33 : decode cX4_rise 33 = .ok (.imul, 1) := by decide +kernel
theorem dX4_rise_34 : decode cX4_rise 34 = .ok (.iconst 1, 1) := by decide +kernel
theorem dX4_rise_35 : decode cX4_rise 35 = .ok (.iadd, 1) := by decide +kernel
theorem dX4_rise_36 : decode cX4_rise 36 = .ok (.laload, 1) := by decide +kernel
theorem dX4_rise_37 : decode cX4_rise 37 = .ok (.invokestatic 28, 3) := by decide +kernel
theorem dX4_rise_40 : decode cX4_rise 40 = .ok (.lastore, 1) := by decide +kernel
theorem dX4_rise_41 : decode cX4_rise 41 = .ok (.iinc 2 1, 3) := by decide +kernel
theorem dX4_rise_44 : decode cX4_rise 44 = .ok (.goto (-35), 3) := by decide +kernel
theorem dX4_rise_47 : decode cX4_rise 47 = .ok (.aload_n 0, 1) := by decide +kernel
theorem dX4_rise_48 : decode cX4_rise 48 = .ok (.getfield 21, 3) := by decide +kernel
theorem dX4_rise_51 : decode cX4_rise 51 = .ok (.iconst 2, 1) := by decide +kernel
theorem dX4_rise_52 : decode cX4_rise 52 = .ok (.irem, 1) := by decide +kernel
theorem dX4_rise_53 : decode cX4_rise 53 = .ok (.iconst 1, 1) := by decide +kernel
theorem dX4_rise_54 : decode cX4_rise 54 = .ok (.if_icmp .ne 20, 3) := by decide +kernel
theorem dX4_rise_57 : decode cX4_rise 57 = .ok (.aload_n 0, 1) := by decide +kernel
theorem dX4_rise_58 : decode cX4_rise 58 = .ok (.getfield 9, 3) := by decide +kernel
theorem dX4_rise_61 : decode cX4_rise 61 = .ok (.iload_n 1, 1) := by decide +kernel
theorem dX4_rise_62 : decode cX4_rise 62 = .ok (.aload_n 0, 1) := by decide +kernel
theorem dX4_rise_63 : decode cX4_rise 63 = .ok (.getfield 9, 3) := by decide +kernel
theorem dX4_rise_66 : decode cX4_rise 66 = .ok (.aload_n 0, 1) := by decide +kernel
theorem dX4_rise_67 : decode cX4_rise 67 = .ok (.getfield 21, 3) := by decide +kernel
theorem dX4_rise_70 : decode cX4_rise 70 = .ok (.iconst 1, 1) := by decide +kernel
theorem dX4_rise_71 : decode cX4_rise 71 = .ok (.isub, 1) := by decide +kernel
theorem dX4_rise_72 : decode cX4_rise 72 = .ok (.laload, 1) := by decide +kernel
theorem dX4_rise_73 : decode cX4_rise 73 = .ok (.lastore, 1) := by decide +kernel
theorem dX4_rise_74 : decode cX4_rise 74 = .ok (.aload_n 0, 1) := by decide +kernel
theorem dX4_rise_75 : decode cX4_rise 75 = .ok (.iload_n 1, 1) := by decide +kernel
theorem dX4_rise_76 : decode cX4_rise 76 = .ok (.aload_n 0, 1) := by decide +kernel
theorem dX4_rise_77 : decode cX4_rise 77 = .ok (.getfield 21, 3) := by decide +kernel
theorem dX4_rise_80 : decode cX4_rise 80 = .ok (.iconst 2, 1) := by decide +kernel
theorem dX4_rise_81 : decode cX4_rise 81 = .ok (.irem, 1) := by decide +kernel
theorem dX4_rise_82 : decode cX4_rise 82 = .ok (.iadd, 1) := by decide +kernel
theorem dX4_rise_83 : decode cX4_rise 83 = .ok (.putfield 21, 3) := by decide +kernel
theorem dX4_rise_86 : decode cX4_rise 86 = .ok (.return_, 1) := by decide +kernel
theorem dX4_topOf_0 : decode cX4_topOf 0 = .ok (.aload_n 0, 1) := by decide +kernel
theorem dX4_topOf_1 : decode cX4_topOf 1 = .ok (.aload_n 1, 1) := by decide +kernel
theorem dX4_topOf_2 : decode cX4_topOf 2 = .ok (.invokevirtual 32, 3) := by decide +kernel
theorem dX4_topOf_5 : decode cX4_topOf 5 = .ok (.iconst 0, 1) := by decide +kernel
theorem dX4_topOf_6 : decode cX4_topOf 6 = .ok (.istore_n 2, 1) := by decide +kernel
theorem dX4_topOf_7 : decode cX4_topOf 7 = .ok (.iload_n 2, 1) := by decide +kernel
theorem dX4_topOf_8 : decode cX4_topOf 8 = .ok (.iconst 5, 1) := by decide +kernel
theorem dX4_topOf_9 : decode cX4_topOf 9 = .ok (.if_icmp .ge 13, 3) := by decide +kernel
theorem dX4_topOf_12 : decode cX4_topOf 12 = .ok (.aload_n 0, 1) := by decide +kernel
theorem dX4_topOf_13 : decode cX4_topOf 13 = .ok (.invokevirtual 36, 3) := by decide +kernel
theorem dX4_topOf_16 : decode cX4_topOf 16 = .ok (.iinc 2 1, 3) := by decide +kernel
theorem dX4_topOf_19 : decode cX4_topOf 19 = .ok (.goto (-12), 3) := by decide +kernel
theorem dX4_topOf_22 : decode cX4_topOf 22 = .ok (.aload_n 0, 1) := by decide +kernel
theorem dX4_topOf_23 : decode cX4_topOf 23 = .ok (.getfield 21, 3) := by decide +kernel
theorem dX4_topOf_26 : decode cX4_topOf 26 = .ok (.ifCond .ne 7, 3) := by decide +kernel
theorem dX4_topOf_29 : decode cX4_topOf 29 = .ok (.lconst 0, 1) := by decide +kernel
theorem dX4_topOf_30 : decode cX4_topOf 30 = .ok (.goto 9, 3) := by decide +kernel
theorem dX4_topOf_33 : decode cX4_topOf 33 = .ok (.aload_n 0, 1) := by decide +kernel
theorem dX4_topOf_34 : decode cX4_topOf 34 = .ok (.getfield 9, 3) := by decide +kernel
theorem dX4_topOf_37 : decode cX4_topOf 37 = .ok (.iconst 0, 1) := by decide +kernel
theorem dX4_topOf_38 : decode cX4_topOf 38 = .ok (.laload, 1) := by decide +kernel
theorem dX4_topOf_39 : decode cX4_topOf 39 = .ok (.lreturn, 1) := by decide +kernel
theorem dX4_pathOf_0 : decode cX4_pathOf 0 = .ok (.aload_n 3, 1) := by decide +kernel
theorem dX4_pathOf_1 : decode cX4_pathOf 1 = .ok (.iconst 0, 1) := by decide +kernel
theorem dX4_pathOf_2 : decode cX4_pathOf 2 = .ok (.putfield 39, 3) := by decide +kernel
theorem dX4_pathOf_5 : decode cX4_pathOf 5 = .ok (.aload_n 0, 1) := by decide +kernel
theorem dX4_pathOf_6 : decode cX4_pathOf 6 = .ok (.aload_n 1, 1) := by decide +kernel
theorem dX4_pathOf_7 : decode cX4_pathOf 7 = .ok (.invokevirtual 32, 3) := by decide +kernel
theorem dX4_pathOf_10 : decode cX4_pathOf 10 = .ok (.iload_n 2, 1) := by decide +kernel
theorem dX4_pathOf_11 : decode cX4_pathOf 11 = .ok (.istore 4, 2) := by decide +kernel
theorem dX4_pathOf_13 : decode cX4_pathOf 13 = .ok (.iconst 0, 1) := by decide +kernel
theorem dX4_pathOf_14 : decode cX4_pathOf 14 = .ok (.istore 5, 2) := by decide +kernel
theorem dX4_pathOf_16 : decode cX4_pathOf 16 = .ok (.iload 5, 2) := by decide +kernel
theorem dX4_pathOf_18 : decode cX4_pathOf 18 = .ok (.iconst 5, 1) := by decide +kernel
theorem dX4_pathOf_19 : decode cX4_pathOf 19 = .ok (.if_icmp .ge 46, 3) := by decide +kernel
theorem dX4_pathOf_22 : decode cX4_pathOf 22 = .ok (.iload 4, 2) := by decide +kernel
theorem dX4_pathOf_24 : decode cX4_pathOf 24 = .ok (.iconst 1, 1) := by decide +kernel
theorem dX4_pathOf_25 : decode cX4_pathOf 25 = .ok (.ixor, 1) := by decide +kernel
theorem dX4_pathOf_26 : decode cX4_pathOf 26 = .ok (.istore 6, 2) := by decide +kernel
theorem dX4_pathOf_28 : decode cX4_pathOf 28 = .ok (.iload 6, 2) := by decide +kernel
theorem dX4_pathOf_30 : decode cX4_pathOf 30 = .ok (.aload_n 0, 1) := by decide +kernel
theorem dX4_pathOf_31 : decode cX4_pathOf 31 = .ok (.getfield 21, 3) := by decide +kernel
theorem dX4_pathOf_34 : decode cX4_pathOf 34 = .ok (.if_icmp .ge 15, 3) := by decide +kernel
theorem dX4_pathOf_37 : decode cX4_pathOf 37 = .ok (.aload_n 3, 1) := by decide +kernel
theorem dX4_pathOf_38 : decode cX4_pathOf 38 = .ok (.aload_n 0, 1) := by decide +kernel
theorem dX4_pathOf_39 : decode cX4_pathOf 39 = .ok (.getfield 9, 3) := by decide +kernel
theorem dX4_pathOf_42 : decode cX4_pathOf 42 = .ok (.iload 6, 2) := by decide +kernel
theorem dX4_pathOf_44 : decode cX4_pathOf 44 = .ok (.laload, 1) := by decide +kernel
theorem dX4_pathOf_45 : decode cX4_pathOf 45 = .ok (.invokevirtual 42, 3) := by decide +kernel
theorem dX4_pathOf_48 : decode cX4_pathOf 48 = .ok (.pop, 1) := by decide +kernel
theorem dX4_pathOf_49 : decode cX4_pathOf 49 = .ok (.aload_n 0, 1) := by decide +kernel
theorem dX4_pathOf_50 : decode cX4_pathOf 50 = .ok (.invokevirtual 36, 3) := by decide +kernel
theorem dX4_pathOf_53 : decode cX4_pathOf 53 = .ok (.iload 4, 2) := by decide +kernel
theorem dX4_pathOf_55 : decode cX4_pathOf 55 = .ok (.iconst 2, 1) := by decide +kernel
theorem dX4_pathOf_56 : decode cX4_pathOf 56 = .ok (.idiv, 1) := by decide +kernel
theorem dX4_pathOf_57 : decode cX4_pathOf 57 = .ok (.istore 4, 2) := by decide +kernel
theorem dX4_pathOf_59 : decode cX4_pathOf 59 = .ok (.iinc 5 1, 3) := by decide +kernel
theorem dX4_pathOf_62 : decode cX4_pathOf 62 = .ok (.goto (-46), 3) := by decide +kernel
theorem dX4_pathOf_65 : decode cX4_pathOf 65 = .ok (.return_, 1) := by decide +kernel
theorem dX5_init_0 : decode cX5_init 0 = .ok (.aload_n 0, 1) := by decide +kernel
theorem dX5_init_1 : decode cX5_init 1 = .ok (.invokespecial 1, 3) := by decide +kernel
theorem dX5_init_4 : decode cX5_init 4 = .ok (.aload_n 0, 1) := by decide +kernel
theorem dX5_init_5 : decode cX5_init 5 = .ok (.new 7, 3) := by decide +kernel
theorem dX5_init_8 : decode cX5_init 8 = .ok (.dup, 1) := by decide +kernel
theorem dX5_init_9 : decode cX5_init 9 = .ok (.invokespecial 9, 3) := by decide +kernel
theorem dX5_init_12 : decode cX5_init 12 = .ok (.putfield 10, 3) := by decide +kernel
theorem dX5_init_15 : decode cX5_init 15 = .ok (.aload_n 0, 1) := by decide +kernel
theorem dX5_init_16 : decode cX5_init 16 = .ok (.bipush 40, 2) := by decide +kernel
theorem dX5_init_18 : decode cX5_init 18 = .ok (.anewarray 16, 3) := by decide +kernel
theorem dX5_init_21 : decode cX5_init 21 = .ok (.putfield 18, 3) := by decide +kernel
theorem dX5_init_24 : decode cX5_init 24 = .ok (.aload_n 0, 1) := by decide +kernel
theorem dX5_init_25 : decode cX5_init 25 = .ok (.new 22, 3) := by decide +kernel
theorem dX5_init_28 : decode cX5_init 28 = .ok (.dup, 1) := by decide +kernel
theorem dX5_init_29 : decode cX5_init 29 = .ok (.invokespecial 24, 3) := by decide +kernel
theorem dX5_init_32 : decode cX5_init 32 = .ok (.putfield 25, 3) := by decide +kernel
theorem dX5_init_35 : decode cX5_init 35 = .ok (.aload_n 0, 1) := by decide +kernel
theorem dX5_init_36 : decode cX5_init 36 = .ok (.new 29, 3) := by decide +kernel
theorem dX5_init_39 : decode cX5_init 39 = .ok (.dup, 1) := by decide +kernel
theorem dX5_init_40 : decode cX5_init 40 = .ok (.invokespecial 31, 3) := by decide +kernel
theorem dX5_init_43 : decode cX5_init 43 = .ok (.putfield 32, 3) := by decide +kernel
theorem dX5_init_46 : decode cX5_init 46 = .ok (.aload_n 0, 1) := by decide +kernel
theorem dX5_init_47 : decode cX5_init 47 = .ok (.bipush 8, 2) := by decide +kernel
theorem dX5_init_49 : decode cX5_init 49 = .ok (.anewarray 36, 3) := by decide +kernel
theorem dX5_init_52 : decode cX5_init 52 = .ok (.putfield 38, 3) := by decide +kernel
theorem dX5_init_55 : decode cX5_init 55 = .ok (.aload_n 0, 1) := by decide +kernel
theorem dX5_init_56 : decode cX5_init 56 = .ok (.new 16, 3) := by decide +kernel
theorem dX5_init_59 : decode cX5_init 59 = .ok (.dup, 1) := by decide +kernel
theorem dX5_init_60 : decode cX5_init 60 = .ok (.invokespecial 42, 3) := by decide +kernel
theorem dX5_init_63 : decode cX5_init 63 = .ok (.putfield 43, 3) := by decide +kernel
theorem dX5_init_66 : decode cX5_init 66 = .ok (.return_, 1) := by decide +kernel
theorem dX5_begin_0 : decode cX5_begin 0 = .ok (.iload_n 1, 1) := by decide +kernel
theorem dX5_begin_1 : decode cX5_begin 1 = .ok (.ifCond .lt 10, 3) := by decide +kernel
theorem dX5_begin_4 : decode cX5_begin 4 = .ok (.iload_n 1, 1) := by decide +kernel
theorem dX5_begin_5 : decode cX5_begin 5 = .ok (.sipush 10000, 3) := by decide +kernel
theorem dX5_begin_8 : decode cX5_begin 8 = .ok (.if_icmp .le 5, 3) := by decide +kernel
theorem dX5_begin_11 : decode cX5_begin 11 = .ok (.iconst (-1), 1) := by decide +kernel
theorem dX5_begin_12 : decode cX5_begin 12 = .ok (.ireturn, 1) := by decide +kernel
theorem dX5_begin_13 : decode cX5_begin 13 = .ok (.aload_n 0, 1) := by decide +kernel
theorem dX5_begin_14 : decode cX5_begin 14 = .ok (.getfield 10, 3) := by decide +kernel
theorem dX5_begin_17 : decode cX5_begin 17 = .ok (.getfield 47, 3) := by decide +kernel
theorem dX5_begin_20 : decode cX5_begin 20 = .ok (.bipush 8, 2) := by decide +kernel
theorem dX5_begin_22 : decode cX5_begin 22 = .ok (.if_icmp .lt 6, 3) := by decide +kernel
theorem dX5_begin_25 : decode cX5_begin 25 = .ok (.bipush (-3), 2) := by decide +kernel
theorem dX5_begin_27 : decode cX5_begin 27 = .ok (.ireturn, 1) := by decide +kernel
theorem dX5_begin_28 : decode cX5_begin 28 = .ok (.aload_n 0, 1) := by decide +kernel
theorem dX5_begin_29 : decode cX5_begin 29 = .ok (.getfield 10, 3) := by decide +kernel
theorem dX5_begin_32 : decode cX5_begin 32 = .ok (.getfield 47, 3) := by decide +kernel
theorem dX5_begin_35 : decode cX5_begin 35 = .ok (.ifCond .le 19, 3) := by decide +kernel
theorem dX5_begin_38 : decode cX5_begin 38 = .ok (.aload_n 0, 1) := by decide +kernel
theorem dX5_begin_39 : decode cX5_begin 39 = .ok (.getfield 10, 3) := by decide +kernel
theorem dX5_begin_42 : decode cX5_begin 42 = .ok (.iconst 1, 1) := by decide +kernel
theorem dX5_begin_43 : decode cX5_begin 43 = .ok (.invokevirtual 51, 3) := by decide +kernel
theorem dX5_begin_46 : decode cX5_begin 46 = .ok (.ifCond .ne 8, 3) := by decide +kernel
theorem dX5_begin_49 : decode cX5_begin 49 = .ok (.aload_n 0, 1) := by decide +kernel
theorem dX5_begin_50 : decode cX5_begin 50 = .ok (.invokevirtual 55, 3) := by decide +kernel
theorem dX5_begin_53 : decode cX5_begin 53 = .ok (.ireturn, 1) := by decide +kernel
theorem dX5_begin_54 : decode cX5_begin 54 = .ok (.aload_n 0, 1) := by decide +kernel
theorem dX5_begin_55 : decode cX5_begin 55 = .ok (.getfield 10, 3) := by decide +kernel
theorem dX5_begin_58 : decode cX5_begin 58 = .ok (.iload_n 1, 1) := by decide +kernel
theorem dX5_begin_59 : decode cX5_begin 59 = .ok (.iload_n 2, 1) := by decide +kernel
theorem dX5_begin_60 : decode cX5_begin 60 = .ok (.aload_n 0, 1) := by decide +kernel
theorem dX5_begin_61 : decode cX5_begin 61 = .ok (.getfield 43, 3) := by decide +kernel
theorem dX5_begin_64 : decode cX5_begin 64 = .ok (.getfield 59, 3) := by decide +kernel
theorem dX5_begin_67 : decode cX5_begin 67 = .ok (.invokevirtual 62, 3) := by decide +kernel
theorem dX5_begin_70 : decode cX5_begin 70 = .ok (.aload_n 0, 1) := by decide +kernel
theorem dX5_begin_71 : decode cX5_begin 71 = .ok (.getfield 10, 3) := by decide +kernel
theorem dX5_begin_74 : decode cX5_begin 74 = .ok (.getfield 47, 3) := by decide +kernel
theorem dX5_begin_77 : decode cX5_begin 77 = .ok (.ireturn, 1) := by decide +kernel
theorem dX5_tell_0 : decode cX5_tell 0 = .ok (.iload_n 1, 1) := by decide +kernel
theorem dX5_tell_1 : decode cX5_tell 1 = .ok (.iload_n 2, 1) := by decide +kernel
theorem dX5_tell_2 : decode cX5_tell 2 = .ok (.iload_n 3, 1) := by decide +kernel
theorem dX5_tell_3 : decode cX5_tell 3 = .ok (.iload 4, 2) := by decide +kernel
theorem dX5_tell_5 : decode cX5_tell 5 = .ok (.invokestatic 66, 3) := by decide +kernel
theorem dX5_tell_8 : decode cX5_tell 8 = .ok (.ifCond .ne 5, 3) := by decide +kernel
theorem dX5_tell_11 : decode cX5_tell 11 = .ok (.iconst (-1), 1) := by decide +kernel
theorem dX5_tell_12 : decode cX5_tell 12 = .ok (.ireturn, 1) := by decide +kernel
theorem dX5_tell_13 : decode cX5_tell 13 = .ok (.aload_n 0, 1) := by decide +kernel
theorem dX5_tell_14 : decode cX5_tell 14 = .ok (.getfield 10, 3) := by decide +kernel
theorem dX5_tell_17 : decode cX5_tell 17 = .ok (.getfield 47, 3) := by decide +kernel
theorem dX5_tell_20 : decode cX5_tell 20 = .ok (.ifCond .ne 6, 3) := by decide +kernel
theorem dX5_tell_23 : decode cX5_tell 23 = .ok (.bipush (-2), 2) := by decide +kernel
theorem dX5_tell_25 : decode cX5_tell 25 = .ok (.ireturn, 1) := by decide +kernel
theorem dX5_tell_26 : decode cX5_tell 26 = .ok (.aload_n 0, 1) := by decide +kernel
theorem dX5_tell_27 : decode cX5_tell 27 = .ok (.getfield 43, 3) := by decide +kernel
theorem dX5_tell_30 : decode cX5_tell 30 = .ok (.getfield 59, 3) := by decide +kernel
theorem dX5_tell_33 : decode cX5_tell 33 = .ok (.bipush 32, 2) := by decide +kernel
theorem dX5_tell_35 : decode cX5_tell 35 = .ok (.if_icmp .lt 6, 3) := by decide +kernel
theorem dX5_tell_38 : decode cX5_tell 38 = .ok (.bipush (-3), 2) := by decide +kernel
theorem dX5_tell_40 : decode cX5_tell 40 = .ok (.ireturn, 1) := by decide +kernel
theorem dX5_tell_41 : decode cX5_tell 41 = .ok (.aload_n 0, 1) := by decide +kernel
theorem dX5_tell_42 : decode cX5_tell 42 = .ok (.getfield 10, 3) := by decide +kernel
theorem dX5_tell_45 : decode cX5_tell 45 = .ok (.iconst 5, 1) := by decide +kernel
theorem dX5_tell_46 : decode cX5_tell 46 = .ok (.iconst 2, 1) := by decide +kernel
theorem dX5_tell_47 : decode cX5_tell 47 = .ok (.iload_n 3, 1) := by decide +kernel
theorem dX5_tell_48 : decode cX5_tell 48 = .ok (.iload 4, 2) := by decide +kernel
theorem dX5_tell_50 : decode cX5_tell 50 = .ok (.invokestatic 70, 3) := by decide +kernel
theorem dX5_tell_53 : decode cX5_tell 53 = .ok (.imul, 1) := by decide +kernel
theorem dX5_tell_54 : decode cX5_tell 54 = .ok (.iadd, 1) := by decide +kernel
theorem dX5_tell_55 : decode cX5_tell 55 = .ok (.invokevirtual 51, 3) := by decide +kernel
theorem dX5_tell_58 : decode cX5_tell 58 = .ok (.ifCond .ne 8, 3) := by decide +kernel
theorem dX5_tell_61 : decode cX5_tell 61 = .ok (.aload_n 0, 1) := by decide +kernel
theorem dX5_tell_62 : decode cX5_tell 62 = .ok (.invokevirtual 55, 3) := by decide +kernel
theorem dX5_tell_65 : decode cX5_tell 65 = .ok (.ireturn, 1) := by decide +kernel
theorem dX5_tell_66 : decode cX5_tell 66 = .ok (.aload_n 0, 1) := by decide +kernel
theorem dX5_tell_67 : decode cX5_tell 67 = .ok (.getfield 43, 3) := by decide +kernel
theorem dX5_tell_70 : decode cX5_tell 70 = .ok (.iload_n 1, 1) := by decide +kernel
theorem dX5_tell_71 : decode cX5_tell 71 = .ok (.iload_n 2, 1) := by decide +kernel
theorem dX5_tell_72 : decode cX5_tell 72 = .ok (.iload_n 3, 1) := by decide +kernel
theorem dX5_tell_73 : decode cX5_tell 73 = .ok (.iload 4, 2) := by decide +kernel
theorem dX5_tell_75 : decode cX5_tell 75 = .ok (.lload 5, 2) := by decide +kernel
theorem dX5_tell_77 : decode cX5_tell 77 = .ok (.invokevirtual 74, 3) := by decide +kernel
theorem dX5_tell_80 : decode cX5_tell 80 = .ok (.aload_n 0, 1) := by decide +kernel
theorem dX5_tell_81 : decode cX5_tell 81 = .ok (.getfield 43, 3) := by decide +kernel
theorem dX5_tell_84 : decode cX5_tell 84 = .ok (.getfield 59, 3) := by decide +kernel
theorem dX5_tell_87 : decode cX5_tell 87 = .ok (.ireturn, 1) := by decide +kernel
theorem dX5_end_0 : decode cX5_end 0 = .ok (.aload_n 0, 1) := by decide +kernel
theorem dX5_end_1 : decode cX5_end 1 = .ok (.getfield 10, 3) := by decide +kernel
theorem dX5_end_4 : decode cX5_end 4 = .ok (.getfield 47, 3) := by decide +kernel
theorem dX5_end_7 : decode cX5_end 7 = .ok (.ifCond .ne 6, 3) := by decide +kernel
theorem dX5_end_10 : decode cX5_end 10 = .ok (.bipush (-2), 2) := by decide +kernel
theorem dX5_end_12 : decode cX5_end 12 = .ok (.ireturn, 1) := by decide +kernel
theorem dX5_end_13 : decode cX5_end 13 = .ok (.iload_n 1, 1) := by decide +kernel
theorem dX5_end_14 : decode cX5_end 14 = .ok (.ifCond .eq 13, 3) := by decide +kernel
theorem dX5_end_17 : decode cX5_end 17 = .ok (.aload_n 0, 1) := by decide +kernel
theorem dX5_end_18 : decode cX5_end 18 = .ok (.getfield 10, 3) := by decide +kernel
theorem dX5_end_21 : decode cX5_end 21 = .ok (.invokevirtual 78, 3) := by decide +kernel
theorem dX5_end_24 : decode cX5_end 24 = .ok (.goto 7, 3) := by decide +kernel
theorem dX5_end_27 : decode cX5_end 27 = .ok (.aload_n 0, 1) := by decide +kernel
theorem dX5_end_28 : decode cX5_end 28 = .ok (.invokevirtual 55, 3) := by decide +kernel
theorem dX5_end_31 : decode cX5_end 31 = .ok (.ireturn, 1) := by decide +kernel
theorem dX5_told_0 : decode cX5_told 0 = .ok (.iload_n 1, 1) := by decide +kernel
theorem dX5_told_1 : decode cX5_told 1 = .ok (.tableswitch 98 0 6 #[43, 51, 59, 67, 75, 88, 93], 43) := by decide +kernel
theorem dX5_told_44 : decode cX5_told 44 = .ok (.aload_n 0, 1) := by decide +kernel
theorem dX5_told_45 : decode cX5_told 45 = .ok (.getfield 10, 3) := by decide +kernel
theorem dX5_told_48 : decode cX5_told 48 = .ok (.getfield 47, 3) := by decide +kernel
theorem dX5_told_51 : decode cX5_told 51 = .ok (.ireturn, 1) := by decide +kernel
theorem dX5_told_52 : decode cX5_told 52 = .ok (.aload_n 0, 1) := by decide +kernel
theorem dX5_told_53 : decode cX5_told 53 = .ok (.getfield 10, 3) := by decide +kernel
theorem dX5_told_56 : decode cX5_told 56 = .ok (.invokevirtual 81, 3) := by decide +kernel
theorem dX5_told_59 : decode cX5_told 59 = .ok (.ireturn, 1) := by decide +kernel
theorem dX5_told_60 : decode cX5_told 60 = .ok (.aload_n 0, 1) := by decide +kernel
theorem dX5_told_61 : decode cX5_told 61 = .ok (.getfield 10, 3) := by decide +kernel
theorem dX5_told_64 : decode cX5_told 64 = .ok (.invokevirtual 84, 3) := by decide +kernel
theorem dX5_told_67 : decode cX5_told 67 = .ok (.ireturn, 1) := by decide +kernel
theorem dX5_told_68 : decode cX5_told 68 = .ok (.aload_n 0, 1) := by decide +kernel
theorem dX5_told_69 : decode cX5_told 69 = .ok (.getfield 43, 3) := by decide +kernel
theorem dX5_told_72 : decode cX5_told 72 = .ok (.getfield 59, 3) := by decide +kernel
theorem dX5_told_75 : decode cX5_told 75 = .ok (.ireturn, 1) := by decide +kernel
theorem dX5_told_76 : decode cX5_told 76 = .ok (.aload_n 0, 1) := by decide +kernel
theorem dX5_told_77 : decode cX5_told 77 = .ok (.getfield 87, 3) := by decide +kernel
theorem dX5_told_80 : decode cX5_told 80 = .ok (.aload_n 0, 1) := by decide +kernel
theorem dX5_told_81 : decode cX5_told 81 = .ok (.getfield 43, 3) := by decide +kernel
theorem dX5_told_84 : decode cX5_told 84 = .ok (.getfield 59, 3) := by decide +kernel
theorem dX5_told_87 : decode cX5_told 87 = .ok (.iadd, 1) := by decide +kernel
theorem dX5_told_88 : decode cX5_told 88 = .ok (.ireturn, 1) := by decide +kernel
theorem dX5_told_89 : decode cX5_told 89 = .ok (.aload_n 0, 1) := by decide +kernel
theorem dX5_told_90 : decode cX5_told 90 = .ok (.getfield 90, 3) := by decide +kernel
theorem dX5_told_93 : decode cX5_told 93 = .ok (.ireturn, 1) := by decide +kernel
theorem dX5_told_94 : decode cX5_told 94 = .ok (.aload_n 0, 1) := by decide +kernel
theorem dX5_told_95 : decode cX5_told 95 = .ok (.getfield 93, 3) := by decide +kernel
theorem dX5_told_98 : decode cX5_told 98 = .ok (.ireturn, 1) := by decide +kernel
theorem dX5_told_99 : decode cX5_told 99 = .ok (.iconst (-1), 1) := by decide +kernel
theorem dX5_told_100 : decode cX5_told 100 = .ok (.ireturn, 1) := by decide +kernel
theorem dX5_close_0 : decode cX5_close 0 = .ok (.aload_n 0, 1) := by decide +kernel
theorem dX5_close_1 : decode cX5_close 1 = .ok (.getfield 10, 3) := by decide +kernel
theorem dX5_close_4 : decode cX5_close 4 = .ok (.getfield 47, 3) := by decide +kernel
theorem dX5_close_7 : decode cX5_close 7 = .ok (.ifCond .le 6, 3) := by decide +kernel
theorem dX5_close_10 : decode cX5_close 10 = .ok (.bipush (-2), 2) := by decide +kernel
theorem dX5_close_12 : decode cX5_close 12 = .ok (.ireturn, 1) := by decide +kernel
theorem dX5_close_13 : decode cX5_close 13 = .ok (.aload_n 0, 1) := by decide +kernel
theorem dX5_close_14 : decode cX5_close 14 = .ok (.getfield 90, 3) := by decide +kernel
theorem dX5_close_17 : decode cX5_close 17 = .ok (.bipush 40, 2) := by decide +kernel
theorem dX5_close_19 : decode cX5_close 19 = .ok (.if_icmp .lt 6, 3) := by decide +kernel
theorem dX5_close_22 : decode cX5_close 22 = .ok (.bipush (-3), 2) := by decide +kernel
theorem dX5_close_24 : decode cX5_close 24 = .ok (.ireturn, 1) := by decide +kernel
theorem dX5_close_25 : decode cX5_close 25 = .ok (.aload_n 0, 1) := by decide +kernel
theorem dX5_close_26 : decode cX5_close 26 = .ok (.getfield 43, 3) := by decide +kernel
theorem dX5_close_29 : decode cX5_close 29 = .ok (.aload_n 0, 1) := by decide +kernel
theorem dX5_close_30 : decode cX5_close 30 = .ok (.getfield 87, 3) := by decide +kernel
theorem dX5_close_33 : decode cX5_close 33 = .ok (.aload_n 0, 1) := by decide +kernel
theorem dX5_close_34 : decode cX5_close 34 = .ok (.getfield 25, 3) := by decide +kernel
theorem dX5_close_37 : decode cX5_close 37 = .ok (.aload_n 0, 1) := by decide +kernel
theorem dX5_close_38 : decode cX5_close 38 = .ok (.getfield 43, 3) := by decide +kernel
theorem dX5_close_41 : decode cX5_close 41 = .ok (.invokevirtual 96, 3) := by decide +kernel
theorem dX5_close_44 : decode cX5_close 44 = .ok (.invokevirtual 100, 3) := by decide +kernel
theorem dX5_close_47 : decode cX5_close 47 = .ok (.aload_n 0, 1) := by decide +kernel
theorem dX5_close_48 : decode cX5_close 48 = .ok (.dup, 1) := by decide +kernel
theorem dX5_close_49 : decode cX5_close 49 = .ok (.getfield 87, 3) := by decide +kernel
theorem dX5_close_52 : decode cX5_close 52 = .ok (.aload_n 0, 1) := by decide +kernel
theorem dX5_close_53 : decode cX5_close 53 = .ok (.getfield 43, 3) := by decide +kernel
theorem dX5_close_56 : decode cX5_close 56 = .ok (.getfield 59, 3) := by decide +kernel
theorem dX5_close_59 : decode cX5_close 59 = .ok (.iadd, 1) := by decide +kernel
theorem dX5_close_60 : decode cX5_close 60 = .ok (.putfield 87, 3) := by decide +kernel
theorem dX5_close_63 : decode cX5_close 63 = .ok (.aload_n 0, 1) := by decide +kernel
theorem dX5_close_64 : decode cX5_close 64 = .ok (.getfield 18, 3) := by decide +kernel
theorem dX5_close_67 : decode cX5_close 67 = .ok (.aload_n 0, 1) := by decide +kernel
theorem dX5_close_68 : decode cX5_close 68 = .ok (.getfield 90, 3) := by decide +kernel
theorem dX5_close_71 : decode cX5_close 71 = .ok (.aaload, 1) := by decide +kernel
theorem dX5_close_72 : decode cX5_close 72 = .ok (.astore_n 1, 1) := by decide +kernel
theorem dX5_close_73 : decode cX5_close 73 = .ok (.aload_n 0, 1) := by decide +kernel
theorem dX5_close_74 : decode cX5_close 74 = .ok (.getfield 18, 3) := by decide +kernel
theorem dX5_close_77 : decode cX5_close 77 = .ok (.aload_n 0, 1) := by decide +kernel
theorem dX5_close_78 : decode cX5_close 78 = .ok (.getfield 90, 3) := by decide +kernel
theorem dX5_close_81 : decode cX5_close 81 = .ok (.aload_n 0, 1) := by decide +kernel
theorem dX5_close_82 : decode cX5_close 82 = .ok (.getfield 43, 3) := by decide +kernel
theorem dX5_close_85 : decode cX5_close 85 = .ok (.aastore, 1) := by decide +kernel
theorem dX5_close_86 : decode cX5_close 86 = .ok (.aload_n 0, 1) := by decide +kernel
theorem dX5_close_87 : decode cX5_close 87 = .ok (.aload_n 1, 1) := by decide +kernel
theorem dX5_close_88 : decode cX5_close 88 = .ok (.ifnonnull 13, 3) := by decide +kernel
theorem dX5_close_91 : decode cX5_close 91 = .ok (.new 16, 3) := by decide +kernel
theorem dX5_close_94 : decode cX5_close 94 = .ok (.dup, 1) := by decide +kernel
theorem dX5_close_95 : decode cX5_close 95 = .ok (.invokespecial 42, 3) := by decide +kernel
theorem dX5_close_98 : decode cX5_close 98 = .ok (.goto 4, 3) := by decide +kernel
theorem dX5_close_101 : decode cX5_close 101 = .ok (.aload_n 1, 1) := by decide +kernel
theorem dX5_close_102 : decode cX5_close 102 = .ok (.putfield 43, 3) := by decide +kernel
theorem dX5_close_105 : decode cX5_close 105 = .ok (.aload_n 0, 1) := by decide +kernel
theorem dX5_close_106 : decode cX5_close 106 = .ok (.getfield 43, 3) := by decide +kernel
theorem dX5_close_109 : decode cX5_close 109 = .ok (.invokevirtual 104, 3) := by decide +kernel
theorem dX5_close_112 : decode cX5_close 112 = .ok (.aload_n 0, 1) := by decide +kernel
theorem dX5_close_113 : decode cX5_close 113 = .ok (.dup, 1) := by decide +kernel
theorem dX5_close_114 : decode cX5_close 114 = .ok (.getfield 90, 3) := by decide +kernel
theorem dX5_close_117 : decode cX5_close 117 = .ok (.iconst 1, 1) := by decide +kernel
theorem dX5_close_118 : decode cX5_close 118 = .ok (.iadd, 1) := by decide +kernel
theorem dX5_close_119 : decode cX5_close 119 = .ok (.putfield 90, 3) := by decide +kernel
theorem dX5_close_122 : decode cX5_close 122 = .ok (.aload_n 0, 1) := by decide +kernel
theorem dX5_close_123 : decode cX5_close 123 = .ok (.getfield 90, 3) := by decide +kernel
theorem dX5_close_126 : decode cX5_close 126 = .ok (.iconst 1, 1) := by decide +kernel
theorem dX5_close_127 : decode cX5_close 127 = .ok (.isub, 1) := by decide +kernel
theorem dX5_close_128 : decode cX5_close 128 = .ok (.ireturn, 1) := by decide +kernel
theorem dX5_back_0 : decode cX5_back 0 = .ok (.iload_n 1, 1) := by decide +kernel
theorem dX5_back_1 : decode cX5_back 1 = .ok (.ifCond .lt 11, 3) := by decide +kernel
theorem dX5_back_4 : decode cX5_back 4 = .ok (.iload_n 1, 1) := by decide +kernel
theorem dX5_back_5 : decode cX5_back 5 = .ok (.aload_n 0, 1) := by decide +kernel
theorem dX5_back_6 : decode cX5_back 6 = .ok (.getfield 90, 3) := by decide +kernel
theorem dX5_back_9 : decode cX5_back 9 = .ok (.if_icmp .le 5, 3) := by decide +kernel
theorem dX5_back_12 : decode cX5_back 12 = .ok (.iconst (-1), 1) := by decide +kernel
theorem dX5_back_13 : decode cX5_back 13 = .ok (.ireturn, 1) := by decide +kernel
theorem dX5_back_14 : decode cX5_back 14 = .ok (.aload_n 0, 1) := by decide +kernel
theorem dX5_back_15 : decode cX5_back 15 = .ok (.getfield 10, 3) := by decide +kernel
theorem dX5_back_18 : decode cX5_back 18 = .ok (.getfield 47, 3) := by decide +kernel
theorem dX5_back_21 : decode cX5_back 21 = .ok (.ifCond .le 6, 3) := by decide +kernel
theorem dX5_back_24 : decode cX5_back 24 = .ok (.bipush (-2), 2) := by decide +kernel
theorem dX5_back_26 : decode cX5_back 26 = .ok (.ireturn, 1) := by decide +kernel
theorem dX5_back_27 : decode cX5_back 27 = .ok (.aload_n 0, 1) := by decide +kernel
theorem dX5_back_28 : decode cX5_back 28 = .ok (.getfield 90, 3) := by decide +kernel
theorem dX5_back_31 : decode cX5_back 31 = .ok (.iload_n 1, 1) := by decide +kernel
theorem dX5_back_32 : decode cX5_back 32 = .ok (.isub, 1) := by decide +kernel
theorem dX5_back_33 : decode cX5_back 33 = .ok (.istore_n 2, 1) := by decide +kernel
theorem dX5_back_34 : decode cX5_back 34 = .ok (.aload_n 0, 1) := by decide +kernel
theorem dX5_back_35 : decode cX5_back 35 = .ok (.iload_n 2, 1) := by decide +kernel
theorem dX5_back_36 : decode cX5_back 36 = .ok (.invokevirtual 107, 3) := by decide +kernel
theorem dX5_back_39 : decode cX5_back 39 = .ok (.istore_n 3, 1) := by decide +kernel
theorem dX5_back_40 : decode cX5_back 40 = .ok (.aload_n 0, 1) := by decide +kernel
theorem dX5_back_41 : decode cX5_back 41 = .ok (.iload_n 2, 1) := by decide +kernel
theorem dX5_back_42 : decode cX5_back 42 = .ok (.putfield 90, 3) := by decide +kernel
theorem dX5_back_45 : decode cX5_back 45 = .ok (.aload_n 0, 1) := by decide +kernel
theorem dX5_back_46 : decode cX5_back 46 = .ok (.invokevirtual 111, 3) := by decide +kernel
theorem dX5_back_49 : decode cX5_back 49 = .ok (.iload_n 3, 1) := by decide +kernel
theorem dX5_back_50 : decode cX5_back 50 = .ok (.ireturn, 1) := by decide +kernel
theorem dX5_prune_0 : decode cX5_prune 0 = .ok (.aload_n 0, 1) := by decide +kernel
theorem dX5_prune_1 : decode cX5_prune 1 = .ok (.iload_n 1, 1) := by decide +kernel
theorem dX5_prune_2 : decode cX5_prune 2 = .ok (.invokevirtual 114, 3) := by decide +kernel
theorem dX5_prune_5 : decode cX5_prune 5 = .ok (.astore_n 2, 1) := by decide +kernel
theorem dX5_prune_6 : decode cX5_prune 6 = .ok (.aload_n 2, 1) := by decide +kernel
theorem dX5_prune_7 : decode cX5_prune 7 = .ok (.ifnonnull 5, 3) := by decide +kernel
theorem dX5_prune_10 : decode cX5_prune 10 = .ok (.iconst (-1), 1) := by decide +kernel
theorem dX5_prune_11 : decode cX5_prune 11 = .ok (.ireturn, 1) := by decide +kernel
theorem dX5_prune_12 : decode cX5_prune 12 = .ok (.aload_n 2, 1) := by decide +kernel
theorem dX5_prune_13 : decode cX5_prune 13 = .ok (.getfield 118, 3) := by decide +kernel
theorem dX5_prune_16 : decode cX5_prune 16 = .ok (.ifCond .eq 7, 3) := by decide +kernel
theorem dX5_prune_19 : decode cX5_prune 19 = .ok (.iconst 1, 1) := by decide +kernel
theorem dX5_prune_20 : decode cX5_prune 20 = .ok (.goto 4, 3) := by decide +kernel
theorem dX5_prune_23 : decode cX5_prune 23 = .ok (.iconst 0, 1) := by decide +kernel
theorem dX5_prune_24 : decode cX5_prune 24 = .ok (.istore_n 3, 1) := by decide +kernel
theorem dX5_prune_25 : decode cX5_prune 25 = .ok (.aload_n 2, 1) := by decide +kernel
theorem dX5_prune_26 : decode cX5_prune 26 = .ok (.iconst 0, 1) := by decide +kernel
theorem dX5_prune_27 : decode cX5_prune 27 = .ok (.putfield 118, 3) := by decide +kernel
theorem dX5_prune_30 : decode cX5_prune 30 = .ok (.iload_n 3, 1) := by decide +kernel
theorem dX5_prune_31 : decode cX5_prune 31 = .ok (.ireturn, 1) := by decide +kernel
theorem dX5_size_0 : decode cX5_size 0 = .ok (.aload_n 0, 1) := by decide +kernel
theorem dX5_size_1 : decode cX5_size 1 = .ok (.iload_n 1, 1) := by decide +kernel
theorem dX5_size_2 : decode cX5_size 2 = .ok (.invokevirtual 114, 3) := by decide +kernel
theorem dX5_size_5 : decode cX5_size 5 = .ok (.astore_n 3, 1) := by decide +kernel
theorem dX5_size_6 : decode cX5_size 6 = .ok (.aload_n 3, 1) := by decide +kernel
theorem dX5_size_7 : decode cX5_size 7 = .ok (.ifnull 12, 3) := by decide +kernel
theorem dX5_size_10 : decode cX5_size 10 = .ok (.iload_n 2, 1) := by decide +kernel
theorem dX5_size_11 : decode cX5_size 11 = .ok (.ifCond .lt 8, 3) := by decide +kernel
theorem dX5_size_14 : decode cX5_size 14 = .ok (.iload_n 2, 1) := by decide +kernel
theorem dX5_size_15 : decode cX5_size 15 = .ok (.iconst 1, 1) := by decide +kernel
theorem dX5_size_16 : decode cX5_size 16 = .ok (.if_icmp .le 5, 3) := by decide +kernel
theorem dX5_size_19 : decode cX5_size 19 = .ok (.iconst (-1), 1) := by decide +kernel
theorem dX5_size_20 : decode cX5_size 20 = .ok (.ireturn, 1) := by decide +kernel
theorem dX5_size_21 : decode cX5_size 21 = .ok (.iload_n 2, 1) := by decide +kernel
theorem dX5_size_22 : decode cX5_size 22 = .ok (.ifCond .ne 8, 3) := by decide +kernel
theorem dX5_size_25 : decode cX5_size 25 = .ok (.aload_n 3, 1) := by decide +kernel
theorem dX5_size_26 : decode cX5_size 26 = .ok (.getfield 59, 3) := by decide +kernel
theorem dX5_size_29 : decode cX5_size 29 = .ok (.ireturn, 1) := by decide +kernel
theorem dX5_size_30 : decode cX5_size 30 = .ok (.aload_n 3, 1) := by decide +kernel
theorem dX5_size_31 : decode cX5_size 31 = .ok (.getfield 118, 3) := by decide +kernel
theorem dX5_size_34 : decode cX5_size 34 = .ok (.ifCond .eq 7, 3) := by decide +kernel
theorem dX5_size_37 : decode cX5_size 37 = .ok (.iconst 1, 1) := by decide +kernel
theorem dX5_size_38 : decode cX5_size 38 = .ok (.goto 4, 3) := by decide +kernel
theorem dX5_size_41 : decode cX5_size 41 = .ok (.iconst 0, 1) := by decide +kernel
theorem dX5_size_42 : decode cX5_size 42 = .ok (.ireturn, 1) := by decide +kernel
theorem dX5_event_0 : decode cX5_event 0 = .ok (.aload_n 0, 1) := by decide +kernel
theorem dX5_event_1 : decode cX5_event 1 = .ok (.iload_n 1, 1) := by decide +kernel
theorem dX5_event_2 : decode cX5_event 2 = .ok (.invokevirtual 114, 3) := by decide +kernel
theorem dX5_event_5 : decode cX5_event 5 = .ok (.astore 4, 2) := by decide +kernel
theorem dX5_event_7 : decode cX5_event 7 = .ok (.aload 4, 2) := by decide +kernel
theorem dX5_event_9 : decode cX5_event 9 = .ok (.ifnull 21, 3) := by decide +kernel
theorem dX5_event_12 : decode cX5_event 12 = .ok (.aload 4, 2) := by decide +kernel
theorem dX5_event_14 : decode cX5_event 14 = .ok (.iload_n 2, 1) := by decide +kernel
theorem dX5_event_15 : decode cX5_event 15 = .ok (.invokevirtual 122, 3) := by decide +kernel
theorem dX5_event_18 : decode cX5_event 18 = .ok (.ifCond .eq 12, 3) := by decide +kernel
theorem dX5_event_21 : decode cX5_event 21 = .ok (.iload_n 3, 1) := by decide +kernel
theorem dX5_event_22 : decode cX5_event 22 = .ok (.ifCond .lt 8, 3) := by decide +kernel
theorem dX5_event_25 : decode cX5_event 25 = .ok (.iload_n 3, 1) := by decide +kernel
theorem dX5_event_26 : decode cX5_event 26 = .ok (.iconst 5, 1) := by decide +kernel
theorem dX5_event_27 : decode cX5_event 27 = .ok (.if_icmp .le 5, 3) := by decide +kernel
theorem dX5_event_30 : decode cX5_event 30 = .ok (.iconst (-1), 1) := by decide +kernel
theorem dX5_event_31 : decode cX5_event 31 = .ok (.ireturn, 1) := by decide +kernel
theorem dX5_event_32 : decode cX5_event 32 = .ok (.aload 4, 2) := by decide +kernel
theorem dX5_event_34 : decode cX5_event 34 = .ok (.getfield 118, 3) := by decide +kernel
theorem dX5_event_37 : decode cX5_event 37 = .ok (.ifCond .eq 13, 3) := by decide +kernel
theorem dX5_event_40 : decode cX5_event 40 = .ok (.aload 4, 2) := by decide +kernel
theorem dX5_event_42 : decode cX5_event 42 = .ok (.iload_n 2, 1) := by decide +kernel
theorem dX5_event_43 : decode cX5_event 43 = .ok (.iload_n 3, 1) := by decide +kernel
theorem dX5_event_44 : decode cX5_event 44 = .ok (.invokevirtual 125, 3) := by decide +kernel
theorem dX5_event_47 : decode cX5_event 47 = .ok (.goto 5, 3) := by decide +kernel
theorem dX5_event_50 : decode cX5_event 50 = .ok (.bipush (-4), 2) := by decide +kernel
theorem dX5_event_52 : decode cX5_event 52 = .ok (.ireturn, 1) := by decide +kernel
theorem dX5_value_0 : decode cX5_value 0 = .ok (.aload_n 0, 1) := by decide +kernel
theorem dX5_value_1 : decode cX5_value 1 = .ok (.iload_n 1, 1) := by decide +kernel
theorem dX5_value_2 : decode cX5_value 2 = .ok (.invokevirtual 128, 3) := by decide +kernel
theorem dX5_value_5 : decode cX5_value 5 = .ok (.astore_n 3, 1) := by decide +kernel
theorem dX5_value_6 : decode cX5_value 6 = .ok (.aload_n 3, 1) := by decide +kernel
theorem dX5_value_7 : decode cX5_value 7 = .ok (.getfield 118, 3) := by decide +kernel
theorem dX5_value_10 : decode cX5_value 10 = .ok (.ifCond .ne 13, 3) := by decide +kernel
theorem dX5_value_13 : decode cX5_value 13 = .ok (.new 131, 3) := by decide +kernel
theorem dX5_value_16 : decode cX5_value 16 = .ok (.dup, 1) := by decide +kernel
theorem dX5_value_17 : decode cX5_value 17 = .ok (.ldc 133, 2) := by decide +kernel
theorem dX5_value_19 : decode cX5_value 19 = .ok (.invokespecial 135, 3) := by decide +kernel
theorem dX5_value_22 : decode cX5_value 22 = .ok (.athrow, 1) := by decide +kernel
theorem dX5_value_23 : decode cX5_value 23 = .ok (.aload_n 3, 1) := by decide +kernel
theorem dX5_value_24 : decode cX5_value 24 = .ok (.iload_n 2, 1) := by decide +kernel
theorem dX5_value_25 : decode cX5_value 25 = .ok (.invokevirtual 122, 3) := by decide +kernel
theorem dX5_value_28 : decode cX5_value 28 = .ok (.ifCond .ne 13, 3) := by decide +kernel
theorem dX5_value_31 : decode cX5_value 31 = .ok (.new 138, 3) := by decide +kernel
theorem dX5_value_34 : decode cX5_value 34 = .ok (.dup, 1) := by decide +kernel
theorem dX5_value_35 : decode cX5_value 35 = .ok (.ldc 140, 2) := by decide +kernel
theorem dX5_value_37 : decode cX5_value 37 = .ok (.invokespecial 142, 3) := by decide +kernel
theorem dX5_value_40 : decode cX5_value 40 = .ok (.athrow, 1) := by decide +kernel
theorem dX5_value_41 : decode cX5_value 41 = .ok (.aload_n 3, 1) := by decide +kernel
theorem dX5_value_42 : decode cX5_value 42 = .ok (.getfield 143, 3) := by decide +kernel
theorem dX5_value_45 : decode cX5_value 45 = .ok (.iload_n 2, 1) := by decide +kernel
theorem dX5_value_46 : decode cX5_value 46 = .ok (.laload, 1) := by decide +kernel
theorem dX5_value_47 : decode cX5_value 47 = .ok (.lreturn, 1) := by decide +kernel
theorem dX5_root_0 : decode cX5_root 0 = .ok (.aload_n 0, 1) := by decide +kernel
theorem dX5_root_1 : decode cX5_root 1 = .ok (.iload_n 1, 1) := by decide +kernel
theorem dX5_root_2 : decode cX5_root 2 = .ok (.invokevirtual 128, 3) := by decide +kernel
theorem dX5_root_5 : decode cX5_root 5 = .ok (.getfield 147, 3) := by decide +kernel
theorem dX5_root_8 : decode cX5_root 8 = .ok (.lreturn, 1) := by decide +kernel
theorem dX5_filter_0 : decode cX5_filter 0 = .ok (.aload_n 0, 1) := by decide +kernel
theorem dX5_filter_1 : decode cX5_filter 1 = .ok (.iload_n 1, 1) := by decide +kernel
theorem dX5_filter_2 : decode cX5_filter 2 = .ok (.invokevirtual 128, 3) := by decide +kernel
theorem dX5_filter_5 : decode cX5_filter 5 = .ok (.getfield 151, 3) := by decide +kernel
theorem dX5_filter_8 : decode cX5_filter 8 = .ok (.lreturn, 1) := by decide +kernel
theorem dX5_may_0 : decode cX5_may 0 = .ok (.aload_n 0, 1) := by decide +kernel
theorem dX5_may_1 : decode cX5_may 1 = .ok (.iload_n 1, 1) := by decide +kernel
theorem dX5_may_2 : decode cX5_may 2 = .ok (.invokevirtual 114, 3) := by decide +kernel
theorem dX5_may_5 : decode cX5_may 5 = .ok (.astore_n 3, 1) := by decide +kernel
theorem dX5_may_6 : decode cX5_may 6 = .ok (.aload_n 3, 1) := by decide +kernel
theorem dX5_may_7 : decode cX5_may 7 = .ok (.ifnull 10, 3) := by decide +kernel
theorem dX5_may_10 : decode cX5_may 10 = .ok (.iload_n 2, 1) := by decide +kernel
theorem dX5_may_11 : decode cX5_may 11 = .ok (.invokestatic 154, 3) := by decide +kernel
theorem dX5_may_14 : decode cX5_may 14 = .ok (.ifCond .ne 5, 3) := by decide +kernel
theorem dX5_may_17 : decode cX5_may 17 = .ok (.iconst (-1), 1) := by decide +kernel
theorem dX5_may_18 : decode cX5_may 18 = .ok (.ireturn, 1) := by decide +kernel
theorem dX5_may_19 : decode cX5_may 19 = .ok (.iload_n 2, 1) := by decide +kernel
theorem dX5_may_20 : decode cX5_may 20 = .ok (.invokestatic 157, 3) := by decide +kernel
theorem dX5_may_23 : decode cX5_may 23 = .ok (.lstore 4, 2) := by decide +kernel
theorem dX5_may_25 : decode cX5_may 25 = .ok (.aload_n 3, 1) := by decide +kernel
theorem dX5_may_26 : decode cX5_may 26 = .ok (.getfield 151, 3) := by decide +kernel
theorem dX5_may_29 : decode cX5_may 29 = .ok (.lload 4, 2) := by decide +kernel
theorem dX5_may_31 : decode cX5_may 31 = .ok (.land, 1) := by decide +kernel
theorem dX5_may_32 : decode cX5_may 32 = .ok (.lload 4, 2) := by decide +kernel
theorem dX5_may_34 : decode cX5_may 34 = .ok (.lcmp, 1) := by decide +kernel
theorem dX5_may_35 : decode cX5_may 35 = .ok (.ifCond .ne 7, 3) := by decide +kernel
theorem dX5_may_38 : decode cX5_may 38 = .ok (.iconst 1, 1) := by decide +kernel
theorem dX5_may_39 : decode cX5_may 39 = .ok (.goto 4, 3) := by decide +kernel
theorem dX5_may_42 : decode cX5_may 42 = .ok (.iconst 0, 1) := by decide +kernel
theorem dX5_may_43 : decode cX5_may 43 = .ok (.ireturn, 1) := by decide +kernel
theorem dX5_find_0 : decode cX5_find 0 = .ok (.aload_n 0, 1) := by decide +kernel
theorem dX5_find_1 : decode cX5_find 1 = .ok (.iload_n 1, 1) := by decide +kernel
theorem dX5_find_2 : decode cX5_find 2 = .ok (.invokevirtual 114, 3) := by decide +kernel
theorem dX5_find_5 : decode cX5_find 5 = .ok (.astore 4, 2) := by decide +kernel
theorem dX5_find_7 : decode cX5_find 7 = .ok (.aload 4, 2) := by decide +kernel
theorem dX5_find_9 : decode cX5_find 9 = .ok (.ifnull 14, 3) := by decide +kernel
theorem dX5_find_12 : decode cX5_find 12 = .ok (.iload_n 2, 1) := by decide +kernel
theorem dX5_find_13 : decode cX5_find 13 = .ok (.invokestatic 154, 3) := by decide +kernel
theorem dX5_find_16 : decode cX5_find 16 = .ok (.ifCond .eq 7, 3) := by decide +kernel
theorem dX5_find_19 : decode cX5_find 19 = .ok (.iload_n 3, 1) := by decide +kernel
theorem dX5_find_20 : decode cX5_find 20 = .ok (.ifCond .ge 5, 3) := by decide +kernel
theorem dX5_find_23 : decode cX5_find 23 = .ok (.iconst (-1), 1) := by decide +kernel
theorem dX5_find_24 : decode cX5_find 24 = .ok (.ireturn, 1) := by decide +kernel
theorem dX5_find_25 : decode cX5_find 25 = .ok (.aload 4, 2) := by decide +kernel
theorem dX5_find_27 : decode cX5_find 27 = .ok (.getfield 118, 3) := by decide +kernel
theorem dX5_find_30 : decode cX5_find 30 = .ok (.ifCond .eq 13, 3) := by decide +kernel
theorem dX5_find_33 : decode cX5_find 33 = .ok (.aload 4, 2) := by decide +kernel
theorem dX5_find_35 : decode cX5_find 35 = .ok (.iload_n 2, 1) := by decide +kernel
theorem dX5_find_36 : decode cX5_find 36 = .ok (.iload_n 3, 1) := by decide +kernel
theorem dX5_find_37 : decode cX5_find 37 = .ok (.invokevirtual 161, 3) := by decide +kernel
theorem dX5_find_40 : decode cX5_find 40 = .ok (.goto 5, 3) := by decide +kernel
theorem dX5_find_43 : decode cX5_find 43 = .ok (.bipush (-4), 2) := by decide +kernel
theorem dX5_find_45 : decode cX5_find 45 = .ok (.ireturn, 1) := by decide +kernel
theorem dX5_path_0 : decode cX5_path 0 = .ok (.aload_n 0, 1) := by decide +kernel
theorem dX5_path_1 : decode cX5_path 1 = .ok (.iload_n 1, 1) := by decide +kernel
theorem dX5_path_2 : decode cX5_path 2 = .ok (.invokevirtual 114, 3) := by decide +kernel
theorem dX5_path_5 : decode cX5_path 5 = .ok (.astore_n 3, 1) := by decide +kernel
theorem dX5_path_6 : decode cX5_path 6 = .ok (.aload_n 3, 1) := by decide +kernel
theorem dX5_path_7 : decode cX5_path 7 = .ok (.ifnull 11, 3) := by decide +kernel
theorem dX5_path_10 : decode cX5_path 10 = .ok (.aload_n 3, 1) := by decide +kernel
theorem dX5_path_11 : decode cX5_path 11 = .ok (.iload_n 2, 1) := by decide +kernel
theorem dX5_path_12 : decode cX5_path 12 = .ok (.invokevirtual 122, 3) := by decide +kernel
theorem dX5_path_15 : decode cX5_path 15 = .ok (.ifCond .ne 5, 3) := by decide +kernel
theorem dX5_path_18 : decode cX5_path 18 = .ok (.iconst (-1), 1) := by decide +kernel
theorem dX5_path_19 : decode cX5_path 19 = .ok (.ireturn, 1) := by decide +kernel
theorem dX5_path_20 : decode cX5_path 20 = .ok (.aload_n 3, 1) := by decide +kernel
theorem dX5_path_21 : decode cX5_path 21 = .ok (.getfield 118, 3) := by decide +kernel
theorem dX5_path_24 : decode cX5_path 24 = .ok (.ifCond .ne 6, 3) := by decide +kernel
theorem dX5_path_27 : decode cX5_path 27 = .ok (.bipush (-4), 2) := by decide +kernel
theorem dX5_path_29 : decode cX5_path 29 = .ok (.ireturn, 1) := by decide +kernel
theorem dX5_path_30 : decode cX5_path 30 = .ok (.aload_n 0, 1) := by decide +kernel
theorem dX5_path_31 : decode cX5_path 31 = .ok (.getfield 25, 3) := by decide +kernel
theorem dX5_path_34 : decode cX5_path 34 = .ok (.aload_n 3, 1) := by decide +kernel
theorem dX5_path_35 : decode cX5_path 35 = .ok (.iload_n 2, 1) := by decide +kernel
theorem dX5_path_36 : decode cX5_path 36 = .ok (.aload_n 0, 1) := by decide +kernel
theorem dX5_path_37 : decode cX5_path 37 = .ok (.getfield 32, 3) := by decide +kernel
theorem dX5_path_40 : decode cX5_path 40 = .ok (.invokevirtual 164, 3) := by decide +kernel
theorem dX5_path_43 : decode cX5_path 43 = .ok (.aload_n 0, 1) := by decide +kernel
theorem dX5_path_44 : decode cX5_path 44 = .ok (.getfield 32, 3) := by decide +kernel
theorem dX5_path_47 : decode cX5_path 47 = .ok (.getfield 168, 3) := by decide +kernel
theorem dX5_path_50 : decode cX5_path 50 = .ok (.ireturn, 1) := by decide +kernel
theorem dX5_out_0 : decode cX5_out 0 = .ok (.iload_n 1, 1) := by decide +kernel
theorem dX5_out_1 : decode cX5_out 1 = .ok (.ifCond .lt 14, 3) := by decide +kernel
theorem dX5_out_4 : decode cX5_out 4 = .ok (.iload_n 1, 1) := by decide +kernel
theorem dX5_out_5 : decode cX5_out 5 = .ok (.aload_n 0, 1) := by decide +kernel
theorem dX5_out_6 : decode cX5_out 6 = .ok (.getfield 32, 3) := by decide +kernel
theorem dX5_out_9 : decode cX5_out 9 = .ok (.getfield 168, 3) := by decide +kernel
theorem dX5_out_12 : decode cX5_out 12 = .ok (.if_icmp .lt 13, 3) := by decide +kernel
theorem dX5_out_15 : decode cX5_out 15 = .ok (.new 138, 3) := by decide +kernel
theorem dX5_out_18 : decode cX5_out 18 = .ok (.dup, 1) := by decide +kernel
theorem dX5_out_19 : decode cX5_out 19 = .ok (.ldc 169, 2) := by decide +kernel
theorem dX5_out_21 : decode cX5_out 21 = .ok (.invokespecial 142, 3) := by decide +kernel
theorem dX5_out_24 : decode cX5_out 24 = .ok (.athrow, 1) := by decide +kernel
theorem dX5_out_25 : decode cX5_out 25 = .ok (.aload_n 0, 1) := by decide +kernel
theorem dX5_out_26 : decode cX5_out 26 = .ok (.getfield 32, 3) := by decide +kernel
theorem dX5_out_29 : decode cX5_out 29 = .ok (.getfield 171, 3) := by decide +kernel
theorem dX5_out_32 : decode cX5_out 32 = .ok (.iload_n 1, 1) := by decide +kernel
theorem dX5_out_33 : decode cX5_out 33 = .ok (.laload, 1) := by decide +kernel
theorem dX5_out_34 : decode cX5_out 34 = .ok (.lreturn, 1) := by decide +kernel
theorem dX5_lay_0 : decode cX5_lay 0 = .ok (.aload_n 0, 1) := by decide +kernel
theorem dX5_lay_1 : decode cX5_lay 1 = .ok (.getfield 32, 3) := by decide +kernel
theorem dX5_lay_4 : decode cX5_lay 4 = .ok (.lload_n 1, 1) := by decide +kernel
theorem dX5_lay_5 : decode cX5_lay 5 = .ok (.invokevirtual 174, 3) := by decide +kernel
theorem dX5_lay_8 : decode cX5_lay 8 = .ok (.ifCond .eq 13, 3) := by decide +kernel
theorem dX5_lay_11 : decode cX5_lay 11 = .ok (.aload_n 0, 1) := by decide +kernel
theorem dX5_lay_12 : decode cX5_lay 12 = .ok (.getfield 32, 3) := by decide +kernel
theorem dX5_lay_15 : decode cX5_lay 15 = .ok (.getfield 168, 3) := by decide +kernel
theorem dX5_lay_18 : decode cX5_lay 18 = .ok (.goto 5, 3) := by decide +kernel
theorem dX5_lay_21 : decode cX5_lay 21 = .ok (.bipush (-3), 2) := by decide +kernel
theorem dX5_lay_23 : decode cX5_lay 23 = .ok (.ireturn, 1) := by decide +kernel
theorem dX5_wipe_0 : decode cX5_wipe 0 = .ok (.aload_n 0, 1) := by decide +kernel
theorem dX5_wipe_1 : decode cX5_wipe 1 = .ok (.getfield 32, 3) := by decide +kernel
theorem dX5_wipe_4 : decode cX5_wipe 4 = .ok (.getfield 168, 3) := by decide +kernel
theorem dX5_wipe_7 : decode cX5_wipe 7 = .ok (.istore_n 1, 1) := by decide +kernel
theorem dX5_wipe_8 : decode cX5_wipe 8 = .ok (.aload_n 0, 1) := by decide +kernel
theorem dX5_wipe_9 : decode cX5_wipe 9 = .ok (.getfield 32, 3) := by decide +kernel
theorem dX5_wipe_12 : decode cX5_wipe 12 = .ok (.iconst 0, 1) := by decide +kernel
theorem dX5_wipe_13 : decode cX5_wipe 13 = .ok (.putfield 168, 3) := by decide +kernel
theorem dX5_wipe_16 : decode cX5_wipe 16 = .ok (.iload_n 1, 1) := by decide +kernel
theorem dX5_wipe_17 : decode cX5_wipe 17 = .ok (.ireturn, 1) := by decide +kernel
theorem dX5_proved_0 : decode cX5_proved 0 = .ok (.aload_n 0, 1) := by decide +kernel
theorem dX5_proved_1 : decode cX5_proved 1 = .ok (.iload_n 1, 1) := by decide +kernel
theorem dX5_proved_2 : decode cX5_proved 2 = .ok (.invokevirtual 114, 3) := by decide +kernel
theorem dX5_proved_5 : decode cX5_proved 5 = .ok (.astore 9, 2) := by decide +kernel
theorem dX5_proved_7 : decode cX5_proved 7 = .ok (.aload 9, 2) := by decide +kernel
theorem dX5_proved_9 : decode cX5_proved 9 = .ok (.ifnull 25, 3) := by decide +kernel
theorem dX5_proved_12 : decode cX5_proved 12 = .ok (.aload 9, 2) := by decide +kernel
theorem dX5_proved_14 : decode cX5_proved 14 = .ok (.iload_n 2, 1) := by decide +kernel
theorem dX5_proved_15 : decode cX5_proved 15 = .ok (.invokevirtual 122, 3) := by decide +kernel
theorem dX5_proved_18 : decode cX5_proved 18 = .ok (.ifCond .eq 16, 3) := by decide +kernel
theorem dX5_proved_21 : decode cX5_proved 21 = .ok (.iload_n 3, 1) := by decide +kernel
theorem dX5_proved_22 : decode cX5_proved 22 = .ok (.iload 4, 2) := by decide +kernel
theorem dX5_proved_24 : decode cX5_proved 24 = .ok (.iload 5, 2) := by decide +kernel
theorem dX5_proved_26 : decode cX5_proved 26 = .ok (.iload 6, 2) := by decide +kernel
theorem dX5_proved_28 : decode cX5_proved 28 = .ok (.invokestatic 66, 3) := by decide +kernel
theorem dX5_proved_31 : decode cX5_proved 31 = .ok (.ifCond .ne 5, 3) := by decide +kernel
theorem dX5_proved_34 : decode cX5_proved 34 = .ok (.iconst (-1), 1) := by decide +kernel
theorem dX5_proved_35 : decode cX5_proved 35 = .ok (.ireturn, 1) := by decide +kernel
theorem dX5_proved_36 : decode cX5_proved 36 = .ok (.iload_n 3, 1) := by decide +kernel
theorem dX5_proved_37 : decode cX5_proved 37 = .ok (.iload 4, 2) := by decide +kernel
theorem dX5_proved_39 : decode cX5_proved 39 = .ok (.iload 5, 2) := by decide +kernel
theorem dX5_proved_41 : decode cX5_proved 41 = .ok (.iload 6, 2) := by decide +kernel
theorem dX5_proved_43 : decode cX5_proved 43 = .ok (.lload 7, 2) := by decide +kernel
theorem dX5_proved_45 : decode cX5_proved 45 = .ok (.iload_n 2, 1) := by decide +kernel
theorem dX5_proved_46 : decode cX5_proved 46 = .ok (.invokestatic 177, 3) := by decide +kernel
theorem dX5_proved_49 : decode cX5_proved 49 = .ok (.lstore 10, 2) := by decide +kernel
theorem dX5_proved_51 : decode cX5_proved 51 = .ok (.aload_n 0, 1) := by decide +kernel
theorem dX5_proved_52 : decode cX5_proved 52 = .ok (.getfield 32, 3) := by decide +kernel
theorem dX5_proved_55 : decode cX5_proved 55 = .ok (.aload 9, 2) := by decide +kernel
theorem dX5_proved_57 : decode cX5_proved 57 = .ok (.getfield 147, 3) := by decide +kernel
theorem dX5_proved_60 : decode cX5_proved 60 = .ok (.lload 10, 2) := by decide +kernel
theorem dX5_proved_62 : decode cX5_proved 62 = .ok (.iload_n 2, 1) := by decide +kernel
theorem dX5_proved_63 : decode cX5_proved 63 = .ok (.aload 9, 2) := by decide +kernel
theorem dX5_proved_65 : decode cX5_proved 65 = .ok (.getfield 59, 3) := by decide +kernel
theorem dX5_proved_68 : decode cX5_proved 68 = .ok (.invokevirtual 181, 3) := by decide +kernel
theorem dX5_proved_71 : decode cX5_proved 71 = .ok (.ifCond .eq 7, 3) := by decide +kernel
theorem dX5_proved_74 : decode cX5_proved 74 = .ok (.iconst 1, 1) := by decide +kernel
theorem dX5_proved_75 : decode cX5_proved 75 = .ok (.goto 4, 3) := by decide +kernel
theorem dX5_proved_78 : decode cX5_proved 78 = .ok (.iconst 0, 1) := by decide +kernel
theorem dX5_proved_79 : decode cX5_proved 79 = .ok (.ireturn, 1) := by decide +kernel
theorem dX5_subscribe_0 : decode cX5_subscribe 0 = .ok (.iload_n 1, 1) := by decide +kernel
theorem dX5_subscribe_1 : decode cX5_subscribe 1 = .ok (.invokestatic 185, 3) := by decide +kernel
theorem dX5_subscribe_4 : decode cX5_subscribe 4 = .ok (.ifCond .eq 15, 3) := by decide +kernel
theorem dX5_subscribe_7 : decode cX5_subscribe 7 = .ok (.iload_n 2, 1) := by decide +kernel
theorem dX5_subscribe_8 : decode cX5_subscribe 8 = .ok (.ifCond .lt 11, 3) := by decide +kernel
theorem dX5_subscribe_11 : decode cX5_subscribe 11 = .ok (.iload_n 2, 1) := by decide +kernel
theorem dX5_subscribe_12 : decode cX5_subscribe 12 = .ok (.aload_n 0, 1) := by decide +kernel
theorem dX5_subscribe_13 : decode cX5_subscribe 13 = .ok (.getfield 90, 3) := by decide +kernel
theorem dX5_subscribe_16 : decode cX5_subscribe 16 = .ok (.if_icmp .le 5, 3) := by decide +kernel
theorem dX5_subscribe_19 : decode cX5_subscribe 19 = .ok (.iconst (-1), 1) := by decide +kernel
theorem dX5_subscribe_20 : decode cX5_subscribe 20 = .ok (.ireturn, 1) := by decide +kernel
theorem dX5_subscribe_21 : decode cX5_subscribe 21 = .ok (.aload_n 0, 1) := by decide +kernel
theorem dX5_subscribe_22 : decode cX5_subscribe 22 = .ok (.getfield 93, 3) := by decide +kernel
theorem dX5_subscribe_25 : decode cX5_subscribe 25 = .ok (.bipush 8, 2) := by decide +kernel
theorem dX5_subscribe_27 : decode cX5_subscribe 27 = .ok (.if_icmp .lt 6, 3) := by decide +kernel
theorem dX5_subscribe_30 : decode cX5_subscribe 30 = .ok (.bipush (-3), 2) := by decide +kernel
theorem dX5_subscribe_32 : decode cX5_subscribe 32 = .ok (.ireturn, 1) := by decide +kernel
theorem dX5_subscribe_33 : decode cX5_subscribe 33 = .ok (.aload_n 0, 1) := by decide +kernel
theorem dX5_subscribe_34 : decode cX5_subscribe 34 = .ok (.getfield 38, 3) := by decide +kernel
theorem dX5_subscribe_37 : decode cX5_subscribe 37 = .ok (.aload_n 0, 1) := by decide +kernel
theorem dX5_subscribe_38 : decode cX5_subscribe 38 = .ok (.getfield 93, 3) := by decide +kernel
theorem dX5_subscribe_41 : decode cX5_subscribe 41 = .ok (.new 36, 3) := by decide +kernel
theorem dX5_subscribe_44 : decode cX5_subscribe 44 = .ok (.dup, 1) := by decide +kernel
theorem dX5_subscribe_45 : decode cX5_subscribe 45 = .ok (.iload_n 1, 1) := by decide +kernel
theorem dX5_subscribe_46 : decode cX5_subscribe 46 = .ok (.iload_n 2, 1) := by decide +kernel
theorem dX5_subscribe_47 : decode cX5_subscribe 47 = .ok (.invokespecial 188, 3) := by decide +kernel
theorem dX5_subscribe_50 : decode cX5_subscribe 50 = .ok (.aastore, 1) := by decide +kernel
theorem dX5_subscribe_51 : decode cX5_subscribe 51 = .ok (.aload_n 0, 1) := by decide +kernel
theorem dX5_subscribe_52 : decode cX5_subscribe 52 = .ok (.dup, 1) := by decide +kernel
theorem dX5_subscribe_53 : decode cX5_subscribe 53 = .ok (.getfield 93, 3) := by decide +kernel
theorem dX5_subscribe_56 : decode cX5_subscribe 56 = .ok (.iconst 1, 1) := by decide +kernel
theorem dX5_subscribe_57 : decode cX5_subscribe 57 = .ok (.iadd, 1) := by decide +kernel
theorem dX5_subscribe_58 : decode cX5_subscribe 58 = .ok (.putfield 93, 3) := by decide +kernel
theorem dX5_subscribe_61 : decode cX5_subscribe 61 = .ok (.aload_n 0, 1) := by decide +kernel
theorem dX5_subscribe_62 : decode cX5_subscribe 62 = .ok (.getfield 93, 3) := by decide +kernel
theorem dX5_subscribe_65 : decode cX5_subscribe 65 = .ok (.iconst 1, 1) := by decide +kernel
theorem dX5_subscribe_66 : decode cX5_subscribe 66 = .ok (.isub, 1) := by decide +kernel
theorem dX5_subscribe_67 : decode cX5_subscribe 67 = .ok (.ireturn, 1) := by decide +kernel
theorem dX5_next_0 : decode cX5_next 0 = .ok (.aload_n 0, 1) := by decide +kernel
theorem dX5_next_1 : decode cX5_next 1 = .ok (.iload_n 1, 1) := by decide +kernel
theorem dX5_next_2 : decode cX5_next 2 = .ok (.invokevirtual 191, 3) := by decide +kernel
theorem dX5_next_5 : decode cX5_next 5 = .ok (.astore_n 2, 1) := by decide +kernel
theorem dX5_next_6 : decode cX5_next 6 = .ok (.aload_n 2, 1) := by decide +kernel
theorem dX5_next_7 : decode cX5_next 7 = .ok (.ifnonnull 5, 3) := by decide +kernel
theorem dX5_next_10 : decode cX5_next 10 = .ok (.iconst (-1), 1) := by decide +kernel
theorem dX5_next_11 : decode cX5_next 11 = .ok (.ireturn, 1) := by decide +kernel
theorem dX5_next_12 : decode cX5_next 12 = .ok (.aload_n 2, 1) := by decide +kernel
theorem dX5_next_13 : decode cX5_next 13 = .ok (.getfield 195, 3) := by decide +kernel
theorem dX5_next_16 : decode cX5_next 16 = .ok (.istore_n 3, 1) := by decide +kernel
theorem dX5_next_17 : decode cX5_next 17 = .ok (.aload_n 2, 1) := by decide +kernel
theorem dX5_next_18 : decode cX5_next 18 = .ok (.getfield 198, 3) := by decide +kernel
theorem dX5_next_21 : decode cX5_next 21 = .ok (.istore 4, 2) := by decide +kernel
theorem dX5_next_23 : decode cX5_next 23 = .ok (.iload 4, 2) := by decide +kernel
theorem dX5_next_25 : decode cX5_next 25 = .ok (.aload_n 0, 1) := by decide +kernel
theorem dX5_next_26 : decode cX5_next 26 = .ok (.getfield 90, 3) := by decide +kernel
theorem dX5_next_29 : decode cX5_next 29 = .ok (.if_icmp .ge 48, 3) := by decide +kernel
theorem dX5_next_32 : decode cX5_next 32 = .ok (.aload_n 0, 1) := by decide +kernel
theorem dX5_next_33 : decode cX5_next 33 = .ok (.iload 4, 2) := by decide +kernel
theorem dX5_next_35 : decode cX5_next 35 = .ok (.aload_n 2, 1) := by decide +kernel
theorem dX5_next_36 : decode cX5_next 36 = .ok (.getfield 201, 3) := by decide +kernel
theorem dX5_next_39 : decode cX5_next 39 = .ok (.iload_n 3, 1) := by decide +kernel
theorem dX5_next_40 : decode cX5_next 40 = .ok (.invokevirtual 204, 3) := by decide +kernel
theorem dX5_next_43 : decode cX5_next 43 = .ok (.istore 5, 2) := by decide +kernel
theorem dX5_next_45 : decode cX5_next 45 = .ok (.iload 5, 2) := by decide +kernel
theorem dX5_next_47 : decode cX5_next 47 = .ok (.ifCond .lt 22, 3) := by decide +kernel
theorem dX5_next_50 : decode cX5_next 50 = .ok (.aload_n 2, 1) := by decide +kernel
theorem dX5_next_51 : decode cX5_next 51 = .ok (.iload 4, 2) := by decide +kernel
theorem dX5_next_53 : decode cX5_next 53 = .ok (.iload 5, 2) := by decide +kernel
theorem dX5_next_55 : decode cX5_next 55 = .ok (.iconst 1, 1) := by decide +kernel
theorem dX5_next_56 : decode cX5_next 56 = .ok (.iadd, 1) := by decide +kernel
theorem dX5_next_57 : decode cX5_next 57 = .ok (.invokevirtual 208, 3) := by decide +kernel
theorem dX5_next_60 : decode cX5_next 60 = .ok (.bipush 100, 2) := by decide +kernel
theorem dX5_next_62 : decode cX5_next 62 = .ok (.iload 4, 2) := by decide +kernel
theorem dX5_next_64 : decode cX5_next 64 = .ok (.imul, 1) := by decide +kernel
theorem dX5_next_65 : decode cX5_next 65 = .ok (.iload 5, 2) := by decide +kernel
theorem dX5_next_67 : decode cX5_next 67 = .ok (.iadd, 1) := by decide +kernel
theorem dX5_next_68 : decode cX5_next 68 = .ok (.ireturn, 1) := by decide +kernel
theorem dX5_next_69 : decode cX5_next 69 = .ok (.iconst 0, 1) := by decide +kernel
theorem dX5_next_70 : decode cX5_next 70 = .ok (.istore_n 3, 1) := by decide +kernel
theorem dX5_next_71 : decode cX5_next 71 = .ok (.iinc 4 1, 3) := by decide +kernel
theorem dX5_next_74 : decode cX5_next 74 = .ok (.goto (-51), 3) := by decide +kernel
theorem dX5_next_77 : decode cX5_next 77 = .ok (.aload_n 2, 1) := by decide +kernel
theorem dX5_next_78 : decode cX5_next 78 = .ok (.aload_n 0, 1) := by decide +kernel
theorem dX5_next_79 : decode cX5_next 79 = .ok (.getfield 90, 3) := by decide +kernel
theorem dX5_next_82 : decode cX5_next 82 = .ok (.iconst 0, 1) := by decide +kernel
theorem dX5_next_83 : decode cX5_next 83 = .ok (.invokevirtual 208, 3) := by decide +kernel
theorem dX5_next_86 : decode cX5_next 86 = .ok (.bipush (-5), 2) := by decide +kernel
theorem dX5_next_88 : decode cX5_next 88 = .ok (.ireturn, 1) := by decide +kernel
theorem dX5_place_0 : decode cX5_place 0 = .ok (.aload_n 0, 1) := by decide +kernel
theorem dX5_place_1 : decode cX5_place 1 = .ok (.iload_n 1, 1) := by decide +kernel
theorem dX5_place_2 : decode cX5_place 2 = .ok (.invokevirtual 191, 3) := by decide +kernel
theorem dX5_place_5 : decode cX5_place 5 = .ok (.astore_n 2, 1) := by decide +kernel
theorem dX5_place_6 : decode cX5_place 6 = .ok (.aload_n 2, 1) := by decide +kernel
theorem dX5_place_7 : decode cX5_place 7 = .ok (.ifnonnull 7, 3) := by decide +kernel
theorem dX5_place_10 : decode cX5_place 10 = .ok (.iconst (-1), 1) := by decide +kernel
theorem dX5_place_11 : decode cX5_place 11 = .ok (.goto 15, 3) := by decide +kernel
theorem dX5_place_14 : decode cX5_place 14 = .ok (.bipush 100, 2) := by decide +kernel
theorem dX5_place_16 : decode cX5_place 16 = .ok (.aload_n 2, 1) := by decide +kernel
theorem dX5_place_17 : decode cX5_place 17 = .ok (.getfield 198, 3) := by decide +kernel
theorem dX5_place_20 : decode cX5_place 20 = .ok (.imul, 1) := by decide +kernel
theorem dX5_place_21 : decode cX5_place 21 = .ok (.aload_n 2, 1) := by decide +kernel
theorem dX5_place_22 : decode cX5_place 22 = .ok (.getfield 195, 3) := by decide +kernel
theorem dX5_place_25 : decode cX5_place 25 = .ok (.iadd, 1) := by decide +kernel
theorem dX5_place_26 : decode cX5_place 26 = .ok (.ireturn, 1) := by decide +kernel
theorem dX5_failInnermost_0 : decode cX5_failInnermost 0 = .ok (.bipush (-20), 2) := by decide +kernel
theorem dX5_failInnermost_2 : decode cX5_failInnermost 2 = .ok (.aload_n 0, 1) := by decide +kernel
theorem dX5_failInnermost_3 : decode cX5_failInnermost 3 = .ok (.getfield 10, 3) := by decide +kernel
theorem dX5_failInnermost_6 : decode cX5_failInnermost 6 = .ok (.aload_n 0, 1) := by decide +kernel
theorem dX5_failInnermost_7 : decode cX5_failInnermost 7 = .ok (.getfield 43, 3) := by decide +kernel
theorem dX5_failInnermost_10 : decode cX5_failInnermost 10 = .ok (.invokevirtual 211, 3) := by decide +kernel
theorem dX5_failInnermost_13 : decode cX5_failInnermost 13 = .ok (.isub, 1) := by decide +kernel
theorem dX5_failInnermost_14 : decode cX5_failInnermost 14 = .ok (.ireturn, 1) := by decide +kernel
theorem dX5_blockAt_0 : decode cX5_blockAt 0 = .ok (.iload_n 1, 1) := by decide +kernel
theorem dX5_blockAt_1 : decode cX5_blockAt 1 = .ok (.ifCond .lt 20, 3) := by decide +kernel
theorem dX5_blockAt_4 : decode cX5_blockAt 4 = .ok (.iload_n 1, 1) := by decide +kernel
theorem dX5_blockAt_5 : decode cX5_blockAt 5 = .ok (.aload_n 0, 1) := by decide +kernel
theorem dX5_blockAt_6 : decode cX5_blockAt 6 = .ok (.getfield 90, 3) := by decide +kernel
theorem dX5_blockAt_9 : decode cX5_blockAt 9 = .ok (.if_icmp .ge 12, 3) := by decide +kernel
theorem dX5_blockAt_12 : decode cX5_blockAt 12 = .ok (.aload_n 0, 1) := by decide +kernel
theorem dX5_blockAt_13 : decode cX5_blockAt 13 = .ok (.getfield 18, 3) := by decide +kernel
theorem dX5_blockAt_16 : decode cX5_blockAt 16 = .ok (.iload_n 1, 1) := by decide +kernel
theorem dX5_blockAt_17 : decode cX5_blockAt 17 = .ok (.aaload, 1) := by decide +kernel
theorem dX5_blockAt_18 : decode cX5_blockAt 18 = .ok (.goto 4, 3) := by decide +kernel
theorem dX5_blockAt_21 : decode cX5_blockAt 21 = .ok (.aconst_null, 1) := by decide +kernel
theorem dX5_blockAt_22 : decode cX5_blockAt 22 = .ok (.areturn, 1) := by decide +kernel
theorem dX5_neededBlock_0 : decode cX5_neededBlock 0 = .ok (.aload_n 0, 1) := by decide +kernel
theorem dX5_neededBlock_1 : decode cX5_neededBlock 1 = .ok (.iload_n 1, 1) := by decide +kernel
theorem dX5_neededBlock_2 : decode cX5_neededBlock 2 = .ok (.invokevirtual 114, 3) := by decide +kernel
theorem dX5_neededBlock_5 : decode cX5_neededBlock 5 = .ok (.astore_n 2, 1) := by decide +kernel
theorem dX5_neededBlock_6 : decode cX5_neededBlock 6 = .ok (.aload_n 2, 1) := by decide +kernel
theorem dX5_neededBlock_7 : decode cX5_neededBlock 7 = .ok (.ifnonnull 13, 3) := by decide +kernel
theorem dX5_neededBlock_10 : decode cX5_neededBlock 10 = .ok (.new 138, 3) := by decide +kernel
theorem dX5_neededBlock_13 : decode cX5_neededBlock 13 = .ok (.dup, 1) := by decide +kernel
theorem dX5_neededBlock_14 : decode cX5_neededBlock 14 = .ok (.ldc 215, 2) := by decide +kernel
theorem dX5_neededBlock_16 : decode cX5_neededBlock 16 = .ok (.invokespecial 142, 3) := by decide +kernel
theorem dX5_neededBlock_19 : decode cX5_neededBlock 19 = .ok (.athrow, 1) := by decide +kernel
theorem dX5_neededBlock_20 : decode cX5_neededBlock 20 = .ok (.aload_n 2, 1) := by decide +kernel
theorem dX5_neededBlock_21 : decode cX5_neededBlock 21 = .ok (.areturn, 1) := by decide +kernel
theorem dX5_keptEventsFrom_0 : decode cX5_keptEventsFrom 0 = .ok (.iconst 0, 1) := by decide +kernel
theorem dX5_keptEventsFrom_1 : decode cX5_keptEventsFrom 1 = .ok (.istore_n 2, 1) := by decide +kernel
theorem dX5_keptEventsFrom_2 : decode cX5_keptEventsFrom 2 = .ok (.iload_n 1, 1) := by decide +kernel
theorem dX5_keptEventsFrom_3 : decode cX5_keptEventsFrom 3 = .ok (.istore_n 3, 1) := by decide +kernel
theorem dX5_keptEventsFrom_4 : decode cX5_keptEventsFrom 4 = .ok (.iload_n 3, 1) := by decide +kernel
theorem dX5_keptEventsFrom_5 : decode cX5_keptEventsFrom 5 = .ok (.aload_n 0, 1) := by decide +kernel
theorem dX5_keptEventsFrom_6 : decode cX5_keptEventsFrom 6 = .ok (.getfield 90, 3) := by decide +kernel
theorem dX5_keptEventsFrom_9 : decode cX5_keptEventsFrom 9 = .ok (.if_icmp .ge 37, 3) := by decide +kernel
theorem dX5_keptEventsFrom_12 : decode cX5_keptEventsFrom 12 = .ok (.aload_n 0, 1) := by decide +kernel
theorem dX5_keptEventsFrom_13 : decode cX5_keptEventsFrom 13 = .ok (.iload_n 3, 1) := by decide +kernel
theorem dX5_keptEventsFrom_14 : decode cX5_keptEventsFrom 14 = .ok (.invokevirtual 114, 3) := by decide +kernel
theorem dX5_keptEventsFrom_17 : decode cX5_keptEventsFrom 17 = .ok (.astore 4, 2) := by decide +kernel
theorem dX5_keptEventsFrom_19 : decode cX5_keptEventsFrom 19 = .ok (.aload 4, 2) := by decide +kernel
theorem dX5_keptEventsFrom_21 : decode cX5_keptEventsFrom 21 = .ok (.ifnull 19, 3) := by decide +kernel
theorem dX5_keptEventsFrom_24 : decode cX5_keptEventsFrom 24 = .ok (.aload 4, 2) := by decide +kernel
theorem dX5_keptEventsFrom_26 : decode cX5_keptEventsFrom 26 = .ok (.getfield 118, 3) := by decide +kernel
theorem dX5_keptEventsFrom_29 : decode cX5_keptEventsFrom 29 = .ok (.ifCond .eq 11, 3) := by decide +kernel
theorem dX5_keptEventsFrom_32 : decode cX5_keptEventsFrom 32 = .ok (.iload_n 2, 1) := by decide +kernel
theorem dX5_keptEventsFrom_33 : decode cX5_keptEventsFrom 33 = .ok (.aload 4, 2) := by decide +kernel
theorem dX5_keptEventsFrom_35 : decode cX5_keptEventsFrom 35 = .ok (.getfield 59, 3) := by decide +kernel
theorem dX5_keptEventsFrom_38 : decode cX5_keptEventsFrom 38 = .ok (.iadd, 1) := by decide +kernel
theorem dX5_keptEventsFrom_39 : decode cX5_keptEventsFrom 39 = .ok (.istore_n 2, 1) := by decide +kernel
theorem dX5_keptEventsFrom_40 : decode cX5_keptEventsFrom 40 = .ok (.iinc 3 1, 3) := by decide +kernel
theorem dX5_keptEventsFrom_43 : decode cX5_keptEventsFrom 43 = .ok (.goto (-39), 3) := by decide +kernel
theorem dX5_keptEventsFrom_46 : decode cX5_keptEventsFrom 46 = .ok (.iload_n 2, 1) := by decide +kernel
theorem dX5_keptEventsFrom_47 : decode cX5_keptEventsFrom 47 = .ok (.ireturn, 1) := by decide +kernel
theorem dX5_firstKeptWith_0 : decode cX5_firstKeptWith 0 = .ok (.aload_n 0, 1) := by decide +kernel
theorem dX5_firstKeptWith_1 : decode cX5_firstKeptWith 1 = .ok (.iload_n 1, 1) := by decide +kernel
theorem dX5_firstKeptWith_2 : decode cX5_firstKeptWith 2 = .ok (.invokevirtual 114, 3) := by decide +kernel
theorem dX5_firstKeptWith_5 : decode cX5_firstKeptWith 5 = .ok (.astore 4, 2) := by decide +kernel
theorem dX5_firstKeptWith_7 : decode cX5_firstKeptWith 7 = .ok (.aload 4, 2) := by decide +kernel
theorem dX5_firstKeptWith_9 : decode cX5_firstKeptWith 9 = .ok (.ifnull 21, 3) := by decide +kernel
theorem dX5_firstKeptWith_12 : decode cX5_firstKeptWith 12 = .ok (.aload 4, 2) := by decide +kernel
theorem dX5_firstKeptWith_14 : decode cX5_firstKeptWith 14 = .ok (.getfield 118, 3) := by decide +kernel
theorem dX5_firstKeptWith_17 : decode cX5_firstKeptWith 17 = .ok (.ifCond .eq 13, 3) := by decide +kernel
theorem dX5_firstKeptWith_20 : decode cX5_firstKeptWith 20 = .ok (.aload 4, 2) := by decide +kernel
theorem dX5_firstKeptWith_22 : decode cX5_firstKeptWith 22 = .ok (.iload_n 2, 1) := by decide +kernel
theorem dX5_firstKeptWith_23 : decode cX5_firstKeptWith 23 = .ok (.iload_n 3, 1) := by decide +kernel
theorem dX5_firstKeptWith_24 : decode cX5_firstKeptWith 24 = .ok (.invokevirtual 161, 3) := by decide +kernel
theorem dX5_firstKeptWith_27 : decode cX5_firstKeptWith 27 = .ok (.goto 5, 3) := by decide +kernel
theorem dX5_firstKeptWith_30 : decode cX5_firstKeptWith 30 = .ok (.bipush (-5), 2) := by decide +kernel
theorem dX5_firstKeptWith_32 : decode cX5_firstKeptWith 32 = .ok (.ireturn, 1) := by decide +kernel
theorem dX5_subscriberAt_0 : decode cX5_subscriberAt 0 = .ok (.iload_n 1, 1) := by decide +kernel
theorem dX5_subscriberAt_1 : decode cX5_subscriberAt 1 = .ok (.ifCond .lt 20, 3) := by decide +kernel
theorem dX5_subscriberAt_4 : decode cX5_subscriberAt 4 = .ok (.iload_n 1, 1) := by decide +kernel
theorem dX5_subscriberAt_5 : decode cX5_subscriberAt 5 = .ok (.aload_n 0, 1) := by decide +kernel
theorem dX5_subscriberAt_6 : decode cX5_subscriberAt 6 = .ok (.getfield 93, 3) := by decide +kernel
theorem dX5_subscriberAt_9 : decode cX5_subscriberAt 9 = .ok (.if_icmp .ge 12, 3) := by decide +kernel
theorem dX5_subscriberAt_12 : decode cX5_subscriberAt 12 = .ok (.aload_n 0, 1) := by decide +kernel
theorem dX5_subscriberAt_13 : decode cX5_subscriberAt 13 = .ok (.getfield 38, 3) := by decide +kernel
theorem dX5_subscriberAt_16 : decode cX5_subscriberAt 16 = .ok (.iload_n 1, 1) := by decide +kernel
theorem dX5_subscriberAt_17 : decode cX5_subscriberAt 17 = .ok (.aaload, 1) := by decide +kernel
theorem dX5_subscriberAt_18 : decode cX5_subscriberAt 18 = .ok (.goto 4, 3) := by decide +kernel
theorem dX5_subscriberAt_21 : decode cX5_subscriberAt 21 = .ok (.aconst_null, 1) := by decide +kernel
theorem dX5_subscriberAt_22 : decode cX5_subscriberAt 22 = .ok (.areturn, 1) := by decide +kernel
theorem dX5_moveSubscribersBack_0 : decode cX5_moveSubscribersBack 0 = .ok (.iconst 0, 1) := by decide +kernel
theorem dX5_moveSubscribersBack_1 : decode cX5_moveSubscribersBack 1 = .ok (.istore_n 1, 1) := by decide +kernel
theorem dX5_moveSubscribersBack_2 : decode cX5_moveSubscribersBack 2 = .ok (.iload_n 1, 1) := by decide +kernel
theorem dX5_moveSubscribersBack_3 : decode cX5_moveSubscribersBack 3 = .ok (.aload_n 0, 1) := by decide +kernel
theorem dX5_moveSubscribersBack_4 : decode cX5_moveSubscribersBack 4 = .ok (.getfield 93, 3) := by decide +kernel
theorem dX5_moveSubscribersBack_7 : decode cX5_moveSubscribersBack 7 = .ok (.if_icmp .ge 39, 3) := by decide +kernel
theorem dX5_moveSubscribersBack_10 : decode cX5_moveSubscribersBack 10 = .ok (.aload_n 0, 1) := by decide +kernel
theorem dX5_moveSubscribersBack_11 : decode cX5_moveSubscribersBack 11 = .ok (.iload_n 1, 1) := by decide +kernel
theorem dX5_moveSubscribersBack_12 : decode cX5_moveSubscribersBack 12 = .ok (.invokevirtual 191, 3) := by decide +kernel
theorem dX5_moveSubscribersBack_15 : decode cX5_moveSubscribersBack 15 = .ok (.astore_n 2, 1) := by decide +kernel
theorem dX5_moveSubscribersBack_16 : decode cX5_moveSubscribersBack 16 = .ok (.aload_n 2, 1) := by decide +kernel
theorem dX5_moveSubscribersBack_17 : decode cX5_moveSubscribersBack 17 = .ok (.ifnull 23, 3) := by decide +kernel
theorem dX5_moveSubscribersBack_20 : decode cX5_moveSubscribersBack 20 = .ok (.aload_n 2, 1) := by decide +kernel
theorem dX5_moveSubscribersBack_21 : decode cX5_moveSubscribersBack 21 = .ok (.getfield 198, 3) := by decide +kernel
theorem dX5_moveSubscribersBack_24 : decode cX5_moveSubscribersBack 24 = .ok (.aload_n 0, 1) := by decide +kernel
theorem dX5_moveSubscribersBack_25 : decode cX5_moveSubscribersBack 25 = .ok (.getfield 90, 3) := by decide +kernel
theorem dX5_moveSubscribersBack_28 : decode cX5_moveSubscribersBack 28 = .ok (.if_icmp .lt 12, 3) := by decide +kernel
theorem dX5_moveSubscribersBack_31 : decode cX5_moveSubscribersBack 31 = .ok (.aload_n 2, 1) := by decide +kernel
theorem dX5_moveSubscribersBack_32 : decode cX5_moveSubscribersBack 32 = .ok (.aload_n 0, 1) := by decide +kernel
theorem dX5_moveSubscribersBack_33 : decode cX5_moveSubscribersBack 33 = .ok (.getfield 90, 3) := by decide +kernel
theorem dX5_moveSubscribersBack_36 : decode cX5_moveSubscribersBack 36 = .ok (.iconst 0, 1) := by decide +kernel
theorem dX5_moveSubscribersBack_37 : decode cX5_moveSubscribersBack 37 = .ok (.invokevirtual 208, 3) := by decide +kernel
theorem dX5_moveSubscribersBack_40 : decode cX5_moveSubscribersBack 40 = .ok (.iinc 1 1, 3) := by decide +kernel
theorem dX5_moveSubscribersBack_43 : decode cX5_moveSubscribersBack 43 = .ok (.goto (-41), 3) := by decide +kernel
theorem dX5_moveSubscribersBack_46 : decode cX5_moveSubscribersBack 46 = .ok (.return_, 1) := by decide +kernel
theorem dX5_isTopic_0 : decode cX5_isTopic 0 = .ok (.iload_n 0, 1) := by decide +kernel
theorem dX5_isTopic_1 : decode cX5_isTopic 1 = .ok (.ifCond .lt 14, 3) := by decide +kernel
theorem dX5_isTopic_4 : decode cX5_isTopic 4 = .ok (.iload_n 0, 1) := by decide +kernel
theorem dX5_isTopic_5 : decode cX5_isTopic 5 = .ok (.sipush 1000, 3) := by decide +kernel
theorem dX5_isTopic_8 : decode cX5_isTopic 8 = .ok (.if_icmp .ge 7, 3) := by decide +kernel
theorem dX5_isTopic_11 : decode cX5_isTopic 11 = .ok (.iconst 1, 1) := by decide +kernel
theorem dX5_isTopic_12 : decode cX5_isTopic 12 = .ok (.goto 4, 3) := by decide +kernel
theorem dX5_isTopic_15 : decode cX5_isTopic 15 = .ok (.iconst 0, 1) := by decide +kernel
theorem dX5_isTopic_16 : decode cX5_isTopic 16 = .ok (.ireturn, 1) := by decide +kernel
theorem dX5_isTopicOrNone_0 : decode cX5_isTopicOrNone 0 = .ok (.iload_n 0, 1) := by decide +kernel
theorem dX5_isTopicOrNone_1 : decode cX5_isTopicOrNone 1 = .ok (.iconst (-1), 1) := by decide +kernel
theorem dX5_isTopicOrNone_2 : decode cX5_isTopicOrNone 2 = .ok (.if_icmp .eq 10, 3) := by decide +kernel
theorem dX5_isTopicOrNone_5 : decode cX5_isTopicOrNone 5 = .ok (.iload_n 0, 1) := by decide +kernel
theorem dX5_isTopicOrNone_6 : decode cX5_isTopicOrNone 6 = .ok (.invokestatic 154, 3) := by decide +kernel
theorem dX5_isTopicOrNone_9 : decode cX5_isTopicOrNone 9 = .ok (.ifCond .eq 7, 3) := by decide +kernel
theorem dX5_isTopicOrNone_12 : decode cX5_isTopicOrNone 12 = .ok (.iconst 1, 1) := by decide +kernel
theorem dX5_isTopicOrNone_13 : decode cX5_isTopicOrNone 13 = .ok (.goto 4, 3) := by decide +kernel
theorem dX5_isTopicOrNone_16 : decode cX5_isTopicOrNone 16 = .ok (.iconst 0, 1) := by decide +kernel
theorem dX5_isTopicOrNone_17 : decode cX5_isTopicOrNone 17 = .ok (.ireturn, 1) := by decide +kernel
theorem dX5_isEvent_0 : decode cX5_isEvent 0 = .ok (.iload_n 0, 1) := by decide +kernel
theorem dX5_isEvent_1 : decode cX5_isEvent 1 = .ok (.ifCond .lt 44, 3) := by decide +kernel
theorem dX5_isEvent_4 : decode cX5_isEvent 4 = .ok (.iload_n 0, 1) := by decide +kernel
theorem dX5_isEvent_5 : decode cX5_isEvent 5 = .ok (.bipush 10, 2) := by decide +kernel
theorem dX5_isEvent_7 : decode cX5_isEvent 7 = .ok (.if_icmp .ge 38, 3) := by decide +kernel
theorem dX5_isEvent_10 : decode cX5_isEvent 10 = .ok (.iload_n 1, 1) := by decide +kernel
theorem dX5_isEvent_11 : decode cX5_isEvent 11 = .ok (.invokestatic 154, 3) := by decide +kernel
theorem dX5_isEvent_14 : decode cX5_isEvent 14 = .ok (.ifCond .eq 31, 3) := by decide +kernel
theorem dX5_isEvent_17 : decode cX5_isEvent 17 = .ok (.iload_n 2, 1) := by decide +kernel
theorem dX5_isEvent_18 : decode cX5_isEvent 18 = .ok (.invokestatic 185, 3) := by decide +kernel
theorem dX5_isEvent_21 : decode cX5_isEvent 21 = .ok (.ifCond .eq 24, 3) := by decide +kernel
theorem dX5_isEvent_24 : decode cX5_isEvent 24 = .ok (.iload_n 3, 1) := by decide +kernel
theorem dX5_isEvent_25 : decode cX5_isEvent 25 = .ok (.invokestatic 185, 3) := by decide +kernel
theorem dX5_isEvent_28 : decode cX5_isEvent 28 = .ok (.ifCond .eq 17, 3) := by decide +kernel
theorem dX5_isEvent_31 : decode cX5_isEvent 31 = .ok (.iload_n 2, 1) := by decide +kernel
theorem dX5_isEvent_32 : decode cX5_isEvent 32 = .ok (.iconst (-1), 1) := by decide +kernel
theorem dX5_isEvent_33 : decode cX5_isEvent 33 = .ok (.if_icmp .ne 8, 3) := by decide +kernel
theorem dX5_isEvent_36 : decode cX5_isEvent 36 = .ok (.iload_n 3, 1) := by decide +kernel
theorem dX5_isEvent_37 : decode cX5_isEvent 37 = .ok (.iconst (-1), 1) := by decide +kernel
theorem dX5_isEvent_38 : decode cX5_isEvent 38 = .ok (.if_icmp .ne 7, 3) := by decide +kernel
theorem dX5_isEvent_41 : decode cX5_isEvent 41 = .ok (.iconst 1, 1) := by decide +kernel
theorem dX5_isEvent_42 : decode cX5_isEvent 42 = .ok (.goto 4, 3) := by decide +kernel
theorem dX5_isEvent_45 : decode cX5_isEvent 45 = .ok (.iconst 0, 1) := by decide +kernel
theorem dX5_isEvent_46 : decode cX5_isEvent 46 = .ok (.ireturn, 1) := by decide +kernel
theorem dX5_topicCount_0 : decode cX5_topicCount 0 = .ok (.iload_n 0, 1) := by decide +kernel
theorem dX5_topicCount_1 : decode cX5_topicCount 1 = .ok (.iconst (-1), 1) := by decide +kernel
theorem dX5_topicCount_2 : decode cX5_topicCount 2 = .ok (.if_icmp .ne 5, 3) := by decide +kernel
theorem dX5_topicCount_5 : decode cX5_topicCount 5 = .ok (.iconst 1, 1) := by decide +kernel
theorem dX5_topicCount_6 : decode cX5_topicCount 6 = .ok (.ireturn, 1) := by decide +kernel
theorem dX5_topicCount_7 : decode cX5_topicCount 7 = .ok (.iload_n 1, 1) := by decide +kernel
theorem dX5_topicCount_8 : decode cX5_topicCount 8 = .ok (.iconst (-1), 1) := by decide +kernel
theorem dX5_topicCount_9 : decode cX5_topicCount 9 = .ok (.if_icmp .ne 7, 3) := by decide +kernel
theorem dX5_topicCount_12 : decode cX5_topicCount 12 = .ok (.iconst 2, 1) := by decide +kernel
theorem dX5_topicCount_13 : decode cX5_topicCount 13 = .ok (.goto 4, 3) := by decide +kernel
theorem dX5_topicCount_16 : decode cX5_topicCount 16 = .ok (.iconst 3, 1) := by decide +kernel
theorem dX5_topicCount_17 : decode cX5_topicCount 17 = .ok (.ireturn, 1) := by decide +kernel
theorem dX5_bitsOf_0 : decode cX5_bitsOf 0 = .ok (.lconst 1, 1) := by decide +kernel
theorem dX5_bitsOf_1 : decode cX5_bitsOf 1 = .ok (.iload_n 0, 1) := by decide +kernel
theorem dX5_bitsOf_2 : decode cX5_bitsOf 2 = .ok (.bipush 64, 2) := by decide +kernel
theorem dX5_bitsOf_4 : decode cX5_bitsOf 4 = .ok (.irem, 1) := by decide +kernel
theorem dX5_bitsOf_5 : decode cX5_bitsOf 5 = .ok (.lshl, 1) := by decide +kernel
theorem dX5_bitsOf_6 : decode cX5_bitsOf 6 = .ok (.lconst 1, 1) := by decide +kernel
theorem dX5_bitsOf_7 : decode cX5_bitsOf 7 = .ok (.bipush 7, 2) := by decide +kernel
theorem dX5_bitsOf_9 : decode cX5_bitsOf 9 = .ok (.iload_n 0, 1) := by decide +kernel
theorem dX5_bitsOf_10 : decode cX5_bitsOf 10 = .ok (.imul, 1) := by decide +kernel
theorem dX5_bitsOf_11 : decode cX5_bitsOf 11 = .ok (.iconst 3, 1) := by decide +kernel
theorem dX5_bitsOf_12 : decode cX5_bitsOf 12 = .ok (.iadd, 1) := by decide +kernel
theorem dX5_bitsOf_13 : decode cX5_bitsOf 13 = .ok (.bipush 61, 2) := by decide +kernel
theorem dX5_bitsOf_15 : decode cX5_bitsOf 15 = .ok (.irem, 1) := by decide +kernel
theorem dX5_bitsOf_16 : decode cX5_bitsOf 16 = .ok (.lshl, 1) := by decide +kernel
theorem dX5_bitsOf_17 : decode cX5_bitsOf 17 = .ok (.lor, 1) := by decide +kernel
theorem dX5_bitsOf_18 : decode cX5_bitsOf 18 = .ok (.lconst 1, 1) := by decide +kernel
theorem dX5_bitsOf_19 : decode cX5_bitsOf 19 = .ok (.bipush 13, 2) := by decide +kernel
theorem dX5_bitsOf_21 : decode cX5_bitsOf 21 = .ok (.iload_n 0, 1) := by decide +kernel
theorem dX5_bitsOf_22 : decode cX5_bitsOf 22 = .ok (.imul, 1) := by decide +kernel
theorem dX5_bitsOf_23 : decode cX5_bitsOf 23 = .ok (.iconst 5, 1) := by decide +kernel
theorem dX5_bitsOf_24 : decode cX5_bitsOf 24 = .ok (.iadd, 1) := by decide +kernel
theorem dX5_bitsOf_25 : decode cX5_bitsOf 25 = .ok (.bipush 59, 2) := by decide +kernel
theorem dX5_bitsOf_27 : decode cX5_bitsOf 27 = .ok (.irem, 1) := by decide +kernel
theorem dX5_bitsOf_28 : decode cX5_bitsOf 28 = .ok (.lshl, 1) := by decide +kernel
theorem dX5_bitsOf_29 : decode cX5_bitsOf 29 = .ok (.lor, 1) := by decide +kernel
theorem dX5_bitsOf_30 : decode cX5_bitsOf 30 = .ok (.lreturn, 1) := by decide +kernel
theorem dX5_mix_0 : decode cX5_mix 0 = .ok (.ldc2_w 217, 3) := by decide +kernel
theorem dX5_mix_3 : decode cX5_mix 3 = .ok (.lload_n 0, 1) := by decide +kernel
theorem dX5_mix_4 : decode cX5_mix 4 = .ok (.lmul, 1) := by decide +kernel
theorem dX5_mix_5 : decode cX5_mix 5 = .ok (.lload_n 2, 1) := by decide +kernel
theorem dX5_mix_6 : decode cX5_mix 6 = .ok (.ladd, 1) := by decide +kernel
theorem dX5_mix_7 : decode cX5_mix 7 = .ok (.ldc2_w 219, 3) := by decide +kernel
theorem dX5_mix_10 : decode cX5_mix 10 = .ok (.ladd, 1) := by decide +kernel
theorem dX5_mix_11 : decode cX5_mix 11 = .ok (.ldc2_w 221, 3) := by decide +kernel
theorem dX5_mix_14 : decode cX5_mix 14 = .ok (.lmul, 1) := by decide +kernel
theorem dX5_mix_15 : decode cX5_mix 15 = .ok (.lstore 4, 2) := by decide +kernel
theorem dX5_mix_17 : decode cX5_mix 17 = .ok (.lload 4, 2) := by decide +kernel
theorem dX5_mix_19 : decode cX5_mix 19 = .ok (.lload 4, 2) := by decide +kernel
theorem dX5_mix_21 : decode cX5_mix 21 = .ok (.bipush 29, 2) := by decide +kernel
theorem dX5_mix_23 : decode cX5_mix 23 = .ok (.lushr, 1) := by decide +kernel
theorem dX5_mix_24 : decode cX5_mix 24 = .ok (.lxor, 1) := by decide +kernel
theorem dX5_mix_25 : decode cX5_mix 25 = .ok (.lreturn, 1) := by decide +kernel
theorem dX5_leafOf_0 : decode cX5_leafOf 0 = .ok (.iload_n 0, 1) := by decide +kernel
theorem dX5_leafOf_1 : decode cX5_leafOf 1 = .ok (.i2l, 1) := by decide +kernel
theorem dX5_leafOf_2 : decode cX5_leafOf 2 = .ok (.lload 4, 2) := by decide +kernel
theorem dX5_leafOf_4 : decode cX5_leafOf 4 = .ok (.invokestatic 223, 3) := by decide +kernel
theorem dX5_leafOf_7 : decode cX5_leafOf 7 = .ok (.iload_n 1, 1) := by decide +kernel
theorem dX5_leafOf_8 : decode cX5_leafOf 8 = .ok (.i2l, 1) := by decide +kernel
theorem dX5_leafOf_9 : decode cX5_leafOf 9 = .ok (.invokestatic 223, 3) := by decide +kernel
theorem dX5_leafOf_12 : decode cX5_leafOf 12 = .ok (.lstore 7, 2) := by decide +kernel
theorem dX5_leafOf_14 : decode cX5_leafOf 14 = .ok (.iload_n 2, 1) := by decide +kernel
theorem dX5_leafOf_15 : decode cX5_leafOf 15 = .ok (.iconst (-1), 1) := by decide +kernel
theorem dX5_leafOf_16 : decode cX5_leafOf 16 = .ok (.if_icmp .eq 12, 3) := by decide +kernel
theorem dX5_leafOf_19 : decode cX5_leafOf 19 = .ok (.lload 7, 2) := by decide +kernel
theorem dX5_leafOf_21 : decode cX5_leafOf 21 = .ok (.iload_n 2, 1) := by decide +kernel
theorem dX5_leafOf_22 : decode cX5_leafOf 22 = .ok (.i2l, 1) := by decide +kernel
theorem dX5_leafOf_23 : decode cX5_leafOf 23 = .ok (.invokestatic 223, 3) := by decide +kernel
theorem dX5_leafOf_26 : decode cX5_leafOf 26 = .ok (.lstore 7, 2) := by decide +kernel
theorem dX5_leafOf_28 : decode cX5_leafOf 28 = .ok (.iload_n 3, 1) := by decide +kernel
theorem dX5_leafOf_29 : decode cX5_leafOf 29 = .ok (.iconst (-1), 1) := by decide +kernel
theorem dX5_leafOf_30 : decode cX5_leafOf 30 = .ok (.if_icmp .eq 12, 3) := by decide +kernel
theorem dX5_leafOf_33 : decode cX5_leafOf 33 = .ok (.lload 7, 2) := by decide +kernel
theorem dX5_leafOf_35 : decode cX5_leafOf 35 = .ok (.iload_n 3, 1) := by decide +kernel
theorem dX5_leafOf_36 : decode cX5_leafOf 36 = .ok (.i2l, 1) := by decide +kernel
theorem dX5_leafOf_37 : decode cX5_leafOf 37 = .ok (.invokestatic 223, 3) := by decide +kernel
theorem dX5_leafOf_40 : decode cX5_leafOf 40 = .ok (.lstore 7, 2) := by decide +kernel
theorem dX5_leafOf_42 : decode cX5_leafOf 42 = .ok (.lload 7, 2) := by decide +kernel
theorem dX5_leafOf_44 : decode cX5_leafOf 44 = .ok (.iload 6, 2) := by decide +kernel
theorem dX5_leafOf_46 : decode cX5_leafOf 46 = .ok (.i2l, 1) := by decide +kernel
theorem dX5_leafOf_47 : decode cX5_leafOf 47 = .ok (.invokestatic 223, 3) := by decide +kernel
theorem dX5_leafOf_50 : decode cX5_leafOf 50 = .ok (.lreturn, 1) := by decide +kernel
theorem dX6_init_0 : decode cX6_init 0 = .ok (.aload_n 0, 1) := by decide +kernel
theorem dX6_init_1 : decode cX6_init 1 = .ok (.invokespecial 1, 3) := by decide +kernel
theorem dX6_init_4 : decode cX6_init 4 = .ok (.aload_n 0, 1) := by decide +kernel
theorem dX6_init_5 : decode cX6_init 5 = .ok (.sipush 1312, 3) := by decide +kernel
theorem dX6_init_8 : decode cX6_init 8 = .ok (.newarray .int, 2) := by decide +kernel
theorem dX6_init_10 : decode cX6_init 10 = .ok (.putfield 7, 3) := by decide +kernel
theorem dX6_init_13 : decode cX6_init 13 = .ok (.aload_n 0, 1) := by decide +kernel
theorem dX6_init_14 : decode cX6_init 14 = .ok (.sipush 3936, 3) := by decide +kernel
theorem dX6_init_17 : decode cX6_init 17 = .ok (.newarray .int, 2) := by decide +kernel
theorem dX6_init_19 : decode cX6_init 19 = .ok (.putfield 13, 3) := by decide +kernel
theorem dX6_init_22 : decode cX6_init 22 = .ok (.aload_n 0, 1) := by decide +kernel
theorem dX6_init_23 : decode cX6_init 23 = .ok (.sipush 1312, 3) := by decide +kernel
theorem dX6_init_26 : decode cX6_init 26 = .ok (.newarray .long, 2) := by decide +kernel
theorem dX6_init_28 : decode cX6_init 28 = .ok (.putfield 16, 3) := by decide +kernel
theorem dX6_init_31 : decode cX6_init 31 = .ok (.aload_n 0, 1) := by decide +kernel
theorem dX6_init_32 : decode cX6_init 32 = .ok (.sipush 1312, 3) := by decide +kernel
theorem dX6_init_35 : decode cX6_init 35 = .ok (.newarray .int, 2) := by decide +kernel
theorem dX6_init_37 : decode cX6_init 37 = .ok (.putfield 20, 3) := by decide +kernel
theorem dX6_init_40 : decode cX6_init 40 = .ok (.aload_n 0, 1) := by decide +kernel
theorem dX6_init_41 : decode cX6_init 41 = .ok (.bipush 41, 2) := by decide +kernel
theorem dX6_init_43 : decode cX6_init 43 = .ok (.newarray .int, 2) := by decide +kernel
theorem dX6_init_45 : decode cX6_init 45 = .ok (.putfield 23, 3) := by decide +kernel
theorem dX6_init_48 : decode cX6_init 48 = .ok (.aload_n 0, 1) := by decide +kernel
theorem dX6_init_49 : decode cX6_init 49 = .ok (.bipush 41, 2) := by decide +kernel
theorem dX6_init_51 : decode cX6_init 51 = .ok (.newarray .boolean, 2) := by decide +kernel
theorem dX6_init_53 : decode cX6_init 53 = .ok (.putfield 26, 3) := by decide +kernel
theorem dX6_init_56 : decode cX6_init 56 = .ok (.aload_n 0, 1) := by decide +kernel
theorem dX6_init_57 : decode cX6_init 57 = .ok (.bipush 41, 2) := by decide +kernel
theorem dX6_init_59 : decode cX6_init 59 = .ok (.newarray .long, 2) := by decide +kernel
theorem dX6_init_61 : decode cX6_init 61 = .ok (.putfield 30, 3) := by decide +kernel
theorem dX6_init_64 : decode cX6_init 64 = .ok (.aload_n 0, 1) := by decide +kernel
theorem dX6_init_65 : decode cX6_init 65 = .ok (.bipush 41, 2) := by decide +kernel
theorem dX6_init_67 : decode cX6_init 67 = .ok (.newarray .long, 2) := by decide +kernel
theorem dX6_init_69 : decode cX6_init 69 = .ok (.putfield 33, 3) := by decide +kernel
theorem dX6_init_72 : decode cX6_init 72 = .ok (.aload_n 0, 1) := by decide +kernel
theorem dX6_init_73 : decode cX6_init 73 = .ok (.bipush 8, 2) := by decide +kernel
theorem dX6_init_75 : decode cX6_init 75 = .ok (.newarray .int, 2) := by decide +kernel
theorem dX6_init_77 : decode cX6_init 77 = .ok (.putfield 36, 3) := by decide +kernel
theorem dX6_init_80 : decode cX6_init 80 = .ok (.aload_n 0, 1) := by decide +kernel
theorem dX6_init_81 : decode cX6_init 81 = .ok (.bipush 8, 2) := by decide +kernel
theorem dX6_init_83 : decode cX6_init 83 = .ok (.newarray .int, 2) := by decide +kernel
theorem dX6_init_85 : decode cX6_init 85 = .ok (.putfield 39, 3) := by decide +kernel
theorem dX6_init_88 : decode cX6_init 88 = .ok (.aload_n 0, 1) := by decide +kernel
theorem dX6_init_89 : decode cX6_init 89 = .ok (.bipush 8, 2) := by decide +kernel
theorem dX6_init_91 : decode cX6_init 91 = .ok (.newarray .boolean, 2) := by decide +kernel
theorem dX6_init_93 : decode cX6_init 93 = .ok (.putfield 42, 3) := by decide +kernel
theorem dX6_init_96 : decode cX6_init 96 = .ok (.aload_n 0, 1) := by decide +kernel
theorem dX6_init_97 : decode cX6_init 97 = .ok (.bipush 8, 2) := by decide +kernel
theorem dX6_init_99 : decode cX6_init 99 = .ok (.newarray .int, 2) := by decide +kernel
theorem dX6_init_101 : decode cX6_init 101 = .ok (.putfield 45, 3) := by decide +kernel
theorem dX6_init_104 : decode cX6_init 104 = .ok (.aload_n 0, 1) := by decide +kernel
theorem dX6_init_105 : decode cX6_init 105 = .ok (.iconst 5, 1) := by decide +kernel
theorem dX6_init_106 : decode cX6_init 106 = .ok (.newarray .long, 2) := by decide +kernel
theorem dX6_init_108 : decode cX6_init 108 = .ok (.putfield 48, 3) := by decide +kernel
theorem dX6_init_111 : decode cX6_init 111 = .ok (.aload_n 0, 1) := by decide +kernel
theorem dX6_init_112 : decode cX6_init 112 = .ok (.bipush 8, 2) := by decide +kernel
theorem dX6_init_114 : decode cX6_init 114 = .ok (.newarray .int, 2) := by decide +kernel
theorem dX6_init_116 : decode cX6_init 116 = .ok (.putfield 51, 3) := by decide +kernel
theorem dX6_init_119 : decode cX6_init 119 = .ok (.aload_n 0, 1) := by decide +kernel
theorem dX6_init_120 : decode cX6_init 120 = .ok (.bipush 8, 2) := by decide +kernel
theorem dX6_init_122 : decode cX6_init 122 = .ok (.newarray .int, 2) := by decide +kernel
theorem dX6_init_124 : decode cX6_init 124 = .ok (.putfield 54, 3) := by decide +kernel
theorem dX6_init_127 : decode cX6_init 127 = .ok (.aload_n 0, 1) := by decide +kernel
theorem dX6_init_128 : decode cX6_init 128 = .ok (.bipush 8, 2) := by decide +kernel
theorem dX6_init_130 : decode cX6_init 130 = .ok (.newarray .int, 2) := by decide +kernel
theorem dX6_init_132 : decode cX6_init 132 = .ok (.putfield 57, 3) := by decide +kernel
theorem dX6_init_135 : decode cX6_init 135 = .ok (.aload_n 0, 1) := by decide +kernel
theorem dX6_init_136 : decode cX6_init 136 = .ok (.bipush 32, 2) := by decide +kernel
theorem dX6_init_138 : decode cX6_init 138 = .ok (.newarray .long, 2) := by decide +kernel
theorem dX6_init_140 : decode cX6_init 140 = .ok (.putfield 60, 3) := by decide +kernel
theorem dX6_init_143 : decode cX6_init 143 = .ok (.return_, 1) := by decide +kernel
theorem dX6_thrown_0 : decode cX6_thrown 0 = .ok (.aload_n 0, 1) := by decide +kernel
theorem dX6_thrown_1 : decode cX6_thrown 1 = .ok (.getfield 63, 3) := by decide +kernel
theorem dX6_thrown_4 : decode cX6_thrown 4 = .ok (.ireturn, 1) := by decide +kernel
theorem dX6_in_0 : decode cX6_in 0 = .ok (.lload_n 0, 1) := by decide +kernel
theorem dX6_in_1 : decode cX6_in 1 = .ok (.lload_n 2, 1) := by decide +kernel
theorem dX6_in_2 : decode cX6_in 2 = .ok (.lcmp, 1) := by decide +kernel
theorem dX6_in_3 : decode cX6_in 3 = .ok (.ifCond .lt 14, 3) := by decide +kernel
theorem dX6_in_6 : decode cX6_in 6 = .ok (.lload_n 0, 1) := by decide +kernel
theorem dX6_in_7 : decode cX6_in 7 = .ok (.lload 4, 2) := by decide +kernel
theorem dX6_in_9 : decode cX6_in 9 = .ok (.lcmp, 1) := by decide +kernel
theorem dX6_in_10 : decode cX6_in 10 = .ok (.ifCond .gt 7, 3) := by decide +kernel
theorem dX6_in_13 : decode cX6_in 13 = .ok (.iconst 1, 1) := by decide +kernel
theorem dX6_in_14 : decode cX6_in 14 = .ok (.goto 4, 3) := by decide +kernel
theorem dX6_in_17 : decode cX6_in 17 = .ok (.iconst 0, 1) := by decide +kernel
theorem dX6_in_18 : decode cX6_in 18 = .ok (.ireturn, 1) := by decide +kernel
theorem dX6_isBlock_0 : decode cX6_isBlock 0 = .ok (.iload_n 1, 1) := by decide +kernel
theorem dX6_isBlock_1 : decode cX6_isBlock 1 = .ok (.i2l, 1) := by decide +kernel
theorem dX6_isBlock_2 : decode cX6_isBlock 2 = .ok (.lconst 0, 1) := by decide +kernel
theorem dX6_isBlock_3 : decode cX6_isBlock 3 = .ok (.aload_n 0, 1) := by decide +kernel
theorem dX6_isBlock_4 : decode cX6_isBlock 4 = .ok (.getfield 67, 3) := by decide +kernel
theorem dX6_isBlock_7 : decode cX6_isBlock 7 = .ok (.iconst 1, 1) := by decide +kernel
theorem dX6_isBlock_8 : decode cX6_isBlock 8 = .ok (.isub, 1) := by decide +kernel
theorem dX6_isBlock_9 : decode cX6_isBlock 9 = .ok (.i2l, 1) := by decide +kernel
theorem dX6_isBlock_10 : decode cX6_isBlock 10 = .ok (.invokestatic 70, 3) := by decide +kernel
theorem dX6_isBlock_13 : decode cX6_isBlock 13 = .ok (.ireturn, 1) := by decide +kernel
theorem dX6_left_0 : decode cX6_left 0 = .ok (.aload_n 0, 1) := by decide +kernel
theorem dX6_left_1 : decode cX6_left 1 = .ok (.getfield 74, 3) := by decide +kernel
theorem dX6_left_4 : decode cX6_left 4 = .ok (.ifCond .ne 7, 3) := by decide +kernel
theorem dX6_left_7 : decode cX6_left 7 = .ok (.iconst 0, 1) := by decide +kernel
theorem dX6_left_8 : decode cX6_left 8 = .ok (.goto 26, 3) := by decide +kernel
theorem dX6_left_11 : decode cX6_left 11 = .ok (.aload_n 0, 1) := by decide +kernel
theorem dX6_left_12 : decode cX6_left 12 = .ok (.getfield 36, 3) := by decide +kernel
theorem dX6_left_15 : decode cX6_left 15 = .ok (.aload_n 0, 1) := by decide +kernel
theorem dX6_left_16 : decode cX6_left 16 = .ok (.getfield 74, 3) := by decide +kernel
theorem dX6_left_19 : decode cX6_left 19 = .ok (.iconst 1, 1) := by decide +kernel
theorem dX6_left_20 : decode cX6_left 20 = .ok (.isub, 1) := by decide +kernel
theorem dX6_left_21 : decode cX6_left 21 = .ok (.iaload, 1) := by decide +kernel
theorem dX6_left_22 : decode cX6_left 22 = .ok (.aload_n 0, 1) := by decide +kernel
theorem dX6_left_23 : decode cX6_left 23 = .ok (.getfield 39, 3) := by decide +kernel
theorem dX6_left_26 : decode cX6_left 26 = .ok (.aload_n 0, 1) := by decide +kernel
theorem dX6_left_27 : decode cX6_left 27 = .ok (.getfield 74, 3) := by decide +kernel
theorem dX6_left_30 : decode cX6_left 30 = .ok (.iconst 1, 1) := by decide +kernel
theorem dX6_left_31 : decode cX6_left 31 = .ok (.isub, 1) := by decide +kernel
theorem dX6_left_32 : decode cX6_left 32 = .ok (.iaload, 1) := by decide +kernel
theorem dX6_left_33 : decode cX6_left 33 = .ok (.isub, 1) := by decide +kernel
theorem dX6_left_34 : decode cX6_left 34 = .ok (.ireturn, 1) := by decide +kernel
theorem dX6_over_0 : decode cX6_over 0 = .ok (.aload_n 0, 1) := by decide +kernel
theorem dX6_over_1 : decode cX6_over 1 = .ok (.dup, 1) := by decide +kernel
theorem dX6_over_2 : decode cX6_over 2 = .ok (.getfield 74, 3) := by decide +kernel
theorem dX6_over_5 : decode cX6_over 5 = .ok (.iconst 1, 1) := by decide +kernel
theorem dX6_over_6 : decode cX6_over 6 = .ok (.isub, 1) := by decide +kernel
theorem dX6_over_7 : decode cX6_over 7 = .ok (.putfield 74, 3) := by decide +kernel
theorem dX6_over_10 : decode cX6_over 10 = .ok (.aload_n 0, 1) := by decide +kernel
theorem dX6_over_11 : decode cX6_over 11 = .ok (.getfield 74, 3) := by decide +kernel
theorem dX6_over_14 : decode cX6_over 14 = .ok (.ifCond .le 26, 3) := by decide +kernel
theorem dX6_over_17 : decode cX6_over 17 = .ok (.aload_n 0, 1) := by decide +kernel
theorem dX6_over_18 : decode cX6_over 18 = .ok (.getfield 39, 3) := by decide +kernel
theorem dX6_over_21 : decode cX6_over 21 = .ok (.aload_n 0, 1) := by decide +kernel
theorem dX6_over_22 : decode cX6_over 22 = .ok (.getfield 74, 3) := by decide +kernel
theorem dX6_over_25 : decode cX6_over 25 = .ok (.iconst 1, 1) := by decide +kernel
theorem dX6_over_26 : decode cX6_over 26 = .ok (.isub, 1) := by decide +kernel
theorem dX6_over_27 : decode cX6_over 27 = .ok (.dup2, 1) := by decide +kernel
theorem dX6_over_28 : decode cX6_over 28 = .ok (.iaload, 1) := by decide +kernel
theorem dX6_over_29 : decode cX6_over 29 = .ok (.aload_n 0, 1) := by decide +kernel
theorem dX6_over_30 : decode cX6_over 30 = .ok (.getfield 39, 3) := by decide +kernel
theorem dX6_over_33 : decode cX6_over 33 = .ok (.aload_n 0, 1) := by decide +kernel
theorem dX6_over_34 : decode cX6_over 34 = .ok (.getfield 74, 3) := by decide +kernel
theorem dX6_over_37 : decode cX6_over 37 = .ok (.iaload, 1) := by decide +kernel
theorem dX6_over_38 : decode cX6_over 38 = .ok (.iadd, 1) := by decide +kernel
theorem dX6_over_39 : decode cX6_over 39 = .ok (.iastore, 1) := by decide +kernel
theorem dX6_over_40 : decode cX6_over 40 = .ok (.return_, 1) := by decide +kernel
theorem dX6_fails_0 : decode cX6_fails 0 = .ok (.iconst 0, 1) := by decide +kernel
theorem dX6_fails_1 : decode cX6_fails 1 = .ok (.istore_n 1, 1) := by decide +kernel
theorem dX6_fails_2 : decode cX6_fails 2 = .ok (.iconst 1, 1) := by decide +kernel
theorem dX6_fails_3 : decode cX6_fails 3 = .ok (.istore_n 2, 1) := by decide +kernel
theorem dX6_fails_4 : decode cX6_fails 4 = .ok (.iload_n 2, 1) := by decide +kernel
theorem dX6_fails_5 : decode cX6_fails 5 = .ok (.ifCond .eq 65, 3) := by decide +kernel
theorem dX6_fails_8 : decode cX6_fails 8 = .ok (.aload_n 0, 1) := by decide +kernel
theorem dX6_fails_9 : decode cX6_fails 9 = .ok (.aload_n 0, 1) := by decide +kernel
theorem dX6_fails_10 : decode cX6_fails 10 = .ok (.getfield 45, 3) := by decide +kernel
theorem dX6_fails_13 : decode cX6_fails 13 = .ok (.aload_n 0, 1) := by decide +kernel
theorem dX6_fails_14 : decode cX6_fails 14 = .ok (.getfield 74, 3) := by decide +kernel
theorem dX6_fails_17 : decode cX6_fails 17 = .ok (.iconst 1, 1) := by decide +kernel
theorem dX6_fails_18 : decode cX6_fails 18 = .ok (.isub, 1) := by decide +kernel
theorem dX6_fails_19 : decode cX6_fails 19 = .ok (.iaload, 1) := by decide +kernel
theorem dX6_fails_20 : decode cX6_fails 20 = .ok (.putfield 77, 3) := by decide +kernel
theorem dX6_fails_23 : decode cX6_fails 23 = .ok (.aload_n 0, 1) := by decide +kernel
theorem dX6_fails_24 : decode cX6_fails 24 = .ok (.getfield 42, 3) := by decide +kernel
theorem dX6_fails_27 : decode cX6_fails 27 = .ok (.aload_n 0, 1) := by decide +kernel
theorem dX6_fails_28 : decode cX6_fails 28 = .ok (.getfield 74, 3) := by decide +kernel
theorem dX6_fails_31 : decode cX6_fails 31 = .ok (.iconst 1, 1) := by decide +kernel
theorem dX6_fails_32 : decode cX6_fails 32 = .ok (.isub, 1) := by decide +kernel
theorem dX6_fails_33 : decode cX6_fails 33 = .ok (.baload, 1) := by decide +kernel
theorem dX6_fails_34 : decode cX6_fails 34 = .ok (.ifCond .ne 7, 3) := by decide +kernel
theorem dX6_fails_37 : decode cX6_fails 37 = .ok (.iconst 1, 1) := by decide +kernel
theorem dX6_fails_38 : decode cX6_fails 38 = .ok (.goto 4, 3) := by decide +kernel
theorem dX6_fails_41 : decode cX6_fails 41 = .ok (.iconst 0, 1) := by decide +kernel
theorem dX6_fails_42 : decode cX6_fails 42 = .ok (.istore_n 2, 1) := by decide +kernel
theorem dX6_fails_43 : decode cX6_fails 43 = .ok (.aload_n 0, 1) := by decide +kernel
theorem dX6_fails_44 : decode cX6_fails 44 = .ok (.invokevirtual 80, 3) := by decide +kernel
theorem dX6_fails_47 : decode cX6_fails 47 = .ok (.iinc 1 1, 3) := by decide +kernel
theorem dX6_fails_50 : decode cX6_fails 50 = .ok (.iload_n 2, 1) := by decide +kernel
theorem dX6_fails_51 : decode cX6_fails 51 = .ok (.ifCond .eq 14, 3) := by decide +kernel
theorem dX6_fails_54 : decode cX6_fails 54 = .ok (.aload_n 0, 1) := by decide +kernel
theorem dX6_fails_55 : decode cX6_fails 55 = .ok (.getfield 74, 3) := by decide +kernel
theorem dX6_fails_58 : decode cX6_fails 58 = .ok (.ifCond .le 7, 3) := by decide +kernel
theorem dX6_fails_61 : decode cX6_fails 61 = .ok (.iconst 1, 1) := by decide +kernel
theorem dX6_fails_62 : decode cX6_fails 62 = .ok (.goto 4, 3) := by decide +kernel
theorem dX6_fails_65 : decode cX6_fails 65 = .ok (.iconst 0, 1) := by decide +kernel
theorem dX6_fails_66 : decode cX6_fails 66 = .ok (.istore_n 2, 1) := by decide +kernel
theorem dX6_fails_67 : decode cX6_fails 67 = .ok (.goto (-63), 3) := by decide +kernel
theorem dX6_fails_70 : decode cX6_fails 70 = .ok (.bipush (-20), 2) := by decide +kernel
theorem dX6_fails_72 : decode cX6_fails 72 = .ok (.iload_n 1, 1) := by decide +kernel
theorem dX6_fails_73 : decode cX6_fails 73 = .ok (.isub, 1) := by decide +kernel
theorem dX6_fails_74 : decode cX6_fails 74 = .ok (.ireturn, 1) := by decide +kernel
theorem dX6_begin_0 : decode cX6_begin 0 = .ok (.iload_n 1, 1) := by decide +kernel
theorem dX6_begin_1 : decode cX6_begin 1 = .ok (.i2l, 1) := by decide +kernel
theorem dX6_begin_2 : decode cX6_begin 2 = .ok (.lconst 0, 1) := by decide +kernel
theorem dX6_begin_3 : decode cX6_begin 3 = .ok (.ldc2_w 83, 3) := by decide +kernel
theorem dX6_begin_6 : decode cX6_begin 6 = .ok (.invokestatic 70, 3) := by decide +kernel
theorem dX6_begin_9 : decode cX6_begin 9 = .ok (.ifCond .ne 5, 3) := by decide +kernel
theorem dX6_begin_12 : decode cX6_begin 12 = .ok (.iconst (-1), 1) := by decide +kernel
theorem dX6_begin_13 : decode cX6_begin 13 = .ok (.ireturn, 1) := by decide +kernel
theorem dX6_begin_14 : decode cX6_begin 14 = .ok (.aload_n 0, 1) := by decide +kernel
theorem dX6_begin_15 : decode cX6_begin 15 = .ok (.getfield 74, 3) := by decide +kernel
theorem dX6_begin_18 : decode cX6_begin 18 = .ok (.bipush 8, 2) := by decide +kernel
theorem dX6_begin_20 : decode cX6_begin 20 = .ok (.if_icmp .ne 6, 3) := by decide +kernel
theorem dX6_begin_23 : decode cX6_begin 23 = .ok (.bipush (-3), 2) := by decide +kernel
theorem dX6_begin_25 : decode cX6_begin 25 = .ok (.ireturn, 1) := by decide +kernel
theorem dX6_begin_26 : decode cX6_begin 26 = .ok (.iload_n 1, 1) := by decide +kernel
theorem dX6_begin_27 : decode cX6_begin 27 = .ok (.istore_n 3, 1) := by decide +kernel
theorem dX6_begin_28 : decode cX6_begin 28 = .ok (.aload_n 0, 1) := by decide +kernel
theorem dX6_begin_29 : decode cX6_begin 29 = .ok (.getfield 74, 3) := by decide +kernel
theorem dX6_begin_32 : decode cX6_begin 32 = .ok (.ifCond .le 48, 3) := by decide +kernel
theorem dX6_begin_35 : decode cX6_begin 35 = .ok (.aload_n 0, 1) := by decide +kernel
theorem dX6_begin_36 : decode cX6_begin 36 = .ok (.invokevirtual 85, 3) := by decide +kernel
theorem dX6_begin_39 : decode cX6_begin 39 = .ok (.iconst 1, 1) := by decide +kernel
theorem dX6_begin_40 : decode cX6_begin 40 = .ok (.if_icmp .ge 8, 3) := by decide +kernel
theorem dX6_begin_43 : decode cX6_begin 43 = .ok (.aload_n 0, 1) := by decide +kernel
theorem dX6_begin_44 : decode cX6_begin 44 = .ok (.invokevirtual 89, 3) := by decide +kernel
theorem dX6_begin_47 : decode cX6_begin 47 = .ok (.ireturn, 1) := by decide +kernel
theorem dX6_begin_48 : decode cX6_begin 48 = .ok (.aload_n 0, 1) := by decide +kernel
theorem dX6_begin_49 : decode cX6_begin 49 = .ok (.getfield 39, 3) := by decide +kernel
theorem dX6_begin_52 : decode cX6_begin 52 = .ok (.aload_n 0, 1) := by decide +kernel
theorem dX6_begin_53 : decode cX6_begin 53 = .ok (.getfield 74, 3) := by decide +kernel
theorem dX6_begin_56 : decode cX6_begin 56 = .ok (.iconst 1, 1) := by decide +kernel
theorem dX6_begin_57 : decode cX6_begin 57 = .ok (.isub, 1) := by decide +kernel
theorem dX6_begin_58 : decode cX6_begin 58 = .ok (.dup2, 1) := by decide +kernel
theorem dX6_begin_59 : decode cX6_begin 59 = .ok (.iaload, 1) := by decide +kernel
theorem dX6_begin_60 : decode cX6_begin 60 = .ok (.iconst 1, 1) := by decide +kernel
theorem dX6_begin_61 : decode cX6_begin 61 = .ok (.iadd, 1) := by decide +kernel
theorem dX6_begin_62 : decode cX6_begin 62 = .ok (.iastore, 1) := by decide +kernel
theorem dX6_begin_63 : decode cX6_begin 63 = .ok (.aload_n 0, 1) := by decide +kernel
theorem dX6_begin_64 : decode cX6_begin 64 = .ok (.invokevirtual 85, 3) := by decide +kernel
theorem dX6_begin_67 : decode cX6_begin 67 = .ok (.iload_n 1, 1) := by decide +kernel
theorem dX6_begin_68 : decode cX6_begin 68 = .ok (.if_icmp .ge 10, 3) := by decide +kernel
theorem dX6_begin_71 : decode cX6_begin 71 = .ok (.aload_n 0, 1) := by decide +kernel
theorem dX6_begin_72 : decode cX6_begin 72 = .ok (.invokevirtual 85, 3) := by decide +kernel
theorem dX6_begin_75 : decode cX6_begin 75 = .ok (.goto 4, 3) := by decide +kernel
theorem dX6_begin_78 : decode cX6_begin 78 = .ok (.iload_n 1, 1) := by decide +kernel
theorem dX6_begin_79 : decode cX6_begin 79 = .ok (.istore_n 3, 1) := by decide +kernel
theorem dX6_begin_80 : decode cX6_begin 80 = .ok (.aload_n 0, 1) := by decide +kernel
theorem dX6_begin_81 : decode cX6_begin 81 = .ok (.getfield 36, 3) := by decide +kernel
theorem dX6_begin_84 : decode cX6_begin 84 = .ok (.aload_n 0, 1) := by decide +kernel
theorem dX6_begin_85 : decode cX6_begin 85 = .ok (.getfield 74, 3) := by decide +kernel
theorem dX6_begin_88 : decode cX6_begin 88 = .ok (.iload_n 3, 1) := by decide +kernel
theorem dX6_begin_89 : decode cX6_begin 89 = .ok (.iastore, 1) := by decide +kernel
theorem dX6_begin_90 : decode cX6_begin 90 = .ok (.aload_n 0, 1) := by decide +kernel
theorem dX6_begin_91 : decode cX6_begin 91 = .ok (.getfield 39, 3) := by decide +kernel
theorem dX6_begin_94 : decode cX6_begin 94 = .ok (.aload_n 0, 1) := by decide +kernel
theorem dX6_begin_95 : decode cX6_begin 95 = .ok (.getfield 74, 3) := by decide +kernel
theorem dX6_begin_98 : decode cX6_begin 98 = .ok (.iconst 0, 1) := by decide +kernel
theorem dX6_begin_99 : decode cX6_begin 99 = .ok (.iastore, 1) := by decide +kernel
theorem dX6_begin_100 : decode cX6_begin 100 = .ok (.aload_n 0, 1) := by decide +kernel
theorem dX6_begin_101 : decode cX6_begin 101 = .ok (.getfield 42, 3) := by decide +kernel
theorem dX6_begin_104 : decode cX6_begin 104 = .ok (.aload_n 0, 1) := by decide +kernel
theorem dX6_begin_105 : decode cX6_begin 105 = .ok (.getfield 74, 3) := by decide +kernel
theorem dX6_begin_108 : decode cX6_begin 108 = .ok (.iload_n 2, 1) := by decide +kernel
theorem dX6_begin_109 : decode cX6_begin 109 = .ok (.bastore, 1) := by decide +kernel
theorem dX6_begin_110 : decode cX6_begin 110 = .ok (.aload_n 0, 1) := by decide +kernel
theorem dX6_begin_111 : decode cX6_begin 111 = .ok (.getfield 45, 3) := by decide +kernel
theorem dX6_begin_114 : decode cX6_begin 114 = .ok (.aload_n 0, 1) := by decide +kernel
theorem dX6_begin_115 : decode cX6_begin 115 = .ok (.getfield 74, 3) := by decide +kernel
theorem dX6_begin_118 : decode cX6_begin 118 = .ok (.aload_n 0, 1) := by decide +kernel
theorem dX6_begin_119 : decode cX6_begin 119 = .ok (.getfield 77, 3) := by decide +kernel
theorem dX6_begin_122 : decode cX6_begin 122 = .ok (.iastore, 1) := by decide +kernel
theorem dX6_begin_123 : decode cX6_begin 123 = .ok (.aload_n 0, 1) := by decide +kernel
theorem dX6_begin_124 : decode cX6_begin 124 = .ok (.dup, 1) := by decide +kernel
theorem dX6_begin_125 : decode cX6_begin 125 = .ok (.getfield 74, 3) := by decide +kernel
theorem dX6_begin_128 : decode cX6_begin 128 = .ok (.iconst 1, 1) := by decide +kernel
theorem dX6_begin_129 : decode cX6_begin 129 = .ok (.iadd, 1) := by decide +kernel
theorem dX6_begin_130 : decode cX6_begin 130 = .ok (.putfield 74, 3) := by decide +kernel
theorem dX6_begin_133 : decode cX6_begin 133 = .ok (.aload_n 0, 1) := by decide +kernel
theorem dX6_begin_134 : decode cX6_begin 134 = .ok (.getfield 74, 3) := by decide +kernel
theorem dX6_begin_137 : decode cX6_begin 137 = .ok (.ireturn, 1) := by decide +kernel
theorem dX6_isEvent_0 : decode cX6_isEvent 0 = .ok (.iload_n 0, 1) := by decide +kernel
theorem dX6_isEvent_1 : decode cX6_isEvent 1 = .ok (.i2l, 1) := by decide +kernel
theorem dX6_isEvent_2 : decode cX6_isEvent 2 = .ok (.lconst 0, 1) := by decide +kernel
theorem dX6_isEvent_3 : decode cX6_isEvent 3 = .ok (.ldc2_w 92, 3) := by decide +kernel
theorem dX6_isEvent_6 : decode cX6_isEvent 6 = .ok (.invokestatic 70, 3) := by decide +kernel
theorem dX6_isEvent_9 : decode cX6_isEvent 9 = .ok (.ifCond .eq 57, 3) := by decide +kernel
theorem dX6_isEvent_12 : decode cX6_isEvent 12 = .ok (.iload_n 1, 1) := by decide +kernel
theorem dX6_isEvent_13 : decode cX6_isEvent 13 = .ok (.i2l, 1) := by decide +kernel
theorem dX6_isEvent_14 : decode cX6_isEvent 14 = .ok (.lconst 0, 1) := by decide +kernel
theorem dX6_isEvent_15 : decode cX6_isEvent 15 = .ok (.ldc2_w 94, 3) := by decide +kernel
theorem dX6_isEvent_18 : decode cX6_isEvent 18 = .ok (.invokestatic 70, 3) := by decide +kernel
theorem dX6_isEvent_21 : decode cX6_isEvent 21 = .ok (.ifCond .eq 45, 3) := by decide +kernel
theorem dX6_isEvent_24 : decode cX6_isEvent 24 = .ok (.iload_n 2, 1) := by decide +kernel
theorem dX6_isEvent_25 : decode cX6_isEvent 25 = .ok (.i2l, 1) := by decide +kernel
theorem dX6_isEvent_26 : decode cX6_isEvent 26 = .ok (.ldc2_w 96, 3) := by decide +kernel
theorem dX6_isEvent_29 : decode cX6_isEvent 29 = .ok (.ldc2_w 94, 3) := by decide +kernel
theorem dX6_isEvent_32 : decode cX6_isEvent 32 = .ok (.invokestatic 70, 3) := by decide +kernel
theorem dX6_isEvent_35 : decode cX6_isEvent 35 = .ok (.ifCond .eq 31, 3) := by decide +kernel
theorem dX6_isEvent_38 : decode cX6_isEvent 38 = .ok (.iload_n 3, 1) := by decide +kernel
theorem dX6_isEvent_39 : decode cX6_isEvent 39 = .ok (.i2l, 1) := by decide +kernel
theorem dX6_isEvent_40 : decode cX6_isEvent 40 = .ok (.ldc2_w 96, 3) := by decide +kernel
theorem dX6_isEvent_43 : decode cX6_isEvent 43 = .ok (.iload_n 2, 1) := by decide +kernel
theorem dX6_isEvent_44 : decode cX6_isEvent 44 = .ok (.ifCond .ge 9, 3) := by decide +kernel
theorem dX6_isEvent_47 : decode cX6_isEvent 47 = .ok (.ldc2_w 96, 3) := by decide +kernel
theorem dX6_isEvent_50 : decode cX6_isEvent 50 = .ok (.goto 6, 3) := by decide +kernel
theorem dX6_isEvent_53 : decode cX6_isEvent 53 = .ok (.ldc2_w 94, 3) := by decide +kernel
theorem dX6_isEvent_56 : decode cX6_isEvent 56 = .ok (.invokestatic 70, 3) := by decide +kernel
theorem dX6_isEvent_59 : decode cX6_isEvent 59 = .ok (.ifCond .eq 7, 3) := by decide +kernel
theorem dX6_isEvent_62 : decode cX6_isEvent 62 = .ok (.iconst 1, 1) := by decide +kernel
theorem dX6_isEvent_63 : decode cX6_isEvent 63 = .ok (.goto 4, 3) := by decide +kernel
theorem dX6_isEvent_66 : decode cX6_isEvent 66 = .ok (.iconst 0, 1) := by decide +kernel
theorem dX6_isEvent_67 : decode cX6_isEvent 67 = .ok (.ireturn, 1) := by decide +kernel
theorem dX6_tell_0 : decode cX6_tell 0 = .ok (.iload_n 1, 1) := by decide +kernel
theorem dX6_tell_1 : decode cX6_tell 1 = .ok (.iload_n 2, 1) := by decide +kernel
theorem dX6_tell_2 : decode cX6_tell 2 = .ok (.iload_n 3, 1) := by decide +kernel
theorem dX6_tell_3 : decode cX6_tell 3 = .ok (.iload 4, 2) := by decide +kernel
theorem dX6_tell_5 : decode cX6_tell 5 = .ok (.invokestatic 98, 3) := by decide +kernel
theorem dX6_tell_8 : decode cX6_tell 8 = .ok (.ifCond .ne 5, 3) := by decide +kernel
theorem dX6_tell_11 : decode cX6_tell 11 = .ok (.iconst (-1), 1) := by decide +kernel
theorem dX6_tell_12 : decode cX6_tell 12 = .ok (.ireturn, 1) := by decide +kernel
theorem dX6_tell_13 : decode cX6_tell 13 = .ok (.aload_n 0, 1) := by decide +kernel
theorem dX6_tell_14 : decode cX6_tell 14 = .ok (.getfield 74, 3) := by decide +kernel
theorem dX6_tell_17 : decode cX6_tell 17 = .ok (.ifCond .ne 6, 3) := by decide +kernel
theorem dX6_tell_20 : decode cX6_tell 20 = .ok (.bipush (-2), 2) := by decide +kernel
theorem dX6_tell_22 : decode cX6_tell 22 = .ok (.ireturn, 1) := by decide +kernel
theorem dX6_tell_23 : decode cX6_tell 23 = .ok (.aload_n 0, 1) := by decide +kernel
theorem dX6_tell_24 : decode cX6_tell 24 = .ok (.getfield 77, 3) := by decide +kernel
theorem dX6_tell_27 : decode cX6_tell 27 = .ok (.bipush 32, 2) := by decide +kernel
theorem dX6_tell_29 : decode cX6_tell 29 = .ok (.if_icmp .ne 6, 3) := by decide +kernel
theorem dX6_tell_32 : decode cX6_tell 32 = .ok (.bipush (-3), 2) := by decide +kernel
theorem dX6_tell_34 : decode cX6_tell 34 = .ok (.ireturn, 1) := by decide +kernel
theorem dX6_tell_35 : decode cX6_tell 35 = .ok (.iload_n 3, 1) := by decide +kernel
theorem dX6_tell_36 : decode cX6_tell 36 = .ok (.ifCond .ge 8, 3) := by decide +kernel
theorem dX6_tell_39 : decode cX6_tell 39 = .ok (.bipush 7, 2) := by decide +kernel
theorem dX6_tell_41 : decode cX6_tell 41 = .ok (.goto 15, 3) := by decide +kernel
theorem dX6_tell_44 : decode cX6_tell 44 = .ok (.iload 4, 2) := by decide +kernel
theorem dX6_tell_46 : decode cX6_tell 46 = .ok (.ifCond .ge 8, 3) := by decide +kernel
theorem dX6_tell_49 : decode cX6_tell 49 = .ok (.bipush 9, 2) := by decide +kernel
theorem dX6_tell_51 : decode cX6_tell 51 = .ok (.goto 5, 3) := by decide +kernel
theorem dX6_tell_54 : decode cX6_tell 54 = .ok (.bipush 11, 2) := by decide +kernel
theorem dX6_tell_56 : decode cX6_tell 56 = .ok (.istore 7, 2) := by decide +kernel
theorem dX6_tell_58 : decode cX6_tell 58 = .ok (.iload 7, 2) := by decide +kernel
theorem dX6_tell_60 : decode cX6_tell 60 = .ok (.aload_n 0, 1) := by decide +kernel
theorem dX6_tell_61 : decode cX6_tell 61 = .ok (.invokevirtual 85, 3) := by decide +kernel
theorem dX6_tell_64 : decode cX6_tell 64 = .ok (.if_icmp .le 8, 3) := by decide +kernel
theorem dX6_tell_67 : decode cX6_tell 67 = .ok (.aload_n 0, 1) := by decide +kernel
theorem dX6_tell_68 : decode cX6_tell 68 = .ok (.invokevirtual 89, 3) := by decide +kernel
theorem dX6_tell_71 : decode cX6_tell 71 = .ok (.ireturn, 1) := by decide +kernel
theorem dX6_tell_72 : decode cX6_tell 72 = .ok (.aload_n 0, 1) := by decide +kernel
theorem dX6_tell_73 : decode cX6_tell 73 = .ok (.getfield 39, 3) := by decide +kernel
theorem dX6_tell_76 : decode cX6_tell 76 = .ok (.aload_n 0, 1) := by decide +kernel
theorem dX6_tell_77 : decode cX6_tell 77 = .ok (.getfield 74, 3) := by decide +kernel
theorem dX6_tell_80 : decode cX6_tell 80 = .ok (.iconst 1, 1) := by decide +kernel
theorem dX6_tell_81 : decode cX6_tell 81 = .ok (.isub, 1) := by decide +kernel
theorem dX6_tell_82 : decode cX6_tell 82 = .ok (.dup2, 1) := by decide +kernel
theorem dX6_tell_83 : decode cX6_tell 83 = .ok (.iaload, 1) := by decide +kernel
theorem dX6_tell_84 : decode cX6_tell 84 = .ok (.iload 7, 2) := by decide +kernel
theorem dX6_tell_86 : decode cX6_tell 86 = .ok (.iadd, 1) := by decide +kernel
theorem dX6_tell_87 : decode cX6_tell 87 = .ok (.iastore, 1) := by decide +kernel
theorem dX6_tell_88 : decode cX6_tell 88 = .ok (.sipush 1280, 3) := by decide +kernel
theorem dX6_tell_91 : decode cX6_tell 91 = .ok (.aload_n 0, 1) := by decide +kernel
theorem dX6_tell_92 : decode cX6_tell 92 = .ok (.getfield 77, 3) := by decide +kernel
theorem dX6_tell_95 : decode cX6_tell 95 = .ok (.iadd, 1) := by decide +kernel
theorem dX6_tell_96 : decode cX6_tell 96 = .ok (.istore 8, 2) := by decide +kernel
theorem dX6_tell_98 : decode cX6_tell 98 = .ok (.aload_n 0, 1) := by decide +kernel
theorem dX6_tell_99 : decode cX6_tell 99 = .ok (.getfield 7, 3) := by decide +kernel
theorem dX6_tell_102 : decode cX6_tell 102 = .ok (.iload 8, 2) := by decide +kernel
theorem dX6_tell_104 : decode cX6_tell 104 = .ok (.iload_n 1, 1) := by decide +kernel
theorem dX6_tell_105 : decode cX6_tell 105 = .ok (.iastore, 1) := by decide +kernel
theorem dX6_tell_106 : decode cX6_tell 106 = .ok (.aload_n 0, 1) := by decide +kernel
theorem dX6_tell_107 : decode cX6_tell 107 = .ok (.getfield 13, 3) := by decide +kernel
theorem dX6_tell_110 : decode cX6_tell 110 = .ok (.iconst 3, 1) := by decide +kernel
theorem dX6_tell_111 : decode cX6_tell 111 = .ok (.iload 8, 2) := by decide +kernel
theorem dX6_tell_113 : decode cX6_tell 113 = .ok (.imul, 1) := by decide +kernel
theorem dX6_tell_114 : decode cX6_tell 114 = .ok (.iload_n 2, 1) := by decide +kernel
theorem dX6_tell_115 : decode cX6_tell 115 = .ok (.iastore, 1) := by decide +kernel
theorem dX6_tell_116 : decode cX6_tell 116 = .ok (.aload_n 0, 1) := by decide +kernel
theorem dX6_tell_117 : decode cX6_tell 117 = .ok (.getfield 13, 3) := by decide +kernel
theorem dX6_tell_120 : decode cX6_tell 120 = .ok (.iconst 3, 1) := by decide +kernel
theorem dX6_tell_121 : decode cX6_tell 121 = .ok (.iload 8, 2) := by decide +kernel
theorem dX6_tell_123 : decode cX6_tell 123 = .ok (.imul, 1) := by decide +kernel
theorem dX6_tell_124 : decode cX6_tell 124 = .ok (.iconst 1, 1) := by decide +kernel
theorem dX6_tell_125 : decode cX6_tell 125 = .ok (.iadd, 1) := by decide +kernel
theorem dX6_tell_126 : decode cX6_tell 126 = .ok (.iload_n 3, 1) := by decide +kernel
theorem dX6_tell_127 : decode cX6_tell 127 = .ok (.iastore, 1) := by decide +kernel
theorem dX6_tell_128 : decode cX6_tell 128 = .ok (.aload_n 0, 1) := by decide +kernel
theorem dX6_tell_129 : decode cX6_tell 129 = .ok (.getfield 13, 3) := by decide +kernel
theorem dX6_tell_132 : decode cX6_tell 132 = .ok (.iconst 3, 1) := by decide +kernel
theorem dX6_tell_133 : decode cX6_tell 133 = .ok (.iload 8, 2) := by decide +kernel
theorem dX6_tell_135 : decode cX6_tell 135 = .ok (.imul, 1) := by decide +kernel
theorem dX6_tell_136 : decode cX6_tell 136 = .ok (.iconst 2, 1) := by decide +kernel
theorem dX6_tell_137 : decode cX6_tell 137 = .ok (.iadd, 1) := by decide +kernel
theorem dX6_tell_138 : decode cX6_tell 138 = .ok (.iload 4, 2) := by decide +kernel
theorem dX6_tell_140 : decode cX6_tell 140 = .ok (.iastore, 1) := by decide +kernel
theorem dX6_tell_141 : decode cX6_tell 141 = .ok (.aload_n 0, 1) := by decide +kernel
theorem dX6_tell_142 : decode cX6_tell 142 = .ok (.getfield 16, 3) := by decide +kernel
theorem dX6_tell_145 : decode cX6_tell 145 = .ok (.iload 8, 2) := by decide +kernel
theorem dX6_tell_147 : decode cX6_tell 147 = .ok (.lload 5, 2) := by decide +kernel
theorem dX6_tell_149 : decode cX6_tell 149 = .ok (.lastore, 1) := by decide +kernel
theorem dX6_tell_150 : decode cX6_tell 150 = .ok (.aload_n 0, 1) := by decide +kernel
theorem dX6_tell_151 : decode cX6_tell 151 = .ok (.getfield 20, 3) := by decide +kernel
theorem dX6_tell_154 : decode cX6_tell 154 = .ok (.iload 8, 2) := by decide +kernel
theorem dX6_tell_156 : decode cX6_tell 156 = .ok (.aload_n 0, 1) := by decide +kernel
theorem dX6_tell_157 : decode cX6_tell 157 = .ok (.getfield 102, 3) := by decide +kernel
theorem dX6_tell_160 : decode cX6_tell 160 = .ok (.aload_n 0, 1) := by decide +kernel
theorem dX6_tell_161 : decode cX6_tell 161 = .ok (.getfield 77, 3) := by decide +kernel
theorem dX6_tell_164 : decode cX6_tell 164 = .ok (.iadd, 1) := by decide +kernel
theorem dX6_tell_165 : decode cX6_tell 165 = .ok (.iastore, 1) := by decide +kernel
theorem dX6_tell_166 : decode cX6_tell 166 = .ok (.aload_n 0, 1) := by decide +kernel
theorem dX6_tell_167 : decode cX6_tell 167 = .ok (.dup, 1) := by decide +kernel
theorem dX6_tell_168 : decode cX6_tell 168 = .ok (.getfield 77, 3) := by decide +kernel
theorem dX6_tell_171 : decode cX6_tell 171 = .ok (.iconst 1, 1) := by decide +kernel
theorem dX6_tell_172 : decode cX6_tell 172 = .ok (.iadd, 1) := by decide +kernel
theorem dX6_tell_173 : decode cX6_tell 173 = .ok (.putfield 77, 3) := by decide +kernel
theorem dX6_tell_176 : decode cX6_tell 176 = .ok (.aload_n 0, 1) := by decide +kernel
theorem dX6_tell_177 : decode cX6_tell 177 = .ok (.getfield 77, 3) := by decide +kernel
theorem dX6_tell_180 : decode cX6_tell 180 = .ok (.ireturn, 1) := by decide +kernel
theorem dX6_end_0 : decode cX6_end 0 = .ok (.aload_n 0, 1) := by decide +kernel
theorem dX6_end_1 : decode cX6_end 1 = .ok (.getfield 74, 3) := by decide +kernel
theorem dX6_end_4 : decode cX6_end 4 = .ok (.ifCond .ne 6, 3) := by decide +kernel
theorem dX6_end_7 : decode cX6_end 7 = .ok (.bipush (-2), 2) := by decide +kernel
theorem dX6_end_9 : decode cX6_end 9 = .ok (.ireturn, 1) := by decide +kernel
theorem dX6_end_10 : decode cX6_end 10 = .ok (.iload_n 1, 1) := by decide +kernel
theorem dX6_end_11 : decode cX6_end 11 = .ok (.ifCond .ne 8, 3) := by decide +kernel
theorem dX6_end_14 : decode cX6_end 14 = .ok (.aload_n 0, 1) := by decide +kernel
theorem dX6_end_15 : decode cX6_end 15 = .ok (.invokevirtual 89, 3) := by decide +kernel
theorem dX6_end_18 : decode cX6_end 18 = .ok (.ireturn, 1) := by decide +kernel
theorem dX6_end_19 : decode cX6_end 19 = .ok (.aload_n 0, 1) := by decide +kernel
theorem dX6_end_20 : decode cX6_end 20 = .ok (.getfield 39, 3) := by decide +kernel
theorem dX6_end_23 : decode cX6_end 23 = .ok (.aload_n 0, 1) := by decide +kernel
theorem dX6_end_24 : decode cX6_end 24 = .ok (.getfield 74, 3) := by decide +kernel
theorem dX6_end_27 : decode cX6_end 27 = .ok (.iconst 1, 1) := by decide +kernel
theorem dX6_end_28 : decode cX6_end 28 = .ok (.isub, 1) := by decide +kernel
theorem dX6_end_29 : decode cX6_end 29 = .ok (.iaload, 1) := by decide +kernel
theorem dX6_end_30 : decode cX6_end 30 = .ok (.istore_n 2, 1) := by decide +kernel
theorem dX6_end_31 : decode cX6_end 31 = .ok (.aload_n 0, 1) := by decide +kernel
theorem dX6_end_32 : decode cX6_end 32 = .ok (.invokevirtual 80, 3) := by decide +kernel
theorem dX6_end_35 : decode cX6_end 35 = .ok (.iload_n 2, 1) := by decide +kernel
theorem dX6_end_36 : decode cX6_end 36 = .ok (.ireturn, 1) := by decide +kernel
theorem dX6_told_0 : decode cX6_told 0 = .ok (.iload_n 1, 1) := by decide +kernel
theorem dX6_told_1 : decode cX6_told 1 = .ok (.tableswitch 101 0 6 #[43, 48, 71, 76, 81, 91, 96], 43) := by decide +kernel
theorem dX6_told_44 : decode cX6_told 44 = .ok (.aload_n 0, 1) := by decide +kernel
theorem dX6_told_45 : decode cX6_told 45 = .ok (.getfield 74, 3) := by decide +kernel
theorem dX6_told_48 : decode cX6_told 48 = .ok (.ireturn, 1) := by decide +kernel
theorem dX6_told_49 : decode cX6_told 49 = .ok (.aload_n 0, 1) := by decide +kernel
theorem dX6_told_50 : decode cX6_told 50 = .ok (.getfield 74, 3) := by decide +kernel
theorem dX6_told_53 : decode cX6_told 53 = .ok (.ifCond .ne 7, 3) := by decide +kernel
theorem dX6_told_56 : decode cX6_told 56 = .ok (.iconst 0, 1) := by decide +kernel
theorem dX6_told_57 : decode cX6_told 57 = .ok (.goto 14, 3) := by decide +kernel
theorem dX6_told_60 : decode cX6_told 60 = .ok (.aload_n 0, 1) := by decide +kernel
theorem dX6_told_61 : decode cX6_told 61 = .ok (.getfield 39, 3) := by decide +kernel
theorem dX6_told_64 : decode cX6_told 64 = .ok (.aload_n 0, 1) := by decide +kernel
theorem dX6_told_65 : decode cX6_told 65 = .ok (.getfield 74, 3) := by decide +kernel
theorem dX6_told_68 : decode cX6_told 68 = .ok (.iconst 1, 1) := by decide +kernel
theorem dX6_told_69 : decode cX6_told 69 = .ok (.isub, 1) := by decide +kernel
theorem dX6_told_70 : decode cX6_told 70 = .ok (.iaload, 1) := by decide +kernel
theorem dX6_told_71 : decode cX6_told 71 = .ok (.ireturn, 1) := by decide +kernel
theorem dX6_told_72 : decode cX6_told 72 = .ok (.aload_n 0, 1) := by decide +kernel
theorem dX6_told_73 : decode cX6_told 73 = .ok (.invokevirtual 85, 3) := by decide +kernel
theorem dX6_told_76 : decode cX6_told 76 = .ok (.ireturn, 1) := by decide +kernel
theorem dX6_told_77 : decode cX6_told 77 = .ok (.aload_n 0, 1) := by decide +kernel
theorem dX6_told_78 : decode cX6_told 78 = .ok (.getfield 77, 3) := by decide +kernel
theorem dX6_told_81 : decode cX6_told 81 = .ok (.ireturn, 1) := by decide +kernel
theorem dX6_told_82 : decode cX6_told 82 = .ok (.aload_n 0, 1) := by decide +kernel
theorem dX6_told_83 : decode cX6_told 83 = .ok (.getfield 102, 3) := by decide +kernel
theorem dX6_told_86 : decode cX6_told 86 = .ok (.aload_n 0, 1) := by decide +kernel
theorem dX6_told_87 : decode cX6_told 87 = .ok (.getfield 77, 3) := by decide +kernel
theorem dX6_told_90 : decode cX6_told 90 = .ok (.iadd, 1) := by decide +kernel
theorem dX6_told_91 : decode cX6_told 91 = .ok (.ireturn, 1) := by decide +kernel
theorem dX6_told_92 : decode cX6_told 92 = .ok (.aload_n 0, 1) := by decide +kernel
theorem dX6_told_93 : decode cX6_told 93 = .ok (.getfield 67, 3) := by decide +kernel
theorem dX6_told_96 : decode cX6_told 96 = .ok (.ireturn, 1) := by decide +kernel
theorem dX6_told_97 : decode cX6_told 97 = .ok (.aload_n 0, 1) := by decide +kernel
theorem dX6_told_98 : decode cX6_told 98 = .ok (.getfield 105, 3) := by decide +kernel
theorem dX6_told_101 : decode cX6_told 101 = .ok (.ireturn, 1) := by decide +kernel
theorem dX6_told_102 : decode cX6_told 102 = .ok (.iconst (-1), 1) := by decide +kernel
theorem dX6_told_103 : decode cX6_told 103 = .ok (.ireturn, 1) := by decide +kernel
theorem dX6_mix_0 : decode cX6_mix 0 = .ok (.ldc2_w 108, 3) := by decide +kernel
theorem dX6_mix_3 : decode cX6_mix 3 = .ok (.lload_n 0, 1) := by decide +kernel
theorem dX6_mix_4 : decode cX6_mix 4 = .ok (.lmul, 1) := by decide +kernel
theorem dX6_mix_5 : decode cX6_mix 5 = .ok (.lload_n 2, 1) := by decide +kernel
theorem dX6_mix_6 : decode cX6_mix 6 = .ok (.ladd, 1) := by decide +kernel
theorem dX6_mix_7 : decode cX6_mix 7 = .ok (.ldc2_w 110, 3) := by decide +kernel
theorem dX6_mix_10 : decode cX6_mix 10 = .ok (.ladd, 1) := by decide +kernel
theorem dX6_mix_11 : decode cX6_mix 11 = .ok (.ldc2_w 112, 3) := by decide +kernel
theorem dX6_mix_14 : decode cX6_mix 14 = .ok (.lmul, 1) := by decide +kernel
theorem dX6_mix_15 : decode cX6_mix 15 = .ok (.lstore 4, 2) := by decide +kernel
theorem dX6_mix_17 : decode cX6_mix 17 = .ok (.lload 4, 2) := by decide +kernel
theorem dX6_mix_19 : decode cX6_mix 19 = .ok (.lload 4, 2) := by decide +kernel
theorem dX6_mix_21 : decode cX6_mix 21 = .ok (.bipush 29, 2) := by decide +kernel
theorem dX6_mix_23 : decode cX6_mix 23 = .ok (.lushr, 1) := by decide +kernel
theorem dX6_mix_24 : decode cX6_mix 24 = .ok (.lxor, 1) := by decide +kernel
theorem dX6_mix_25 : decode cX6_mix 25 = .ok (.lreturn, 1) := by decide +kernel
theorem dX6_leaf_0 : decode cX6_leaf 0 = .ok (.iload_n 0, 1) := by decide +kernel
theorem dX6_leaf_1 : decode cX6_leaf 1 = .ok (.i2l, 1) := by decide +kernel
theorem dX6_leaf_2 : decode cX6_leaf 2 = .ok (.lload 4, 2) := by decide +kernel
theorem dX6_leaf_4 : decode cX6_leaf 4 = .ok (.invokestatic 114, 3) := by decide +kernel
theorem dX6_leaf_7 : decode cX6_leaf 7 = .ok (.iload_n 1, 1) := by decide +kernel
theorem dX6_leaf_8 : decode cX6_leaf 8 = .ok (.i2l, 1) := by decide +kernel
theorem dX6_leaf_9 : decode cX6_leaf 9 = .ok (.invokestatic 114, 3) := by decide +kernel
theorem dX6_leaf_12 : decode cX6_leaf 12 = .ok (.lstore 7, 2) := by decide +kernel
theorem dX6_leaf_14 : decode cX6_leaf 14 = .ok (.iload_n 2, 1) := by decide +kernel
theorem dX6_leaf_15 : decode cX6_leaf 15 = .ok (.ifCond .ge 8, 3) := by decide +kernel
theorem dX6_leaf_18 : decode cX6_leaf 18 = .ok (.lload 7, 2) := by decide +kernel
theorem dX6_leaf_20 : decode cX6_leaf 20 = .ok (.goto 10, 3) := by decide +kernel
theorem dX6_leaf_23 : decode cX6_leaf 23 = .ok (.lload 7, 2) := by decide +kernel
theorem dX6_leaf_25 : decode cX6_leaf 25 = .ok (.iload_n 2, 1) := by decide +kernel
theorem dX6_leaf_26 : decode cX6_leaf 26 = .ok (.i2l, 1) := by decide +kernel
theorem dX6_leaf_27 : decode cX6_leaf 27 = .ok (.invokestatic 114, 3) := by decide +kernel
theorem dX6_leaf_30 : decode cX6_leaf 30 = .ok (.lstore 7, 2) := by decide +kernel
theorem dX6_leaf_32 : decode cX6_leaf 32 = .ok (.iload_n 3, 1) := by decide +kernel
theorem dX6_leaf_33 : decode cX6_leaf 33 = .ok (.ifCond .ge 8, 3) := by decide +kernel
theorem dX6_leaf_36 : decode cX6_leaf 36 = .ok (.lload 7, 2) := by decide +kernel
theorem dX6_leaf_38 : decode cX6_leaf 38 = .ok (.goto 10, 3) := by decide +kernel
theorem dX6_leaf_41 : decode cX6_leaf 41 = .ok (.lload 7, 2) := by decide +kernel
theorem dX6_leaf_43 : decode cX6_leaf 43 = .ok (.iload_n 3, 1) := by decide +kernel
theorem dX6_leaf_44 : decode cX6_leaf 44 = .ok (.i2l, 1) := by decide +kernel
theorem dX6_leaf_45 : decode cX6_leaf 45 = .ok (.invokestatic 114, 3) := by decide +kernel
theorem dX6_leaf_48 : decode cX6_leaf 48 = .ok (.lstore 7, 2) := by decide +kernel
theorem dX6_leaf_50 : decode cX6_leaf 50 = .ok (.lload 7, 2) := by decide +kernel
theorem dX6_leaf_52 : decode cX6_leaf 52 = .ok (.iload 6, 2) := by decide +kernel
theorem dX6_leaf_54 : decode cX6_leaf 54 = .ok (.i2l, 1) := by decide +kernel
theorem dX6_leaf_55 : decode cX6_leaf 55 = .ok (.invokestatic 114, 3) := by decide +kernel
theorem dX6_leaf_58 : decode cX6_leaf 58 = .ok (.lreturn, 1) := by decide +kernel
theorem dX6_leaves_0 : decode cX6_leaves 0 = .ok (.iconst 0, 1) := by decide +kernel
theorem dX6_leaves_1 : decode cX6_leaves 1 = .ok (.istore_n 2, 1) := by decide +kernel
theorem dX6_leaves_2 : decode cX6_leaves 2 = .ok (.iload_n 2, 1) := by decide +kernel
theorem dX6_leaves_3 : decode cX6_leaves 3 = .ok (.aload_n 0, 1) := by decide +kernel
theorem dX6_leaves_4 : decode cX6_leaves 4 = .ok (.getfield 23, 3) := by decide +kernel
theorem dX6_leaves_7 : decode cX6_leaves 7 = .ok (.iload_n 1, 1) := by decide +kernel
theorem dX6_leaves_8 : decode cX6_leaves 8 = .ok (.iaload, 1) := by decide +kernel
theorem dX6_leaves_9 : decode cX6_leaves 9 = .ok (.if_icmp .ge 66, 3) := by decide +kernel
theorem dX6_leaves_12 : decode cX6_leaves 12 = .ok (.bipush 32, 2) := by decide +kernel
theorem dX6_leaves_14 : decode cX6_leaves 14 = .ok (.iload_n 1, 1) := by decide +kernel
theorem dX6_leaves_15 : decode cX6_leaves 15 = .ok (.imul, 1) := by decide +kernel
theorem dX6_leaves_16 : decode cX6_leaves 16 = .ok (.iload_n 2, 1) := by decide +kernel
theorem dX6_leaves_17 : decode cX6_leaves 17 = .ok (.iadd, 1) := by decide +kernel
theorem dX6_leaves_18 : decode cX6_leaves 18 = .ok (.istore_n 3, 1) := by decide +kernel
theorem dX6_leaves_19 : decode cX6_leaves 19 = .ok (.aload_n 0, 1) := by decide +kernel
theorem dX6_leaves_20 : decode cX6_leaves 20 = .ok (.getfield 60, 3) := by decide +kernel
theorem dX6_leaves_23 : decode cX6_leaves 23 = .ok (.iload_n 2, 1) := by decide +kernel
theorem dX6_leaves_24 : decode cX6_leaves 24 = .ok (.aload_n 0, 1) := by decide +kernel
theorem dX6_leaves_25 : decode cX6_leaves 25 = .ok (.getfield 7, 3) := by decide +kernel
theorem dX6_leaves_28 : decode cX6_leaves 28 = .ok (.iload_n 3, 1) := by decide +kernel
theorem dX6_leaves_29 : decode cX6_leaves 29 = .ok (.iaload, 1) := by decide +kernel
theorem dX6_leaves_30 : decode cX6_leaves 30 = .ok (.aload_n 0, 1) := by decide +kernel
theorem dX6_leaves_31 : decode cX6_leaves 31 = .ok (.getfield 13, 3) := by decide +kernel
theorem dX6_leaves_34 : decode cX6_leaves 34 = .ok (.iconst 3, 1) := by decide +kernel
theorem dX6_leaves_35 : decode cX6_leaves 35 = .ok (.iload_n 3, 1) := by decide +kernel
theorem dX6_leaves_36 : decode cX6_leaves 36 = .ok (.imul, 1) := by decide +kernel
theorem dX6_leaves_37 : decode cX6_leaves 37 = .ok (.iaload, 1) := by decide +kernel
theorem dX6_leaves_38 : decode cX6_leaves 38 = .ok (.aload_n 0, 1) := by decide +kernel
theorem dX6_leaves_39 : decode cX6_leaves 39 = .ok (.getfield 13, 3) := by decide +kernel
theorem dX6_leaves_42 : decode cX6_leaves 42 = .ok (.iconst 3, 1) := by decide +kernel
theorem dX6_leaves_43 : decode cX6_leaves 43 = .ok (.iload_n 3, 1) := by decide +kernel
theorem dX6_leaves_44 : decode cX6_leaves 44 = .ok (.imul, 1) := by decide +kernel
theorem dX6_leaves_45 : decode cX6_leaves 45 = .ok (.iconst 1, 1) := by decide +kernel
theorem dX6_leaves_46 : decode cX6_leaves 46 = .ok (.iadd, 1) := by decide +kernel
theorem dX6_leaves_47 : decode cX6_leaves 47 = .ok (.iaload, 1) := by decide +kernel
theorem dX6_leaves_48 : decode cX6_leaves 48 = .ok (.aload_n 0, 1) := by decide +kernel
theorem dX6_leaves_49 : decode cX6_leaves 49 = .ok (.getfield 13, 3) := by decide +kernel
theorem dX6_leaves_52 : decode cX6_leaves 52 = .ok (.iconst 3, 1) := by decide +kernel
theorem dX6_leaves_53 : decode cX6_leaves 53 = .ok (.iload_n 3, 1) := by decide +kernel
theorem dX6_leaves_54 : decode cX6_leaves 54 = .ok (.imul, 1) := by decide +kernel
theorem dX6_leaves_55 : decode cX6_leaves 55 = .ok (.iconst 2, 1) := by decide +kernel
theorem dX6_leaves_56 : decode cX6_leaves 56 = .ok (.iadd, 1) := by decide +kernel
theorem dX6_leaves_57 : decode cX6_leaves 57 = .ok (.iaload, 1) := by decide +kernel
theorem dX6_leaves_58 : decode cX6_leaves 58 = .ok (.aload_n 0, 1) := by decide +kernel
theorem dX6_leaves_59 : decode cX6_leaves 59 = .ok (.getfield 16, 3) := by decide +kernel
theorem dX6_leaves_62 : decode cX6_leaves 62 = .ok (.iload_n 3, 1) := by decide +kernel
theorem dX6_leaves_63 : decode cX6_leaves 63 = .ok (.laload, 1) := by decide +kernel
theorem dX6_leaves_64 : decode cX6_leaves 64 = .ok (.iload_n 2, 1) := by decide +kernel
theorem dX6_leaves_65 : decode cX6_leaves 65 = .ok (.invokestatic 118, 3) := by decide +kernel
theorem dX6_leaves_68 : decode cX6_leaves 68 = .ok (.lastore, 1) := by decide +kernel
theorem dX6_leaves_69 : decode cX6_leaves 69 = .ok (.iinc 2 1, 3) := by decide +kernel
theorem dX6_leaves_72 : decode cX6_leaves 72 = .ok (.goto (-70), 3) := by decide +kernel
theorem dX6_leaves_75 : decode cX6_leaves 75 = .ok (.return_, 1) := by decide +kernel
theorem dX6_rises_0 : decode cX6_rises 0 = .ok (.iconst 0, 1) := by decide +kernel
theorem dX6_rises_1 : decode cX6_rises 1 = .ok (.istore_n 2, 1) := by decide +kernel
theorem dX6_rises_2 : decode cX6_rises 2 = .ok (.iconst 2, 1) := by decide +kernel
theorem dX6_rises_3 : decode cX6_rises 3 = .ok (.iload_n 2, 1) := by decide +kernel
theorem dX6_rises_4 : decode cX6_rises 4 = .ok (.imul, 1) := by decide +kernel
theorem dX6_rises_5 : decode cX6_rises 5 = .ok (.iload_n 1, 1) := by decide +kernel
theorem dX6_rises_6 : decode cX6_rises 6 = .ok (.if_icmp .ge 56, 3) := by decide +kernel
theorem dX6_rises_9 : decode cX6_rises 9 = .ok (.aload_n 0, 1) := by decide +kernel
theorem dX6_rises_10 : decode cX6_rises 10 = .ok (.getfield 60, 3) := by decide +kernel
theorem dX6_rises_13 : decode cX6_rises 13 = .ok (.iload_n 2, 1) := by decide +kernel
theorem dX6_rises_14 : decode cX6_rises 14 = .ok (.iconst 2, 1) := by decide +kernel
theorem dX6_rises_15 : decode cX6_rises 15 = .ok (.iload_n 2, 1) := by decide +kernel
theorem dX6_rises_16 : decode cX6_rises 16 = .ok (.imul, 1) := by decide +kernel
theorem dX6_rises_17 : decode cX6_rises 17 = .ok (.iconst 1, 1) := by decide +kernel
theorem dX6_rises_18 : decode cX6_rises 18 = .ok (.iadd, 1) := by decide +kernel
theorem dX6_rises_19 : decode cX6_rises 19 = .ok (.iload_n 1, 1) := by decide +kernel
theorem dX6_rises_20 : decode cX6_rises 20 = .ok (.if_icmp .ge 27, 3) := by decide +kernel
theorem dX6_rises_23 : decode cX6_rises 23 = .ok (.aload_n 0, 1) := by decide +kernel
theorem dX6_rises_24 : decode cX6_rises 24 = .ok (.getfield 60, 3) := by decide +kernel
theorem dX6_rises_27 : decode cX6_rises 27 = .ok (.iconst 2, 1) := by decide +kernel
theorem dX6_rises_28 : decode cX6_rises 28 = .ok (.iload_n 2, 1) := by decide +kernel
theorem dX6_rises_29 : decode cX6_rises 29 = .ok (.imul, 1) := by decide +kernel
theorem dX6_rises_30 : decode cX6_rises 30 = .ok (.laload, 1) := by decide +kernel
theorem dX6_rises_31 : decode cX6_rises 31 = .ok (.aload_n 0, 1) := by decide +kernel
theorem dX6_rises_32 : decode cX6_rises 32 = .ok (.getfield 60, 3) := by decide +kernel
theorem dX6_rises_35 : decode cX6_rises 35 = .ok (.iconst 2, 1) := by decide +kernel
theorem dX6_rises_36 : decode cX6_rises 36 = .ok (.iload_n 2, 1) := by decide +kernel
theorem dX6_rises_37 : decode cX6_rises 37 = .ok (.imul, 1) := by decide +kernel
theorem dX6_rises_38 : decode cX6_rises 38 = .ok (.iconst 1, 1) := by decide +kernel
theorem dX6_rises_39 : decode cX6_rises 39 = .ok (.iadd, 1) := by decide +kernel
theorem dX6_rises_40 : decode cX6_rises 40 = .ok (.laload, 1) := by decide +kernel
theorem dX6_rises_41 : decode cX6_rises 41 = .ok (.invokestatic 114, 3) := by decide +kernel
theorem dX6_rises_44 : decode cX6_rises 44 = .ok (.goto 11, 3) := by decide +kernel
theorem dX6_rises_47 : decode cX6_rises 47 = .ok (.aload_n 0, 1) := by decide +kernel
theorem dX6_rises_48 : decode cX6_rises 48 = .ok (.getfield 60, 3) := by decide +kernel
theorem dX6_rises_51 : decode cX6_rises 51 = .ok (.iconst 2, 1) := by decide +kernel
theorem dX6_rises_52 : decode cX6_rises 52 = .ok (.iload_n 2, 1) := by decide +kernel
theorem dX6_rises_53 : decode cX6_rises 53 = .ok (.imul, 1) := by decide +kernel
theorem dX6_rises_54 : decode cX6_rises 54 = .ok (.laload, 1) := by decide +kernel
theorem dX6_rises_55 : decode cX6_rises 55 = .ok (.lastore, 1) := by decide +kernel
theorem dX6_rises_56 : decode cX6_rises 56 = .ok (.iinc 2 1, 3) := by decide +kernel
theorem dX6_rises_59 : decode cX6_rises 59 = .ok (.goto (-57), 3) := by decide +kernel
theorem dX6_rises_62 : decode cX6_rises 62 = .ok (.iload_n 1, 1) := by decide +kernel
theorem dX6_rises_63 : decode cX6_rises 63 = .ok (.iconst 1, 1) := by decide +kernel
theorem dX6_rises_64 : decode cX6_rises 64 = .ok (.iadd, 1) := by decide +kernel
theorem dX6_rises_65 : decode cX6_rises 65 = .ok (.iconst 2, 1) := by decide +kernel
theorem dX6_rises_66 : decode cX6_rises 66 = .ok (.idiv, 1) := by decide +kernel
theorem dX6_rises_67 : decode cX6_rises 67 = .ok (.ireturn, 1) := by decide +kernel
theorem dX6_bitsOf_0 : decode cX6_bitsOf 0 = .ok (.lconst 1, 1) := by decide +kernel
theorem dX6_bitsOf_1 : decode cX6_bitsOf 1 = .ok (.iload_n 0, 1) := by decide +kernel
theorem dX6_bitsOf_2 : decode cX6_bitsOf 2 = .ok (.bipush 64, 2) := by decide +kernel
theorem dX6_bitsOf_4 : decode cX6_bitsOf 4 = .ok (.irem, 1) := by decide +kernel
theorem dX6_bitsOf_5 : decode cX6_bitsOf 5 = .ok (.lshl, 1) := by decide +kernel
theorem dX6_bitsOf_6 : decode cX6_bitsOf 6 = .ok (.lconst 1, 1) := by decide +kernel
theorem dX6_bitsOf_7 : decode cX6_bitsOf 7 = .ok (.bipush 7, 2) := by decide +kernel
theorem dX6_bitsOf_9 : decode cX6_bitsOf 9 = .ok (.iload_n 0, 1) := by decide +kernel
theorem dX6_bitsOf_10 : decode cX6_bitsOf 10 = .ok (.imul, 1) := by decide +kernel
theorem dX6_bitsOf_11 : decode cX6_bitsOf 11 = .ok (.iconst 3, 1) := by decide +kernel
theorem dX6_bitsOf_12 : decode cX6_bitsOf 12 = .ok (.iadd, 1) := by decide +kernel
theorem dX6_bitsOf_13 : decode cX6_bitsOf 13 = .ok (.bipush 61, 2) := by decide +kernel
theorem dX6_bitsOf_15 : decode cX6_bitsOf 15 = .ok (.irem, 1) := by decide +kernel
theorem dX6_bitsOf_16 : decode cX6_bitsOf 16 = .ok (.lshl, 1) := by decide +kernel
theorem dX6_bitsOf_17 : decode cX6_bitsOf 17 = .ok (.lor, 1) := by decide +kernel
theorem dX6_bitsOf_18 : decode cX6_bitsOf 18 = .ok (.lconst 1, 1) := by decide +kernel
theorem dX6_bitsOf_19 : decode cX6_bitsOf 19 = .ok (.bipush 13, 2) := by decide +kernel
theorem dX6_bitsOf_21 : decode cX6_bitsOf 21 = .ok (.iload_n 0, 1) := by decide +kernel
theorem dX6_bitsOf_22 : decode cX6_bitsOf 22 = .ok (.imul, 1) := by decide +kernel
theorem dX6_bitsOf_23 : decode cX6_bitsOf 23 = .ok (.iconst 5, 1) := by decide +kernel
theorem dX6_bitsOf_24 : decode cX6_bitsOf 24 = .ok (.iadd, 1) := by decide +kernel
theorem dX6_bitsOf_25 : decode cX6_bitsOf 25 = .ok (.bipush 59, 2) := by decide +kernel
theorem dX6_bitsOf_27 : decode cX6_bitsOf 27 = .ok (.irem, 1) := by decide +kernel
theorem dX6_bitsOf_28 : decode cX6_bitsOf 28 = .ok (.lshl, 1) := by decide +kernel
theorem dX6_bitsOf_29 : decode cX6_bitsOf 29 = .ok (.lor, 1) := by decide +kernel
theorem dX6_bitsOf_30 : decode cX6_bitsOf 30 = .ok (.lreturn, 1) := by decide +kernel
theorem dX6_close_0 : decode cX6_close 0 = .ok (.aload_n 0, 1) := by decide +kernel
theorem dX6_close_1 : decode cX6_close 1 = .ok (.getfield 74, 3) := by decide +kernel
theorem dX6_close_4 : decode cX6_close 4 = .ok (.ifCond .le 6, 3) := by decide +kernel
theorem dX6_close_7 : decode cX6_close 7 = .ok (.bipush (-2), 2) := by decide +kernel
theorem dX6_close_9 : decode cX6_close 9 = .ok (.ireturn, 1) := by decide +kernel
theorem dX6_close_10 : decode cX6_close 10 = .ok (.aload_n 0, 1) := by decide +kernel
theorem dX6_close_11 : decode cX6_close 11 = .ok (.getfield 67, 3) := by decide +kernel
theorem dX6_close_14 : decode cX6_close 14 = .ok (.bipush 40, 2) := by decide +kernel
theorem dX6_close_16 : decode cX6_close 16 = .ok (.if_icmp .ne 6, 3) := by decide +kernel
theorem dX6_close_19 : decode cX6_close 19 = .ok (.bipush (-3), 2) := by decide +kernel
theorem dX6_close_21 : decode cX6_close 21 = .ok (.ireturn, 1) := by decide +kernel
theorem dX6_close_22 : decode cX6_close 22 = .ok (.aload_n 0, 1) := by decide +kernel
theorem dX6_close_23 : decode cX6_close 23 = .ok (.getfield 67, 3) := by decide +kernel
theorem dX6_close_26 : decode cX6_close 26 = .ok (.istore_n 1, 1) := by decide +kernel
theorem dX6_close_27 : decode cX6_close 27 = .ok (.aload_n 0, 1) := by decide +kernel
theorem dX6_close_28 : decode cX6_close 28 = .ok (.getfield 23, 3) := by decide +kernel
theorem dX6_close_31 : decode cX6_close 31 = .ok (.iload_n 1, 1) := by decide +kernel
theorem dX6_close_32 : decode cX6_close 32 = .ok (.aload_n 0, 1) := by decide +kernel
theorem dX6_close_33 : decode cX6_close 33 = .ok (.getfield 77, 3) := by decide +kernel
theorem dX6_close_36 : decode cX6_close 36 = .ok (.iastore, 1) := by decide +kernel
theorem dX6_close_37 : decode cX6_close 37 = .ok (.aload_n 0, 1) := by decide +kernel
theorem dX6_close_38 : decode cX6_close 38 = .ok (.getfield 26, 3) := by decide +kernel
theorem dX6_close_41 : decode cX6_close 41 = .ok (.iload_n 1, 1) := by decide +kernel
theorem dX6_close_42 : decode cX6_close 42 = .ok (.iconst 0, 1) := by decide +kernel
theorem dX6_close_43 : decode cX6_close 43 = .ok (.bastore, 1) := by decide +kernel
theorem dX6_close_44 : decode cX6_close 44 = .ok (.aload_n 0, 1) := by decide +kernel
theorem dX6_close_45 : decode cX6_close 45 = .ok (.getfield 33, 3) := by decide +kernel
theorem dX6_close_48 : decode cX6_close 48 = .ok (.iload_n 1, 1) := by decide +kernel
theorem dX6_close_49 : decode cX6_close 49 = .ok (.lconst 0, 1) := by decide +kernel
theorem dX6_close_50 : decode cX6_close 50 = .ok (.lastore, 1) := by decide +kernel
theorem dX6_close_51 : decode cX6_close 51 = .ok (.iconst 0, 1) := by decide +kernel
theorem dX6_close_52 : decode cX6_close 52 = .ok (.istore_n 2, 1) := by decide +kernel
theorem dX6_close_53 : decode cX6_close 53 = .ok (.iload_n 2, 1) := by decide +kernel
theorem dX6_close_54 : decode cX6_close 54 = .ok (.aload_n 0, 1) := by decide +kernel
theorem dX6_close_55 : decode cX6_close 55 = .ok (.getfield 77, 3) := by decide +kernel
theorem dX6_close_58 : decode cX6_close 58 = .ok (.if_icmp .ge 127, 3) := by decide +kernel
theorem dX6_close_61 : decode cX6_close 61 = .ok (.bipush 32, 2) := by decide +kernel
theorem dX6_close_63 : decode cX6_close 63 = .ok (.iload_n 1, 1) := by decide +kernel
theorem dX6_close_64 : decode cX6_close 64 = .ok (.imul, 1) := by decide +kernel
theorem dX6_close_65 : decode cX6_close 65 = .ok (.iload_n 2, 1) := by decide +kernel
theorem dX6_close_66 : decode cX6_close 66 = .ok (.iadd, 1) := by decide +kernel
theorem dX6_close_67 : decode cX6_close 67 = .ok (.istore_n 3, 1) := by decide +kernel
theorem dX6_close_68 : decode cX6_close 68 = .ok (.sipush 1280, 3) := by decide +kernel
theorem dX6_close_71 : decode cX6_close 71 = .ok (.iload_n 2, 1) := by decide +kernel
theorem dX6_close_72 : decode cX6_close 72 = .ok (.iadd, 1) := by decide +kernel
theorem dX6_close_73 : decode cX6_close 73 = .ok (.istore 4, 2) := by decide +kernel
theorem dX6_close_75 : decode cX6_close 75 = .ok (.aload_n 0, 1) := by decide +kernel
theorem dX6_close_76 : decode cX6_close 76 = .ok (.getfield 7, 3) := by decide +kernel
theorem dX6_close_79 : decode cX6_close 79 = .ok (.iload_n 3, 1) := by decide +kernel
theorem dX6_close_80 : decode cX6_close 80 = .ok (.aload_n 0, 1) := by decide +kernel
theorem dX6_close_81 : decode cX6_close 81 = .ok (.getfield 7, 3) := by decide +kernel
theorem dX6_close_84 : decode cX6_close 84 = .ok (.iload 4, 2) := by decide +kernel
theorem dX6_close_86 : decode cX6_close 86 = .ok (.iaload, 1) := by decide +kernel
theorem dX6_close_87 : decode cX6_close 87 = .ok (.iastore, 1) := by decide +kernel
theorem dX6_close_88 : decode cX6_close 88 = .ok (.aload_n 0, 1) := by decide +kernel
theorem dX6_close_89 : decode cX6_close 89 = .ok (.getfield 16, 3) := by decide +kernel
theorem dX6_close_92 : decode cX6_close 92 = .ok (.iload_n 3, 1) := by decide +kernel
theorem dX6_close_93 : decode cX6_close 93 = .ok (.aload_n 0, 1) := by decide +kernel
theorem dX6_close_94 : decode cX6_close 94 = .ok (.getfield 16, 3) := by decide +kernel
theorem dX6_close_97 : decode cX6_close 97 = .ok (.iload 4, 2) := by decide +kernel
theorem dX6_close_99 : decode cX6_close 99 = .ok (.laload, 1) := by decide +kernel
theorem dX6_close_100 : decode cX6_close 100 = .ok (.lastore, 1) := by decide +kernel
theorem dX6_close_101 : decode cX6_close 101 = .ok (.aload_n 0, 1) := by decide +kernel
theorem dX6_close_102 : decode cX6_close 102 = .ok (.getfield 20, 3) := by decide +kernel
theorem dX6_close_105 : decode cX6_close 105 = .ok (.iload_n 3, 1) := by decide +kernel
theorem dX6_close_106 : decode cX6_close 106 = .ok (.aload_n 0, 1) := by decide +kernel
theorem dX6_close_107 : decode cX6_close 107 = .ok (.getfield 20, 3) := by decide +kernel
theorem dX6_close_110 : decode cX6_close 110 = .ok (.iload 4, 2) := by decide +kernel
theorem dX6_close_112 : decode cX6_close 112 = .ok (.iaload, 1) := by decide +kernel
theorem dX6_close_113 : decode cX6_close 113 = .ok (.iastore, 1) := by decide +kernel
theorem dX6_close_114 : decode cX6_close 114 = .ok (.iconst 0, 1) := by decide +kernel
theorem dX6_close_115 : decode cX6_close 115 = .ok (.istore 5, 2) := by decide +kernel
theorem dX6_close_117 : decode cX6_close 117 = .ok (.iload 5, 2) := by decide +kernel
theorem dX6_close_119 : decode cX6_close 119 = .ok (.iconst 3, 1) := by decide +kernel
theorem dX6_close_120 : decode cX6_close 120 = .ok (.if_icmp .ge 59, 3) := by decide +kernel
theorem dX6_close_123 : decode cX6_close 123 = .ok (.aload_n 0, 1) := by decide +kernel
theorem dX6_close_124 : decode cX6_close 124 = .ok (.getfield 13, 3) := by decide +kernel
theorem dX6_close_127 : decode cX6_close 127 = .ok (.iconst 3, 1) := by decide +kernel
theorem dX6_close_128 : decode cX6_close 128 = .ok (.iload 4, 2) := by decide +kernel
theorem dX6_close_130 : decode cX6_close 130 = .ok (.imul, 1) := by decide +kernel
theorem dX6_close_131 : decode cX6_close 131 = .ok (.iload 5, 2) := by decide +kernel
theorem dX6_close_133 : decode cX6_close 133 = .ok (.iadd, 1) := by decide +kernel
theorem dX6_close_134 : decode cX6_close 134 = .ok (.iaload, 1) := by decide +kernel
theorem dX6_close_135 : decode cX6_close 135 = .ok (.istore 6, 2) := by decide +kernel
theorem dX6_close_137 : decode cX6_close 137 = .ok (.aload_n 0, 1) := by decide +kernel
theorem dX6_close_138 : decode cX6_close 138 = .ok (.getfield 13, 3) := by decide +kernel
theorem dX6_close_141 : decode cX6_close 141 = .ok (.iconst 3, 1) := by decide +kernel
theorem dX6_close_142 : decode cX6_close 142 = .ok (.iload_n 3, 1) := by decide +kernel
theorem dX6_close_143 : decode cX6_close 143 = .ok (.imul, 1) := by decide +kernel
theorem dX6_close_144 : decode cX6_close 144 = .ok (.iload 5, 2) := by decide +kernel
theorem dX6_close_146 : decode cX6_close 146 = .ok (.iadd, 1) := by decide +kernel
theorem dX6_close_147 : decode cX6_close 147 = .ok (.iload 6, 2) := by decide +kernel
theorem dX6_close_149 : decode cX6_close 149 = .ok (.iastore, 1) := by decide +kernel
theorem dX6_close_150 : decode cX6_close 150 = .ok (.aload_n 0, 1) := by decide +kernel
theorem dX6_close_151 : decode cX6_close 151 = .ok (.getfield 33, 3) := by decide +kernel
theorem dX6_close_154 : decode cX6_close 154 = .ok (.iload_n 1, 1) := by decide +kernel
theorem dX6_close_155 : decode cX6_close 155 = .ok (.dup2, 1) := by decide +kernel
theorem dX6_close_156 : decode cX6_close 156 = .ok (.laload, 1) := by decide +kernel
theorem dX6_close_157 : decode cX6_close 157 = .ok (.iload 6, 2) := by decide +kernel
theorem dX6_close_159 : decode cX6_close 159 = .ok (.ifCond .ge 7, 3) := by decide +kernel
theorem dX6_close_162 : decode cX6_close 162 = .ok (.lconst 0, 1) := by decide +kernel
theorem dX6_close_163 : decode cX6_close 163 = .ok (.goto 8, 3) := by decide +kernel
theorem dX6_close_166 : decode cX6_close 166 = .ok (.iload 6, 2) := by decide +kernel
theorem dX6_close_168 : decode cX6_close 168 = .ok (.invokestatic 122, 3) := by decide +kernel
theorem dX6_close_171 : decode cX6_close 171 = .ok (.lor, 1) := by decide +kernel
theorem dX6_close_172 : decode cX6_close 172 = .ok (.lastore, 1) := by decide +kernel
theorem dX6_close_173 : decode cX6_close 173 = .ok (.iinc 5 1, 3) := by decide +kernel
theorem dX6_close_176 : decode cX6_close 176 = .ok (.goto (-59), 3) := by decide +kernel
theorem dX6_close_179 : decode cX6_close 179 = .ok (.iinc 2 1, 3) := by decide +kernel
theorem dX6_close_182 : decode cX6_close 182 = .ok (.goto (-129), 3) := by decide +kernel
theorem dX6_close_185 : decode cX6_close 185 = .ok (.aload_n 0, 1) := by decide +kernel
theorem dX6_close_186 : decode cX6_close 186 = .ok (.iload_n 1, 1) := by decide +kernel
theorem dX6_close_187 : decode cX6_close 187 = .ok (.invokevirtual 126, 3) := by decide +kernel
theorem dX6_close_190 : decode cX6_close 190 = .ok (.aload_n 0, 1) := by decide +kernel
theorem dX6_close_191 : decode cX6_close 191 = .ok (.getfield 77, 3) := by decide +kernel
theorem dX6_close_194 : decode cX6_close 194 = .ok (.istore_n 2, 1) := by decide +kernel
theorem dX6_close_195 : decode cX6_close 195 = .ok (.iload_n 2, 1) := by decide +kernel
theorem dX6_close_196 : decode cX6_close 196 = .ok (.iconst 1, 1) := by decide +kernel
theorem dX6_close_197 : decode cX6_close 197 = .ok (.if_icmp .le 12, 3) := by decide +kernel
theorem dX6_close_200 : decode cX6_close 200 = .ok (.aload_n 0, 1) := by decide +kernel
theorem dX6_close_201 : decode cX6_close 201 = .ok (.iload_n 2, 1) := by decide +kernel
theorem dX6_close_202 : decode cX6_close 202 = .ok (.invokevirtual 130, 3) := by decide +kernel
theorem dX6_close_205 : decode cX6_close 205 = .ok (.istore_n 2, 1) := by decide +kernel
theorem dX6_close_206 : decode cX6_close 206 = .ok (.goto (-11), 3) := by decide +kernel
theorem dX6_close_209 : decode cX6_close 209 = .ok (.aload_n 0, 1) := by decide +kernel
theorem dX6_close_210 : decode cX6_close 210 = .ok (.getfield 30, 3) := by decide +kernel
theorem dX6_close_213 : decode cX6_close 213 = .ok (.iload_n 1, 1) := by decide +kernel
theorem dX6_close_214 : decode cX6_close 214 = .ok (.aload_n 0, 1) := by decide +kernel
theorem dX6_close_215 : decode cX6_close 215 = .ok (.getfield 77, 3) := by decide +kernel
theorem dX6_close_218 : decode cX6_close 218 = .ok (.ifCond .ne 7, 3) := by decide +kernel
theorem dX6_close_221 : decode cX6_close 221 = .ok (.lconst 0, 1) := by decide +kernel
theorem dX6_close_222 : decode cX6_close 222 = .ok (.goto 9, 3) := by decide +kernel
theorem dX6_close_225 : decode cX6_close 225 = .ok (.aload_n 0, 1) := by decide +kernel
theorem dX6_close_226 : decode cX6_close 226 = .ok (.getfield 60, 3) := by decide +kernel
theorem dX6_close_229 : decode cX6_close 229 = .ok (.iconst 0, 1) := by decide +kernel
theorem dX6_close_230 : decode cX6_close 230 = .ok (.laload, 1) := by decide +kernel
theorem dX6_close_231 : decode cX6_close 231 = .ok (.lastore, 1) := by decide +kernel
theorem dX6_close_232 : decode cX6_close 232 = .ok (.aload_n 0, 1) := by decide +kernel
theorem dX6_close_233 : decode cX6_close 233 = .ok (.dup, 1) := by decide +kernel
theorem dX6_close_234 : decode cX6_close 234 = .ok (.getfield 102, 3) := by decide +kernel
theorem dX6_close_237 : decode cX6_close 237 = .ok (.aload_n 0, 1) := by decide +kernel
theorem dX6_close_238 : decode cX6_close 238 = .ok (.getfield 77, 3) := by decide +kernel
theorem dX6_close_241 : decode cX6_close 241 = .ok (.iadd, 1) := by decide +kernel
theorem dX6_close_242 : decode cX6_close 242 = .ok (.putfield 102, 3) := by decide +kernel
theorem dX6_close_245 : decode cX6_close 245 = .ok (.aload_n 0, 1) := by decide +kernel
theorem dX6_close_246 : decode cX6_close 246 = .ok (.iconst 0, 1) := by decide +kernel
theorem dX6_close_247 : decode cX6_close 247 = .ok (.putfield 77, 3) := by decide +kernel
theorem dX6_close_250 : decode cX6_close 250 = .ok (.aload_n 0, 1) := by decide +kernel
theorem dX6_close_251 : decode cX6_close 251 = .ok (.dup, 1) := by decide +kernel
theorem dX6_close_252 : decode cX6_close 252 = .ok (.getfield 67, 3) := by decide +kernel
theorem dX6_close_255 : decode cX6_close 255 = .ok (.iconst 1, 1) := by decide +kernel
theorem dX6_close_256 : decode cX6_close 256 = .ok (.iadd, 1) := by decide +kernel
theorem dX6_close_257 : decode cX6_close 257 = .ok (.putfield 67, 3) := by decide +kernel
theorem dX6_close_260 : decode cX6_close 260 = .ok (.iload_n 1, 1) := by decide +kernel
theorem dX6_close_261 : decode cX6_close 261 = .ok (.ireturn, 1) := by decide +kernel
theorem dX6_back_0 : decode cX6_back 0 = .ok (.iload_n 1, 1) := by decide +kernel
theorem dX6_back_1 : decode cX6_back 1 = .ok (.i2l, 1) := by decide +kernel
theorem dX6_back_2 : decode cX6_back 2 = .ok (.lconst 0, 1) := by decide +kernel
theorem dX6_back_3 : decode cX6_back 3 = .ok (.aload_n 0, 1) := by decide +kernel
theorem dX6_back_4 : decode cX6_back 4 = .ok (.getfield 67, 3) := by decide +kernel
theorem dX6_back_7 : decode cX6_back 7 = .ok (.i2l, 1) := by decide +kernel
theorem dX6_back_8 : decode cX6_back 8 = .ok (.invokestatic 70, 3) := by decide +kernel
theorem dX6_back_11 : decode cX6_back 11 = .ok (.ifCond .ne 5, 3) := by decide +kernel
theorem dX6_back_14 : decode cX6_back 14 = .ok (.iconst (-1), 1) := by decide +kernel
theorem dX6_back_15 : decode cX6_back 15 = .ok (.ireturn, 1) := by decide +kernel
theorem dX6_back_16 : decode cX6_back 16 = .ok (.aload_n 0, 1) := by decide +kernel
theorem dX6_back_17 : decode cX6_back 17 = .ok (.getfield 74, 3) := by decide +kernel
theorem dX6_back_20 : decode cX6_back 20 = .ok (.ifCond .le 6, 3) := by decide +kernel
theorem dX6_back_23 : decode cX6_back 23 = .ok (.bipush (-2), 2) := by decide +kernel
theorem dX6_back_25 : decode cX6_back 25 = .ok (.ireturn, 1) := by decide +kernel
theorem dX6_back_26 : decode cX6_back 26 = .ok (.iconst 0, 1) := by decide +kernel
theorem dX6_back_27 : decode cX6_back 27 = .ok (.istore_n 2, 1) := by decide +kernel
theorem dX6_back_28 : decode cX6_back 28 = .ok (.iconst 0, 1) := by decide +kernel
theorem dX6_back_29 : decode cX6_back 29 = .ok (.istore_n 3, 1) := by decide +kernel
theorem dX6_back_30 : decode cX6_back 30 = .ok (.iload_n 3, 1) := by decide +kernel
theorem dX6_back_31 : decode cX6_back 31 = .ok (.iload_n 1, 1) := by decide +kernel
theorem dX6_back_32 : decode cX6_back 32 = .ok (.if_icmp .ge 47, 3) := by decide +kernel
theorem dX6_back_35 : decode cX6_back 35 = .ok (.aload_n 0, 1) := by decide +kernel
theorem dX6_back_36 : decode cX6_back 36 = .ok (.dup, 1) := by decide +kernel
theorem dX6_back_37 : decode cX6_back 37 = .ok (.getfield 67, 3) := by decide +kernel
theorem dX6_back_40 : decode cX6_back 40 = .ok (.iconst 1, 1) := by decide +kernel
theorem dX6_back_41 : decode cX6_back 41 = .ok (.isub, 1) := by decide +kernel
theorem dX6_back_42 : decode cX6_back 42 = .ok (.putfield 67, 3) := by decide +kernel
theorem dX6_back_45 : decode cX6_back 45 = .ok (.iload_n 2, 1) := by decide +kernel
theorem dX6_back_46 : decode cX6_back 46 = .ok (.aload_n 0, 1) := by decide +kernel
theorem dX6_back_47 : decode cX6_back 47 = .ok (.getfield 26, 3) := by decide +kernel
theorem dX6_back_50 : decode cX6_back 50 = .ok (.aload_n 0, 1) := by decide +kernel
theorem dX6_back_51 : decode cX6_back 51 = .ok (.getfield 67, 3) := by decide +kernel
theorem dX6_back_54 : decode cX6_back 54 = .ok (.baload, 1) := by decide +kernel
theorem dX6_back_55 : decode cX6_back 55 = .ok (.ifCond .eq 7, 3) := by decide +kernel
theorem dX6_back_58 : decode cX6_back 58 = .ok (.iconst 0, 1) := by decide +kernel
theorem dX6_back_59 : decode cX6_back 59 = .ok (.goto 12, 3) := by decide +kernel
theorem dX6_back_62 : decode cX6_back 62 = .ok (.aload_n 0, 1) := by decide +kernel
theorem dX6_back_63 : decode cX6_back 63 = .ok (.getfield 23, 3) := by decide +kernel
theorem dX6_back_66 : decode cX6_back 66 = .ok (.aload_n 0, 1) := by decide +kernel
theorem dX6_back_67 : decode cX6_back 67 = .ok (.getfield 67, 3) := by decide +kernel
theorem dX6_back_70 : decode cX6_back 70 = .ok (.iaload, 1) := by decide +kernel
theorem dX6_back_71 : decode cX6_back 71 = .ok (.iadd, 1) := by decide +kernel
theorem dX6_back_72 : decode cX6_back 72 = .ok (.istore_n 2, 1) := by decide +kernel
theorem dX6_back_73 : decode cX6_back 73 = .ok (.iinc 3 1, 3) := by decide +kernel
theorem dX6_back_76 : decode cX6_back 76 = .ok (.goto (-46), 3) := by decide +kernel
theorem dX6_back_79 : decode cX6_back 79 = .ok (.iconst 0, 1) := by decide +kernel
theorem dX6_back_80 : decode cX6_back 80 = .ok (.istore_n 3, 1) := by decide +kernel
theorem dX6_back_81 : decode cX6_back 81 = .ok (.iload_n 3, 1) := by decide +kernel
theorem dX6_back_82 : decode cX6_back 82 = .ok (.aload_n 0, 1) := by decide +kernel
theorem dX6_back_83 : decode cX6_back 83 = .ok (.getfield 105, 3) := by decide +kernel
theorem dX6_back_86 : decode cX6_back 86 = .ok (.if_icmp .ge 39, 3) := by decide +kernel
theorem dX6_back_89 : decode cX6_back 89 = .ok (.aload_n 0, 1) := by decide +kernel
theorem dX6_back_90 : decode cX6_back 90 = .ok (.getfield 54, 3) := by decide +kernel
theorem dX6_back_93 : decode cX6_back 93 = .ok (.iload_n 3, 1) := by decide +kernel
theorem dX6_back_94 : decode cX6_back 94 = .ok (.iaload, 1) := by decide +kernel
theorem dX6_back_95 : decode cX6_back 95 = .ok (.aload_n 0, 1) := by decide +kernel
theorem dX6_back_96 : decode cX6_back 96 = .ok (.getfield 67, 3) := by decide +kernel
theorem dX6_back_99 : decode cX6_back 99 = .ok (.if_icmp .lt 20, 3) := by decide +kernel
theorem dX6_back_102 : decode cX6_back 102 = .ok (.aload_n 0, 1) := by decide +kernel
theorem dX6_back_103 : decode cX6_back 103 = .ok (.getfield 54, 3) := by decide +kernel
theorem dX6_back_106 : decode cX6_back 106 = .ok (.iload_n 3, 1) := by decide +kernel
theorem dX6_back_107 : decode cX6_back 107 = .ok (.aload_n 0, 1) := by decide +kernel
theorem dX6_back_108 : decode cX6_back 108 = .ok (.getfield 67, 3) := by decide +kernel
theorem dX6_back_111 : decode cX6_back 111 = .ok (.iastore, 1) := by decide +kernel
theorem dX6_back_112 : decode cX6_back 112 = .ok (.aload_n 0, 1) := by decide +kernel
theorem dX6_back_113 : decode cX6_back 113 = .ok (.getfield 57, 3) := by decide +kernel
theorem dX6_back_116 : decode cX6_back 116 = .ok (.iload_n 3, 1) := by decide +kernel
theorem dX6_back_117 : decode cX6_back 117 = .ok (.iconst 0, 1) := by decide +kernel
theorem dX6_back_118 : decode cX6_back 118 = .ok (.iastore, 1) := by decide +kernel
theorem dX6_back_119 : decode cX6_back 119 = .ok (.iinc 3 1, 3) := by decide +kernel
theorem dX6_back_122 : decode cX6_back 122 = .ok (.goto (-41), 3) := by decide +kernel
theorem dX6_back_125 : decode cX6_back 125 = .ok (.iload_n 2, 1) := by decide +kernel
theorem dX6_back_126 : decode cX6_back 126 = .ok (.ireturn, 1) := by decide +kernel
theorem dX6_prune_0 : decode cX6_prune 0 = .ok (.aload_n 0, 1) := by decide +kernel
theorem dX6_prune_1 : decode cX6_prune 1 = .ok (.iload_n 1, 1) := by decide +kernel
theorem dX6_prune_2 : decode cX6_prune 2 = .ok (.invokevirtual 134, 3) := by decide +kernel
theorem dX6_prune_5 : decode cX6_prune 5 = .ok (.ifCond .ne 5, 3) := by decide +kernel
theorem dX6_prune_8 : decode cX6_prune 8 = .ok (.iconst (-1), 1) := by decide +kernel
theorem dX6_prune_9 : decode cX6_prune 9 = .ok (.ireturn, 1) := by decide +kernel
theorem dX6_prune_10 : decode cX6_prune 10 = .ok (.aload_n 0, 1) := by decide +kernel
theorem dX6_prune_11 : decode cX6_prune 11 = .ok (.getfield 26, 3) := by decide +kernel
theorem dX6_prune_14 : decode cX6_prune 14 = .ok (.iload_n 1, 1) := by decide +kernel
theorem dX6_prune_15 : decode cX6_prune 15 = .ok (.baload, 1) := by decide +kernel
theorem dX6_prune_16 : decode cX6_prune 16 = .ok (.ifCond .eq 7, 3) := by decide +kernel
theorem dX6_prune_19 : decode cX6_prune 19 = .ok (.iconst 0, 1) := by decide +kernel
theorem dX6_prune_20 : decode cX6_prune 20 = .ok (.goto 4, 3) := by decide +kernel
theorem dX6_prune_23 : decode cX6_prune 23 = .ok (.iconst 1, 1) := by decide +kernel
theorem dX6_prune_24 : decode cX6_prune 24 = .ok (.istore_n 2, 1) := by decide +kernel
theorem dX6_prune_25 : decode cX6_prune 25 = .ok (.aload_n 0, 1) := by decide +kernel
theorem dX6_prune_26 : decode cX6_prune 26 = .ok (.getfield 26, 3) := by decide +kernel
theorem dX6_prune_29 : decode cX6_prune 29 = .ok (.iload_n 1, 1) := by decide +kernel
theorem dX6_prune_30 : decode cX6_prune 30 = .ok (.iconst 1, 1) := by decide +kernel
theorem dX6_prune_31 : decode cX6_prune 31 = .ok (.bastore, 1) := by decide +kernel
theorem dX6_prune_32 : decode cX6_prune 32 = .ok (.iload_n 2, 1) := by decide +kernel
theorem dX6_prune_33 : decode cX6_prune 33 = .ok (.ireturn, 1) := by decide +kernel
theorem dX6_size_0 : decode cX6_size 0 = .ok (.aload_n 0, 1) := by decide +kernel
theorem dX6_size_1 : decode cX6_size 1 = .ok (.iload_n 1, 1) := by decide +kernel
theorem dX6_size_2 : decode cX6_size 2 = .ok (.invokevirtual 134, 3) := by decide +kernel
theorem dX6_size_5 : decode cX6_size 5 = .ok (.ifCond .eq 13, 3) := by decide +kernel
theorem dX6_size_8 : decode cX6_size 8 = .ok (.iload_n 2, 1) := by decide +kernel
theorem dX6_size_9 : decode cX6_size 9 = .ok (.i2l, 1) := by decide +kernel
theorem dX6_size_10 : decode cX6_size 10 = .ok (.lconst 0, 1) := by decide +kernel
theorem dX6_size_11 : decode cX6_size 11 = .ok (.lconst 1, 1) := by decide +kernel
theorem dX6_size_12 : decode cX6_size 12 = .ok (.invokestatic 70, 3) := by decide +kernel
theorem dX6_size_15 : decode cX6_size 15 = .ok (.ifCond .ne 7, 3) := by decide +kernel
theorem dX6_size_18 : decode cX6_size 18 = .ok (.iconst (-1), 1) := by decide +kernel
theorem dX6_size_19 : decode cX6_size 19 = .ok (.goto 30, 3) := by decide +kernel
theorem dX6_size_22 : decode cX6_size 22 = .ok (.iload_n 2, 1) := by decide +kernel
theorem dX6_size_23 : decode cX6_size 23 = .ok (.ifCond .ne 12, 3) := by decide +kernel
theorem dX6_size_26 : decode cX6_size 26 = .ok (.aload_n 0, 1) := by decide +kernel
theorem dX6_size_27 : decode cX6_size 27 = .ok (.getfield 23, 3) := by decide +kernel
theorem dX6_size_30 : decode cX6_size 30 = .ok (.iload_n 1, 1) := by decide +kernel
theorem dX6_size_31 : decode cX6_size 31 = .ok (.iaload, 1) := by decide +kernel
theorem dX6_size_32 : decode cX6_size 32 = .ok (.goto 17, 3) := by decide +kernel
theorem dX6_size_35 : decode cX6_size 35 = .ok (.aload_n 0, 1) := by decide +kernel
theorem dX6_size_36 : decode cX6_size 36 = .ok (.getfield 26, 3) := by decide +kernel
theorem dX6_size_39 : decode cX6_size 39 = .ok (.iload_n 1, 1) := by decide +kernel
theorem dX6_size_40 : decode cX6_size 40 = .ok (.baload, 1) := by decide +kernel
theorem dX6_size_41 : decode cX6_size 41 = .ok (.ifCond .eq 7, 3) := by decide +kernel
theorem dX6_size_44 : decode cX6_size 44 = .ok (.iconst 0, 1) := by decide +kernel
theorem dX6_size_45 : decode cX6_size 45 = .ok (.goto 4, 3) := by decide +kernel
theorem dX6_size_48 : decode cX6_size 48 = .ok (.iconst 1, 1) := by decide +kernel
theorem dX6_size_49 : decode cX6_size 49 = .ok (.ireturn, 1) := by decide +kernel
theorem dX6_topicMany_0 : decode cX6_topicMany 0 = .ok (.aload_n 0, 1) := by decide +kernel
theorem dX6_topicMany_1 : decode cX6_topicMany 1 = .ok (.getfield 13, 3) := by decide +kernel
theorem dX6_topicMany_4 : decode cX6_topicMany 4 = .ok (.iconst 3, 1) := by decide +kernel
theorem dX6_topicMany_5 : decode cX6_topicMany 5 = .ok (.iload_n 1, 1) := by decide +kernel
theorem dX6_topicMany_6 : decode cX6_topicMany 6 = .ok (.imul, 1) := by decide +kernel
theorem dX6_topicMany_7 : decode cX6_topicMany 7 = .ok (.iconst 1, 1) := by decide +kernel
theorem dX6_topicMany_8 : decode cX6_topicMany 8 = .ok (.iadd, 1) := by decide +kernel
theorem dX6_topicMany_9 : decode cX6_topicMany 9 = .ok (.iaload, 1) := by decide +kernel
theorem dX6_topicMany_10 : decode cX6_topicMany 10 = .ok (.ifCond .ge 7, 3) := by decide +kernel
theorem dX6_topicMany_13 : decode cX6_topicMany 13 = .ok (.iconst 1, 1) := by decide +kernel
theorem dX6_topicMany_14 : decode cX6_topicMany 14 = .ok (.goto 21, 3) := by decide +kernel
theorem dX6_topicMany_17 : decode cX6_topicMany 17 = .ok (.aload_n 0, 1) := by decide +kernel
theorem dX6_topicMany_18 : decode cX6_topicMany 18 = .ok (.getfield 13, 3) := by decide +kernel
theorem dX6_topicMany_21 : decode cX6_topicMany 21 = .ok (.iconst 3, 1) := by decide +kernel
theorem dX6_topicMany_22 : decode cX6_topicMany 22 = .ok (.iload_n 1, 1) := by decide +kernel
theorem dX6_topicMany_23 : decode cX6_topicMany 23 = .ok (.imul, 1) := by decide +kernel
theorem dX6_topicMany_24 : decode cX6_topicMany 24 = .ok (.iconst 2, 1) := by decide +kernel
theorem dX6_topicMany_25 : decode cX6_topicMany 25 = .ok (.iadd, 1) := by decide +kernel
theorem dX6_topicMany_26 : decode cX6_topicMany 26 = .ok (.iaload, 1) := by decide +kernel
theorem dX6_topicMany_27 : decode cX6_topicMany 27 = .ok (.ifCond .ge 7, 3) := by decide +kernel
theorem dX6_topicMany_30 : decode cX6_topicMany 30 = .ok (.iconst 2, 1) := by decide +kernel
theorem dX6_topicMany_31 : decode cX6_topicMany 31 = .ok (.goto 4, 3) := by decide +kernel
theorem dX6_topicMany_34 : decode cX6_topicMany 34 = .ok (.iconst 3, 1) := by decide +kernel
theorem dX6_topicMany_35 : decode cX6_topicMany 35 = .ok (.ireturn, 1) := by decide +kernel
theorem dX6_event_0 : decode cX6_event 0 = .ok (.aload_n 0, 1) := by decide +kernel
theorem dX6_event_1 : decode cX6_event 1 = .ok (.iload_n 1, 1) := by decide +kernel
theorem dX6_event_2 : decode cX6_event 2 = .ok (.invokevirtual 134, 3) := by decide +kernel
theorem dX6_event_5 : decode cX6_event 5 = .ok (.ifCond .eq 33, 3) := by decide +kernel
theorem dX6_event_8 : decode cX6_event 8 = .ok (.iload_n 2, 1) := by decide +kernel
theorem dX6_event_9 : decode cX6_event 9 = .ok (.i2l, 1) := by decide +kernel
theorem dX6_event_10 : decode cX6_event 10 = .ok (.lconst 0, 1) := by decide +kernel
theorem dX6_event_11 : decode cX6_event 11 = .ok (.aload_n 0, 1) := by decide +kernel
theorem dX6_event_12 : decode cX6_event 12 = .ok (.getfield 23, 3) := by decide +kernel
theorem dX6_event_15 : decode cX6_event 15 = .ok (.iload_n 1, 1) := by decide +kernel
theorem dX6_event_16 : decode cX6_event 16 = .ok (.iaload, 1) := by decide +kernel
theorem dX6_event_17 : decode cX6_event 17 = .ok (.iconst 1, 1) := by decide +kernel
theorem dX6_event_18 : decode cX6_event 18 = .ok (.isub, 1) := by decide +kernel
theorem dX6_event_19 : decode cX6_event 19 = .ok (.i2l, 1) := by decide +kernel
theorem dX6_event_20 : decode cX6_event 20 = .ok (.invokestatic 70, 3) := by decide +kernel
theorem dX6_event_23 : decode cX6_event 23 = .ok (.ifCond .eq 15, 3) := by decide +kernel
theorem dX6_event_26 : decode cX6_event 26 = .ok (.iload_n 3, 1) := by decide +kernel
theorem dX6_event_27 : decode cX6_event 27 = .ok (.i2l, 1) := by decide +kernel
theorem dX6_event_28 : decode cX6_event 28 = .ok (.lconst 0, 1) := by decide +kernel
theorem dX6_event_29 : decode cX6_event 29 = .ok (.ldc2_w 138, 3) := by decide +kernel
theorem dX6_event_32 : decode cX6_event 32 = .ok (.invokestatic 70, 3) := by decide +kernel
theorem dX6_event_35 : decode cX6_event 35 = .ok (.ifCond .ne 5, 3) := by decide +kernel
theorem dX6_event_38 : decode cX6_event 38 = .ok (.iconst (-1), 1) := by decide +kernel
theorem dX6_event_39 : decode cX6_event 39 = .ok (.ireturn, 1) := by decide +kernel
theorem dX6_event_40 : decode cX6_event 40 = .ok (.aload_n 0, 1) := by decide +kernel
theorem dX6_event_41 : decode cX6_event 41 = .ok (.getfield 26, 3) := by decide +kernel
theorem dX6_event_44 : decode cX6_event 44 = .ok (.iload_n 1, 1) := by decide +kernel
theorem dX6_event_45 : decode cX6_event 45 = .ok (.baload, 1) := by decide +kernel
theorem dX6_event_46 : decode cX6_event 46 = .ok (.ifCond .eq 6, 3) := by decide +kernel
theorem dX6_event_49 : decode cX6_event 49 = .ok (.bipush (-4), 2) := by decide +kernel
theorem dX6_event_51 : decode cX6_event 51 = .ok (.ireturn, 1) := by decide +kernel
theorem dX6_event_52 : decode cX6_event 52 = .ok (.bipush 32, 2) := by decide +kernel
theorem dX6_event_54 : decode cX6_event 54 = .ok (.iload_n 1, 1) := by decide +kernel
theorem dX6_event_55 : decode cX6_event 55 = .ok (.imul, 1) := by decide +kernel
theorem dX6_event_56 : decode cX6_event 56 = .ok (.iload_n 2, 1) := by decide +kernel
theorem dX6_event_57 : decode cX6_event 57 = .ok (.iadd, 1) := by decide +kernel
theorem dX6_event_58 : decode cX6_event 58 = .ok (.istore 4, 2) := by decide +kernel
theorem dX6_event_60 : decode cX6_event 60 = .ok (.iload_n 3, 1) := by decide +kernel
theorem dX6_event_61 : decode cX6_event 61 = .ok (.lookupswitch 58 #[(0, 35), (1, 43), (5, 50)], 35) := by decide +kernel
theorem dX6_event_96 : decode cX6_event 96 = .ok (.aload_n 0, 1) := by decide +kernel
theorem dX6_event_97 : decode cX6_event 97 = .ok (.getfield 7, 3) := by decide +kernel
theorem dX6_event_100 : decode cX6_event 100 = .ok (.iload 4, 2) := by decide +kernel
theorem dX6_event_102 : decode cX6_event 102 = .ok (.iaload, 1) := by decide +kernel
theorem dX6_event_103 : decode cX6_event 103 = .ok (.ireturn, 1) := by decide +kernel
theorem dX6_event_104 : decode cX6_event 104 = .ok (.aload_n 0, 1) := by decide +kernel
theorem dX6_event_105 : decode cX6_event 105 = .ok (.iload 4, 2) := by decide +kernel
theorem dX6_event_107 : decode cX6_event 107 = .ok (.invokevirtual 140, 3) := by decide +kernel
theorem dX6_event_110 : decode cX6_event 110 = .ok (.ireturn, 1) := by decide +kernel
theorem dX6_event_111 : decode cX6_event 111 = .ok (.aload_n 0, 1) := by decide +kernel
theorem dX6_event_112 : decode cX6_event 112 = .ok (.getfield 20, 3) := by decide +kernel
theorem dX6_event_115 : decode cX6_event 115 = .ok (.iload 4, 2) := by decide +kernel
theorem dX6_event_117 : decode cX6_event 117 = .ok (.iaload, 1) := by decide +kernel
theorem dX6_event_118 : decode cX6_event 118 = .ok (.ireturn, 1) := by decide +kernel
theorem dX6_event_119 : decode cX6_event 119 = .ok (.iload_n 3, 1) := by decide +kernel
theorem dX6_event_120 : decode cX6_event 120 = .ok (.iconst 1, 1) := by decide +kernel
theorem dX6_event_121 : decode cX6_event 121 = .ok (.isub, 1) := by decide +kernel
theorem dX6_event_122 : decode cX6_event 122 = .ok (.aload_n 0, 1) := by decide +kernel
theorem dX6_event_123 : decode cX6_event 123 = .ok (.iload 4, 2) := by decide +kernel
theorem dX6_event_125 : decode cX6_event 125 = .ok (.invokevirtual 140, 3) := by decide +kernel
theorem dX6_event_128 : decode cX6_event 128 = .ok (.if_icmp .le 8, 3) := by decide +kernel
theorem dX6_event_131 : decode cX6_event 131 = .ok (.bipush (-5), 2) := by decide +kernel
theorem dX6_event_133 : decode cX6_event 133 = .ok (.goto 16, 3) := by decide +kernel
theorem dX6_event_136 : decode cX6_event 136 = .ok (.aload_n 0, 1) := by decide +kernel
theorem dX6_event_137 : decode cX6_event 137 = .ok (.getfield 13, 3) := by decide +kernel
theorem dX6_event_140 : decode cX6_event 140 = .ok (.iconst 3, 1) := by decide +kernel
theorem dX6_event_141 : decode cX6_event 141 = .ok (.iload 4, 2) := by decide +kernel
theorem dX6_event_143 : decode cX6_event 143 = .ok (.imul, 1) := by decide +kernel
theorem dX6_event_144 : decode cX6_event 144 = .ok (.iload_n 3, 1) := by decide +kernel
theorem dX6_event_145 : decode cX6_event 145 = .ok (.iadd, 1) := by decide +kernel
theorem dX6_event_146 : decode cX6_event 146 = .ok (.iconst 2, 1) := by decide +kernel
theorem dX6_event_147 : decode cX6_event 147 = .ok (.isub, 1) := by decide +kernel
theorem dX6_event_148 : decode cX6_event 148 = .ok (.iaload, 1) := by decide +kernel
theorem dX6_event_149 : decode cX6_event 149 = .ok (.ireturn, 1) := by decide +kernel
theorem dX6_value_0 : decode cX6_value 0 = .ok (.aload_n 0, 1) := by decide +kernel
theorem dX6_value_1 : decode cX6_value 1 = .ok (.aload_n 0, 1) := by decide +kernel
theorem dX6_value_2 : decode cX6_value 2 = .ok (.iload_n 1, 1) := by decide +kernel
theorem dX6_value_3 : decode cX6_value 3 = .ok (.invokevirtual 134, 3) := by decide +kernel
theorem dX6_value_6 : decode cX6_value 6 = .ok (.ifCond .ne 7, 3) := by decide +kernel
theorem dX6_value_9 : decode cX6_value 9 = .ok (.iconst 2, 1) := by decide +kernel
theorem dX6_value_10 : decode cX6_value 10 = .ok (.goto 39, 3) := by decide +kernel
theorem dX6_value_13 : decode cX6_value 13 = .ok (.aload_n 0, 1) := by decide +kernel
theorem dX6_value_14 : decode cX6_value 14 = .ok (.getfield 26, 3) := by decide +kernel
theorem dX6_value_17 : decode cX6_value 17 = .ok (.iload_n 1, 1) := by decide +kernel
theorem dX6_value_18 : decode cX6_value 18 = .ok (.baload, 1) := by decide +kernel
theorem dX6_value_19 : decode cX6_value 19 = .ok (.ifCond .eq 7, 3) := by decide +kernel
theorem dX6_value_22 : decode cX6_value 22 = .ok (.iconst 1, 1) := by decide +kernel
theorem dX6_value_23 : decode cX6_value 23 = .ok (.goto 26, 3) := by decide +kernel
theorem dX6_value_26 : decode cX6_value 26 = .ok (.iload_n 2, 1) := by decide +kernel
theorem dX6_value_27 : decode cX6_value 27 = .ok (.i2l, 1) := by decide +kernel
theorem dX6_value_28 : decode cX6_value 28 = .ok (.lconst 0, 1) := by decide +kernel
theorem dX6_value_29 : decode cX6_value 29 = .ok (.aload_n 0, 1) := by decide +kernel
theorem dX6_value_30 : decode cX6_value 30 = .ok (.getfield 23, 3) := by decide +kernel
theorem dX6_value_33 : decode cX6_value 33 = .ok (.iload_n 1, 1) := by decide +kernel
theorem dX6_value_34 : decode cX6_value 34 = .ok (.iaload, 1) := by decide +kernel
theorem dX6_value_35 : decode cX6_value 35 = .ok (.iconst 1, 1) := by decide +kernel
theorem dX6_value_36 : decode cX6_value 36 = .ok (.isub, 1) := by decide +kernel
theorem dX6_value_37 : decode cX6_value 37 = .ok (.i2l, 1) := by decide +kernel
theorem dX6_value_38 : decode cX6_value 38 = .ok (.invokestatic 70, 3) := by decide +kernel
theorem dX6_value_41 : decode cX6_value 41 = .ok (.ifCond .ne 7, 3) := by decide +kernel
theorem dX6_value_44 : decode cX6_value 44 = .ok (.iconst 2, 1) := by decide +kernel
theorem dX6_value_45 : decode cX6_value 45 = .ok (.goto 4, 3) := by decide +kernel
theorem dX6_value_48 : decode cX6_value 48 = .ok (.iconst 0, 1) := by decide +kernel
theorem dX6_value_49 : decode cX6_value 49 = .ok (.putfield 63, 3) := by decide +kernel
theorem dX6_value_52 : decode cX6_value 52 = .ok (.aload_n 0, 1) := by decide +kernel
theorem dX6_value_53 : decode cX6_value 53 = .ok (.getfield 63, 3) := by decide +kernel
theorem dX6_value_56 : decode cX6_value 56 = .ok (.ifCond .le 7, 3) := by decide +kernel
theorem dX6_value_59 : decode cX6_value 59 = .ok (.lconst 0, 1) := by decide +kernel
theorem dX6_value_60 : decode cX6_value 60 = .ok (.goto 14, 3) := by decide +kernel
theorem dX6_value_63 : decode cX6_value 63 = .ok (.aload_n 0, 1) := by decide +kernel
theorem dX6_value_64 : decode cX6_value 64 = .ok (.getfield 16, 3) := by decide +kernel
theorem dX6_value_67 : decode cX6_value 67 = .ok (.bipush 32, 2) := by decide +kernel
theorem dX6_value_69 : decode cX6_value 69 = .ok (.iload_n 1, 1) := by decide +kernel
theorem dX6_value_70 : decode cX6_value 70 = .ok (.imul, 1) := by decide +kernel
theorem dX6_value_71 : decode cX6_value 71 = .ok (.iload_n 2, 1) := by decide +kernel
theorem dX6_value_72 : decode cX6_value 72 = .ok (.iadd, 1) := by decide +kernel
theorem dX6_value_73 : decode cX6_value 73 = .ok (.laload, 1) := by decide +kernel
theorem dX6_value_74 : decode cX6_value 74 = .ok (.lreturn, 1) := by decide +kernel
theorem dX6_root_0 : decode cX6_root 0 = .ok (.aload_n 0, 1) := by decide +kernel
theorem dX6_root_1 : decode cX6_root 1 = .ok (.aload_n 0, 1) := by decide +kernel
theorem dX6_root_2 : decode cX6_root 2 = .ok (.iload_n 1, 1) := by decide +kernel
theorem dX6_root_3 : decode cX6_root 3 = .ok (.invokevirtual 134, 3) := by decide +kernel
theorem dX6_root_6 : decode cX6_root 6 = .ok (.ifCond .eq 7, 3) := by decide +kernel
theorem dX6_root_9 : decode cX6_root 9 = .ok (.iconst 0, 1) := by decide +kernel
theorem dX6_root_10 : decode cX6_root 10 = .ok (.goto 4, 3) := by decide +kernel
theorem dX6_root_13 : decode cX6_root 13 = .ok (.iconst 1, 1) := by decide +kernel
theorem dX6_root_14 : decode cX6_root 14 = .ok (.putfield 63, 3) := by decide +kernel
theorem dX6_root_17 : decode cX6_root 17 = .ok (.aload_n 0, 1) := by decide +kernel
theorem dX6_root_18 : decode cX6_root 18 = .ok (.getfield 63, 3) := by decide +kernel
theorem dX6_root_21 : decode cX6_root 21 = .ok (.ifCond .le 7, 3) := by decide +kernel
theorem dX6_root_24 : decode cX6_root 24 = .ok (.lconst 0, 1) := by decide +kernel
theorem dX6_root_25 : decode cX6_root 25 = .ok (.goto 9, 3) := by decide +kernel
theorem dX6_root_28 : decode cX6_root 28 = .ok (.aload_n 0, 1) := by decide +kernel
theorem dX6_root_29 : decode cX6_root 29 = .ok (.getfield 30, 3) := by decide +kernel
theorem dX6_root_32 : decode cX6_root 32 = .ok (.iload_n 1, 1) := by decide +kernel
theorem dX6_root_33 : decode cX6_root 33 = .ok (.laload, 1) := by decide +kernel
theorem dX6_root_34 : decode cX6_root 34 = .ok (.lreturn, 1) := by decide +kernel
theorem dX6_filter_0 : decode cX6_filter 0 = .ok (.aload_n 0, 1) := by decide +kernel
theorem dX6_filter_1 : decode cX6_filter 1 = .ok (.aload_n 0, 1) := by decide +kernel
theorem dX6_filter_2 : decode cX6_filter 2 = .ok (.iload_n 1, 1) := by decide +kernel
theorem dX6_filter_3 : decode cX6_filter 3 = .ok (.invokevirtual 134, 3) := by decide +kernel
theorem dX6_filter_6 : decode cX6_filter 6 = .ok (.ifCond .eq 7, 3) := by decide +kernel
theorem dX6_filter_9 : decode cX6_filter 9 = .ok (.iconst 0, 1) := by decide +kernel
theorem dX6_filter_10 : decode cX6_filter 10 = .ok (.goto 4, 3) := by decide +kernel
theorem dX6_filter_13 : decode cX6_filter 13 = .ok (.iconst 1, 1) := by decide +kernel
theorem dX6_filter_14 : decode cX6_filter 14 = .ok (.putfield 63, 3) := by decide +kernel
theorem dX6_filter_17 : decode cX6_filter 17 = .ok (.aload_n 0, 1) := by decide +kernel
theorem dX6_filter_18 : decode cX6_filter 18 = .ok (.getfield 63, 3) := by decide +kernel
theorem dX6_filter_21 : decode cX6_filter 21 = .ok (.ifCond .le 7, 3) := by decide +kernel
theorem dX6_filter_24 : decode cX6_filter 24 = .ok (.lconst 0, 1) := by decide +kernel
theorem dX6_filter_25 : decode cX6_filter 25 = .ok (.goto 9, 3) := by decide +kernel
theorem dX6_filter_28 : decode cX6_filter 28 = .ok (.aload_n 0, 1) := by decide +kernel
theorem dX6_filter_29 : decode cX6_filter 29 = .ok (.getfield 33, 3) := by decide +kernel
theorem dX6_filter_32 : decode cX6_filter 32 = .ok (.iload_n 1, 1) := by decide +kernel
theorem dX6_filter_33 : decode cX6_filter 33 = .ok (.laload, 1) := by decide +kernel
theorem dX6_filter_34 : decode cX6_filter 34 = .ok (.lreturn, 1) := by decide +kernel
theorem dX6_may_0 : decode cX6_may 0 = .ok (.aload_n 0, 1) := by decide +kernel
theorem dX6_may_1 : decode cX6_may 1 = .ok (.iload_n 1, 1) := by decide +kernel
theorem dX6_may_2 : decode cX6_may 2 = .ok (.invokevirtual 134, 3) := by decide +kernel
theorem dX6_may_5 : decode cX6_may 5 = .ok (.ifCond .eq 15, 3) := by decide +kernel
theorem dX6_may_8 : decode cX6_may 8 = .ok (.iload_n 2, 1) := by decide +kernel
theorem dX6_may_9 : decode cX6_may 9 = .ok (.i2l, 1) := by decide +kernel
theorem dX6_may_10 : decode cX6_may 10 = .ok (.lconst 0, 1) := by decide +kernel
theorem dX6_may_11 : decode cX6_may 11 = .ok (.ldc2_w 94, 3) := by decide +kernel
theorem dX6_may_14 : decode cX6_may 14 = .ok (.invokestatic 70, 3) := by decide +kernel
theorem dX6_may_17 : decode cX6_may 17 = .ok (.ifCond .ne 7, 3) := by decide +kernel
theorem dX6_may_20 : decode cX6_may 20 = .ok (.iconst (-1), 1) := by decide +kernel
theorem dX6_may_21 : decode cX6_may 21 = .ok (.goto 27, 3) := by decide +kernel
theorem dX6_may_24 : decode cX6_may 24 = .ok (.aload_n 0, 1) := by decide +kernel
theorem dX6_may_25 : decode cX6_may 25 = .ok (.getfield 33, 3) := by decide +kernel
theorem dX6_may_28 : decode cX6_may 28 = .ok (.iload_n 1, 1) := by decide +kernel
theorem dX6_may_29 : decode cX6_may 29 = .ok (.laload, 1) := by decide +kernel
theorem dX6_may_30 : decode cX6_may 30 = .ok (.iload_n 2, 1) := by decide +kernel
theorem dX6_may_31 : decode cX6_may 31 = .ok (.invokestatic 122, 3) := by decide +kernel
theorem dX6_may_34 : decode cX6_may 34 = .ok (.land, 1) := by decide +kernel
theorem dX6_may_35 : decode cX6_may 35 = .ok (.iload_n 2, 1) := by decide +kernel
theorem dX6_may_36 : decode cX6_may 36 = .ok (.invokestatic 122, 3) := by decide +kernel
theorem dX6_may_39 : decode cX6_may 39 = .ok (.lcmp, 1) := by decide +kernel
theorem dX6_may_40 : decode cX6_may 40 = .ok (.ifCond .ne 7, 3) := by decide +kernel
theorem dX6_may_43 : decode cX6_may 43 = .ok (.iconst 1, 1) := by decide +kernel
theorem dX6_may_44 : decode cX6_may 44 = .ok (.goto 4, 3) := by decide +kernel
theorem dX6_may_47 : decode cX6_may 47 = .ok (.iconst 0, 1) := by decide +kernel
theorem dX6_may_48 : decode cX6_may 48 = .ok (.ireturn, 1) := by decide +kernel
theorem dX6_has_0 : decode cX6_has 0 = .ok (.aload_n 0, 1) := by decide +kernel
theorem dX6_has_1 : decode cX6_has 1 = .ok (.getfield 13, 3) := by decide +kernel
theorem dX6_has_4 : decode cX6_has 4 = .ok (.iconst 3, 1) := by decide +kernel
theorem dX6_has_5 : decode cX6_has 5 = .ok (.iload_n 1, 1) := by decide +kernel
theorem dX6_has_6 : decode cX6_has 6 = .ok (.imul, 1) := by decide +kernel
theorem dX6_has_7 : decode cX6_has 7 = .ok (.iaload, 1) := by decide +kernel
theorem dX6_has_8 : decode cX6_has 8 = .ok (.iload_n 2, 1) := by decide +kernel
theorem dX6_has_9 : decode cX6_has 9 = .ok (.if_icmp .eq 31, 3) := by decide +kernel
theorem dX6_has_12 : decode cX6_has 12 = .ok (.aload_n 0, 1) := by decide +kernel
theorem dX6_has_13 : decode cX6_has 13 = .ok (.getfield 13, 3) := by decide +kernel
theorem dX6_has_16 : decode cX6_has 16 = .ok (.iconst 3, 1) := by decide +kernel
theorem dX6_has_17 : decode cX6_has 17 = .ok (.iload_n 1, 1) := by decide +kernel
theorem dX6_has_18 : decode cX6_has 18 = .ok (.imul, 1) := by decide +kernel
theorem dX6_has_19 : decode cX6_has 19 = .ok (.iconst 1, 1) := by decide +kernel
theorem dX6_has_20 : decode cX6_has 20 = .ok (.iadd, 1) := by decide +kernel
theorem dX6_has_21 : decode cX6_has 21 = .ok (.iaload, 1) := by decide +kernel
theorem dX6_has_22 : decode cX6_has 22 = .ok (.iload_n 2, 1) := by decide +kernel
theorem dX6_has_23 : decode cX6_has 23 = .ok (.if_icmp .eq 17, 3) := by decide +kernel
theorem dX6_has_26 : decode cX6_has 26 = .ok (.aload_n 0, 1) := by decide +kernel
theorem dX6_has_27 : decode cX6_has 27 = .ok (.getfield 13, 3) := by decide +kernel
theorem dX6_has_30 : decode cX6_has 30 = .ok (.iconst 3, 1) := by decide +kernel
theorem dX6_has_31 : decode cX6_has 31 = .ok (.iload_n 1, 1) := by decide +kernel
theorem dX6_has_32 : decode cX6_has 32 = .ok (.imul, 1) := by decide +kernel
theorem dX6_has_33 : decode cX6_has 33 = .ok (.iconst 2, 1) := by decide +kernel
theorem dX6_has_34 : decode cX6_has 34 = .ok (.iadd, 1) := by decide +kernel
theorem dX6_has_35 : decode cX6_has 35 = .ok (.iaload, 1) := by decide +kernel
theorem dX6_has_36 : decode cX6_has 36 = .ok (.iload_n 2, 1) := by decide +kernel
theorem dX6_has_37 : decode cX6_has 37 = .ok (.if_icmp .ne 7, 3) := by decide +kernel
theorem dX6_has_40 : decode cX6_has 40 = .ok (.iconst 1, 1) := by decide +kernel
theorem dX6_has_41 : decode cX6_has 41 = .ok (.goto 4, 3) := by decide +kernel
theorem dX6_has_44 : decode cX6_has 44 = .ok (.iconst 0, 1) := by decide +kernel
theorem dX6_has_45 : decode cX6_has 45 = .ok (.ireturn, 1) := by decide +kernel
theorem dX6_find_0 : decode cX6_find 0 = .ok (.aload_n 0, 1) := by decide +kernel
theorem dX6_find_1 : decode cX6_find 1 = .ok (.iload_n 1, 1) := by decide +kernel
theorem dX6_find_2 : decode cX6_find 2 = .ok (.invokevirtual 134, 3) := by decide +kernel
theorem dX6_find_5 : decode cX6_find 5 = .ok (.ifCond .eq 19, 3) := by decide +kernel
theorem dX6_find_8 : decode cX6_find 8 = .ok (.iload_n 2, 1) := by decide +kernel
theorem dX6_find_9 : decode cX6_find 9 = .ok (.i2l, 1) := by decide +kernel
theorem dX6_find_10 : decode cX6_find 10 = .ok (.lconst 0, 1) := by decide +kernel
theorem dX6_find_11 : decode cX6_find 11 = .ok (.ldc2_w 94, 3) := by decide +kernel
theorem dX6_find_14 : decode cX6_find 14 = .ok (.invokestatic 70, 3) := by decide +kernel
theorem dX6_find_17 : decode cX6_find 17 = .ok (.ifCond .eq 7, 3) := by decide +kernel
theorem dX6_find_20 : decode cX6_find 20 = .ok (.iload_n 3, 1) := by decide +kernel
theorem dX6_find_21 : decode cX6_find 21 = .ok (.ifCond .ge 5, 3) := by decide +kernel
theorem dX6_find_24 : decode cX6_find 24 = .ok (.iconst (-1), 1) := by decide +kernel
theorem dX6_find_25 : decode cX6_find 25 = .ok (.ireturn, 1) := by decide +kernel
theorem dX6_find_26 : decode cX6_find 26 = .ok (.aload_n 0, 1) := by decide +kernel
theorem dX6_find_27 : decode cX6_find 27 = .ok (.getfield 26, 3) := by decide +kernel
theorem dX6_find_30 : decode cX6_find 30 = .ok (.iload_n 1, 1) := by decide +kernel
theorem dX6_find_31 : decode cX6_find 31 = .ok (.baload, 1) := by decide +kernel
theorem dX6_find_32 : decode cX6_find 32 = .ok (.ifCond .eq 6, 3) := by decide +kernel
theorem dX6_find_35 : decode cX6_find 35 = .ok (.bipush (-4), 2) := by decide +kernel
theorem dX6_find_37 : decode cX6_find 37 = .ok (.ireturn, 1) := by decide +kernel
theorem dX6_find_38 : decode cX6_find 38 = .ok (.iload_n 3, 1) := by decide +kernel
theorem dX6_find_39 : decode cX6_find 39 = .ok (.istore 4, 2) := by decide +kernel
theorem dX6_find_41 : decode cX6_find 41 = .ok (.iload 4, 2) := by decide +kernel
theorem dX6_find_43 : decode cX6_find 43 = .ok (.aload_n 0, 1) := by decide +kernel
theorem dX6_find_44 : decode cX6_find 44 = .ok (.getfield 23, 3) := by decide +kernel
theorem dX6_find_47 : decode cX6_find 47 = .ok (.iload_n 1, 1) := by decide +kernel
theorem dX6_find_48 : decode cX6_find 48 = .ok (.iaload, 1) := by decide +kernel
theorem dX6_find_49 : decode cX6_find 49 = .ok (.if_icmp .ge 27, 3) := by decide +kernel
theorem dX6_find_52 : decode cX6_find 52 = .ok (.aload_n 0, 1) := by decide +kernel
theorem dX6_find_53 : decode cX6_find 53 = .ok (.bipush 32, 2) := by decide +kernel
theorem dX6_find_55 : decode cX6_find 55 = .ok (.iload_n 1, 1) := by decide +kernel
theorem dX6_find_56 : decode cX6_find 56 = .ok (.imul, 1) := by decide +kernel
theorem dX6_find_57 : decode cX6_find 57 = .ok (.iload 4, 2) := by decide +kernel
theorem dX6_find_59 : decode cX6_find 59 = .ok (.iadd, 1) := by decide +kernel
theorem dX6_find_60 : decode cX6_find 60 = .ok (.iload_n 2, 1) := by decide +kernel
theorem dX6_find_61 : decode cX6_find 61 = .ok (.invokevirtual 143, 3) := by decide +kernel
theorem dX6_find_64 : decode cX6_find 64 = .ok (.ifCond .eq 6, 3) := by decide +kernel
theorem dX6_find_67 : decode cX6_find 67 = .ok (.iload 4, 2) := by decide +kernel
theorem dX6_find_69 : decode cX6_find 69 = .ok (.ireturn, 1) := by decide +kernel
theorem dX6_find_70 : decode cX6_find 70 = .ok (.iinc 4 1, 3) := by decide +kernel
theorem dX6_find_73 : decode cX6_find 73 = .ok (.goto (-32), 3) := by decide +kernel
theorem dX6_find_76 : decode cX6_find 76 = .ok (.bipush (-5), 2) := by decide +kernel
theorem dX6_find_78 : decode cX6_find 78 = .ok (.ireturn, 1) := by decide +kernel
theorem dX6_path_0 : decode cX6_path 0 = .ok (.aload_n 0, 1) := by decide +kernel
theorem dX6_path_1 : decode cX6_path 1 = .ok (.iload_n 1, 1) := by decide +kernel
theorem dX6_path_2 : decode cX6_path 2 = .ok (.invokevirtual 134, 3) := by decide +kernel
theorem dX6_path_5 : decode cX6_path 5 = .ok (.ifCond .eq 21, 3) := by decide +kernel
theorem dX6_path_8 : decode cX6_path 8 = .ok (.iload_n 2, 1) := by decide +kernel
theorem dX6_path_9 : decode cX6_path 9 = .ok (.i2l, 1) := by decide +kernel
theorem dX6_path_10 : decode cX6_path 10 = .ok (.lconst 0, 1) := by decide +kernel
theorem dX6_path_11 : decode cX6_path 11 = .ok (.aload_n 0, 1) := by decide +kernel
theorem dX6_path_12 : decode cX6_path 12 = .ok (.getfield 23, 3) := by decide +kernel
theorem dX6_path_15 : decode cX6_path 15 = .ok (.iload_n 1, 1) := by decide +kernel
theorem dX6_path_16 : decode cX6_path 16 = .ok (.iaload, 1) := by decide +kernel
theorem dX6_path_17 : decode cX6_path 17 = .ok (.iconst 1, 1) := by decide +kernel
theorem dX6_path_18 : decode cX6_path 18 = .ok (.isub, 1) := by decide +kernel
theorem dX6_path_19 : decode cX6_path 19 = .ok (.i2l, 1) := by decide +kernel
theorem dX6_path_20 : decode cX6_path 20 = .ok (.invokestatic 70, 3) := by decide +kernel
theorem dX6_path_23 : decode cX6_path 23 = .ok (.ifCond .ne 5, 3) := by decide +kernel
theorem dX6_path_26 : decode cX6_path 26 = .ok (.iconst (-1), 1) := by decide +kernel
theorem dX6_path_27 : decode cX6_path 27 = .ok (.ireturn, 1) := by decide +kernel
theorem dX6_path_28 : decode cX6_path 28 = .ok (.aload_n 0, 1) := by decide +kernel
theorem dX6_path_29 : decode cX6_path 29 = .ok (.getfield 26, 3) := by decide +kernel
theorem dX6_path_32 : decode cX6_path 32 = .ok (.iload_n 1, 1) := by decide +kernel
theorem dX6_path_33 : decode cX6_path 33 = .ok (.baload, 1) := by decide +kernel
theorem dX6_path_34 : decode cX6_path 34 = .ok (.ifCond .eq 6, 3) := by decide +kernel
theorem dX6_path_37 : decode cX6_path 37 = .ok (.bipush (-4), 2) := by decide +kernel
theorem dX6_path_39 : decode cX6_path 39 = .ok (.ireturn, 1) := by decide +kernel
theorem dX6_path_40 : decode cX6_path 40 = .ok (.aload_n 0, 1) := by decide +kernel
theorem dX6_path_41 : decode cX6_path 41 = .ok (.iload_n 1, 1) := by decide +kernel
theorem dX6_path_42 : decode cX6_path 42 = .ok (.invokevirtual 126, 3) := by decide +kernel
theorem dX6_path_45 : decode cX6_path 45 = .ok (.aload_n 0, 1) := by decide +kernel
theorem dX6_path_46 : decode cX6_path 46 = .ok (.iconst 0, 1) := by decide +kernel
theorem dX6_path_47 : decode cX6_path 47 = .ok (.putfield 147, 3) := by decide +kernel
theorem dX6_path_50 : decode cX6_path 50 = .ok (.iload_n 2, 1) := by decide +kernel
theorem dX6_path_51 : decode cX6_path 51 = .ok (.istore_n 3, 1) := by decide +kernel
theorem dX6_path_52 : decode cX6_path 52 = .ok (.aload_n 0, 1) := by decide +kernel
theorem dX6_path_53 : decode cX6_path 53 = .ok (.getfield 23, 3) := by decide +kernel
theorem dX6_path_56 : decode cX6_path 56 = .ok (.iload_n 1, 1) := by decide +kernel
theorem dX6_path_57 : decode cX6_path 57 = .ok (.iaload, 1) := by decide +kernel
theorem dX6_path_58 : decode cX6_path 58 = .ok (.istore 4, 2) := by decide +kernel
theorem dX6_path_60 : decode cX6_path 60 = .ok (.iload 4, 2) := by decide +kernel
theorem dX6_path_62 : decode cX6_path 62 = .ok (.iconst 1, 1) := by decide +kernel
theorem dX6_path_63 : decode cX6_path 63 = .ok (.if_icmp .le 68, 3) := by decide +kernel
theorem dX6_path_66 : decode cX6_path 66 = .ok (.iload_n 3, 1) := by decide +kernel
theorem dX6_path_67 : decode cX6_path 67 = .ok (.iconst 2, 1) := by decide +kernel
theorem dX6_path_68 : decode cX6_path 68 = .ok (.irem, 1) := by decide +kernel
theorem dX6_path_69 : decode cX6_path 69 = .ok (.ifCond .ne 9, 3) := by decide +kernel
theorem dX6_path_72 : decode cX6_path 72 = .ok (.iload_n 3, 1) := by decide +kernel
theorem dX6_path_73 : decode cX6_path 73 = .ok (.iconst 1, 1) := by decide +kernel
theorem dX6_path_74 : decode cX6_path 74 = .ok (.iadd, 1) := by decide +kernel
theorem dX6_path_75 : decode cX6_path 75 = .ok (.goto 6, 3) := by decide +kernel
theorem dX6_path_78 : decode cX6_path 78 = .ok (.iload_n 3, 1) := by decide +kernel
theorem dX6_path_79 : decode cX6_path 79 = .ok (.iconst 1, 1) := by decide +kernel
theorem dX6_path_80 : decode cX6_path 80 = .ok (.isub, 1) := by decide +kernel
theorem dX6_path_81 : decode cX6_path 81 = .ok (.istore 5, 2) := by decide +kernel
theorem dX6_path_83 : decode cX6_path 83 = .ok (.iload 5, 2) := by decide +kernel
theorem dX6_path_85 : decode cX6_path 85 = .ok (.iload 4, 2) := by decide +kernel
theorem dX6_path_87 : decode cX6_path 87 = .ok (.if_icmp .ge 29, 3) := by decide +kernel
theorem dX6_path_90 : decode cX6_path 90 = .ok (.aload_n 0, 1) := by decide +kernel
theorem dX6_path_91 : decode cX6_path 91 = .ok (.getfield 48, 3) := by decide +kernel
theorem dX6_path_94 : decode cX6_path 94 = .ok (.aload_n 0, 1) := by decide +kernel
theorem dX6_path_95 : decode cX6_path 95 = .ok (.getfield 147, 3) := by decide +kernel
theorem dX6_path_98 : decode cX6_path 98 = .ok (.aload_n 0, 1) := by decide +kernel
theorem dX6_path_99 : decode cX6_path 99 = .ok (.getfield 60, 3) := by decide +kernel
theorem dX6_path_102 : decode cX6_path 102 = .ok (.iload 5, 2) := by decide +kernel
theorem dX6_path_104 : decode cX6_path 104 = .ok (.laload, 1) := by decide +kernel
theorem dX6_path_105 : decode cX6_path 105 = .ok (.lastore, 1) := by decide +kernel
theorem dX6_path_106 : decode cX6_path 106 = .ok (.aload_n 0, 1) := by decide +kernel
theorem dX6_path_107 : decode cX6_path 107 = .ok (.dup, 1) := by decide +kernel
theorem dX6_path_108 : decode cX6_path 108 = .ok (.getfield 147, 3) := by decide +kernel
theorem dX6_path_111 : decode cX6_path 111 = .ok (.iconst 1, 1) := by decide +kernel
theorem dX6_path_112 : decode cX6_path 112 = .ok (.iadd, 1) := by decide +kernel
theorem dX6_path_113 : decode cX6_path 113 = .ok (.putfield 147, 3) := by decide +kernel
theorem dX6_path_116 : decode cX6_path 116 = .ok (.aload_n 0, 1) := by decide +kernel
theorem dX6_path_117 : decode cX6_path 117 = .ok (.iload 4, 2) := by decide +kernel
theorem dX6_path_119 : decode cX6_path 119 = .ok (.invokevirtual 130, 3) := by decide +kernel
theorem dX6_path_122 : decode cX6_path 122 = .ok (.istore 4, 2) := by decide +kernel
theorem dX6_path_124 : decode cX6_path 124 = .ok (.iload_n 3, 1) := by decide +kernel
theorem dX6_path_125 : decode cX6_path 125 = .ok (.iconst 2, 1) := by decide +kernel
theorem dX6_path_126 : decode cX6_path 126 = .ok (.idiv, 1) := by decide +kernel
theorem dX6_path_127 : decode cX6_path 127 = .ok (.istore_n 3, 1) := by decide +kernel
theorem dX6_path_128 : decode cX6_path 128 = .ok (.goto (-68), 3) := by decide +kernel
theorem dX6_path_131 : decode cX6_path 131 = .ok (.aload_n 0, 1) := by decide +kernel
theorem dX6_path_132 : decode cX6_path 132 = .ok (.getfield 147, 3) := by decide +kernel
theorem dX6_path_135 : decode cX6_path 135 = .ok (.ireturn, 1) := by decide +kernel
theorem dX6_out_0 : decode cX6_out 0 = .ok (.aload_n 0, 1) := by decide +kernel
theorem dX6_out_1 : decode cX6_out 1 = .ok (.iload_n 1, 1) := by decide +kernel
theorem dX6_out_2 : decode cX6_out 2 = .ok (.i2l, 1) := by decide +kernel
theorem dX6_out_3 : decode cX6_out 3 = .ok (.lconst 0, 1) := by decide +kernel
theorem dX6_out_4 : decode cX6_out 4 = .ok (.aload_n 0, 1) := by decide +kernel
theorem dX6_out_5 : decode cX6_out 5 = .ok (.getfield 147, 3) := by decide +kernel
theorem dX6_out_8 : decode cX6_out 8 = .ok (.iconst 1, 1) := by decide +kernel
theorem dX6_out_9 : decode cX6_out 9 = .ok (.isub, 1) := by decide +kernel
theorem dX6_out_10 : decode cX6_out 10 = .ok (.i2l, 1) := by decide +kernel
theorem dX6_out_11 : decode cX6_out 11 = .ok (.invokestatic 70, 3) := by decide +kernel
theorem dX6_out_14 : decode cX6_out 14 = .ok (.ifCond .eq 7, 3) := by decide +kernel
theorem dX6_out_17 : decode cX6_out 17 = .ok (.iconst 0, 1) := by decide +kernel
theorem dX6_out_18 : decode cX6_out 18 = .ok (.goto 4, 3) := by decide +kernel
theorem dX6_out_21 : decode cX6_out 21 = .ok (.iconst 1, 1) := by decide +kernel
theorem dX6_out_22 : decode cX6_out 22 = .ok (.putfield 63, 3) := by decide +kernel
theorem dX6_out_25 : decode cX6_out 25 = .ok (.aload_n 0, 1) := by decide +kernel
theorem dX6_out_26 : decode cX6_out 26 = .ok (.getfield 63, 3) := by decide +kernel
theorem dX6_out_29 : decode cX6_out 29 = .ok (.ifCond .le 7, 3) := by decide +kernel
theorem dX6_out_32 : decode cX6_out 32 = .ok (.lconst 0, 1) := by decide +kernel
theorem dX6_out_33 : decode cX6_out 33 = .ok (.goto 9, 3) := by decide +kernel
theorem dX6_out_36 : decode cX6_out 36 = .ok (.aload_n 0, 1) := by decide +kernel
theorem dX6_out_37 : decode cX6_out 37 = .ok (.getfield 48, 3) := by decide +kernel
theorem dX6_out_40 : decode cX6_out 40 = .ok (.iload_n 1, 1) := by decide +kernel
theorem dX6_out_41 : decode cX6_out 41 = .ok (.laload, 1) := by decide +kernel
theorem dX6_out_42 : decode cX6_out 42 = .ok (.lreturn, 1) := by decide +kernel
theorem dX6_lay_0 : decode cX6_lay 0 = .ok (.aload_n 0, 1) := by decide +kernel
theorem dX6_lay_1 : decode cX6_lay 1 = .ok (.getfield 147, 3) := by decide +kernel
theorem dX6_lay_4 : decode cX6_lay 4 = .ok (.iconst 5, 1) := by decide +kernel
theorem dX6_lay_5 : decode cX6_lay 5 = .ok (.if_icmp .ne 6, 3) := by decide +kernel
theorem dX6_lay_8 : decode cX6_lay 8 = .ok (.bipush (-3), 2) := by decide +kernel
theorem dX6_lay_10 : decode cX6_lay 10 = .ok (.ireturn, 1) := by decide +kernel
theorem dX6_lay_11 : decode cX6_lay 11 = .ok (.aload_n 0, 1) := by decide +kernel
theorem dX6_lay_12 : decode cX6_lay 12 = .ok (.getfield 48, 3) := by decide +kernel
theorem dX6_lay_15 : decode cX6_lay 15 = .ok (.aload_n 0, 1) := by decide +kernel
theorem dX6_lay_16 : decode cX6_lay 16 = .ok (.getfield 147, 3) := by decide +kernel
theorem dX6_lay_19 : decode cX6_lay 19 = .ok (.lload_n 1, 1) := by decide +kernel
theorem dX6_lay_20 : decode cX6_lay 20 = .ok (.lastore, 1) := by decide +kernel
theorem dX6_lay_21 : decode cX6_lay 21 = .ok (.aload_n 0, 1) := by decide +kernel
theorem dX6_lay_22 : decode cX6_lay 22 = .ok (.dup, 1) := by decide +kernel
theorem dX6_lay_23 : decode cX6_lay 23 = .ok (.getfield 147, 3) := by decide +kernel
theorem dX6_lay_26 : decode cX6_lay 26 = .ok (.iconst 1, 1) := by decide +kernel
theorem dX6_lay_27 : decode cX6_lay 27 = .ok (.iadd, 1) := by decide +kernel
theorem dX6_lay_28 : decode cX6_lay 28 = .ok (.putfield 147, 3) := by decide +kernel
theorem dX6_lay_31 : decode cX6_lay 31 = .ok (.aload_n 0, 1) := by decide +kernel
theorem dX6_lay_32 : decode cX6_lay 32 = .ok (.getfield 147, 3) := by decide +kernel
theorem dX6_lay_35 : decode cX6_lay 35 = .ok (.ireturn, 1) := by decide +kernel
theorem dX6_wipe_0 : decode cX6_wipe 0 = .ok (.aload_n 0, 1) := by decide +kernel
theorem dX6_wipe_1 : decode cX6_wipe 1 = .ok (.getfield 147, 3) := by decide +kernel
theorem dX6_wipe_4 : decode cX6_wipe 4 = .ok (.istore_n 1, 1) := by decide +kernel
theorem dX6_wipe_5 : decode cX6_wipe 5 = .ok (.aload_n 0, 1) := by decide +kernel
theorem dX6_wipe_6 : decode cX6_wipe 6 = .ok (.iconst 0, 1) := by decide +kernel
theorem dX6_wipe_7 : decode cX6_wipe 7 = .ok (.putfield 147, 3) := by decide +kernel
theorem dX6_wipe_10 : decode cX6_wipe 10 = .ok (.iload_n 1, 1) := by decide +kernel
theorem dX6_wipe_11 : decode cX6_wipe 11 = .ok (.ireturn, 1) := by decide +kernel
theorem dX6_proved_0 : decode cX6_proved 0 = .ok (.aload_n 0, 1) := by decide +kernel
theorem dX6_proved_1 : decode cX6_proved 1 = .ok (.iload_n 1, 1) := by decide +kernel
theorem dX6_proved_2 : decode cX6_proved 2 = .ok (.invokevirtual 134, 3) := by decide +kernel
theorem dX6_proved_5 : decode cX6_proved 5 = .ok (.ifCond .eq 34, 3) := by decide +kernel
theorem dX6_proved_8 : decode cX6_proved 8 = .ok (.iload_n 2, 1) := by decide +kernel
theorem dX6_proved_9 : decode cX6_proved 9 = .ok (.i2l, 1) := by decide +kernel
theorem dX6_proved_10 : decode cX6_proved 10 = .ok (.lconst 0, 1) := by decide +kernel
theorem dX6_proved_11 : decode cX6_proved 11 = .ok (.aload_n 0, 1) := by decide +kernel
theorem dX6_proved_12 : decode cX6_proved 12 = .ok (.getfield 23, 3) := by decide +kernel
theorem dX6_proved_15 : decode cX6_proved 15 = .ok (.iload_n 1, 1) := by decide +kernel
theorem dX6_proved_16 : decode cX6_proved 16 = .ok (.iaload, 1) := by decide +kernel
theorem dX6_proved_17 : decode cX6_proved 17 = .ok (.iconst 1, 1) := by decide +kernel
theorem dX6_proved_18 : decode cX6_proved 18 = .ok (.isub, 1) := by decide +kernel
theorem dX6_proved_19 : decode cX6_proved 19 = .ok (.i2l, 1) := by decide +kernel
theorem dX6_proved_20 : decode cX6_proved 20 = .ok (.invokestatic 70, 3) := by decide +kernel
theorem dX6_proved_23 : decode cX6_proved 23 = .ok (.ifCond .eq 16, 3) := by decide +kernel
theorem dX6_proved_26 : decode cX6_proved 26 = .ok (.iload_n 3, 1) := by decide +kernel
theorem dX6_proved_27 : decode cX6_proved 27 = .ok (.iload 4, 2) := by decide +kernel
theorem dX6_proved_29 : decode cX6_proved 29 = .ok (.iload 5, 2) := by decide +kernel
theorem dX6_proved_31 : decode cX6_proved 31 = .ok (.iload 6, 2) := by decide +kernel
theorem dX6_proved_33 : decode cX6_proved 33 = .ok (.invokestatic 98, 3) := by decide +kernel
theorem dX6_proved_36 : decode cX6_proved 36 = .ok (.ifCond .ne 5, 3) := by decide +kernel
theorem dX6_proved_39 : decode cX6_proved 39 = .ok (.iconst (-1), 1) := by decide +kernel
theorem dX6_proved_40 : decode cX6_proved 40 = .ok (.ireturn, 1) := by decide +kernel
theorem dX6_proved_41 : decode cX6_proved 41 = .ok (.iload_n 3, 1) := by decide +kernel
theorem dX6_proved_42 : decode cX6_proved 42 = .ok (.iload 4, 2) := by decide +kernel
theorem dX6_proved_44 : decode cX6_proved 44 = .ok (.iload 5, 2) := by decide +kernel
theorem dX6_proved_46 : decode cX6_proved 46 = .ok (.iload 6, 2) := by decide +kernel
theorem dX6_proved_48 : decode cX6_proved 48 = .ok (.lload 7, 2) := by decide +kernel
theorem dX6_proved_50 : decode cX6_proved 50 = .ok (.iload_n 2, 1) := by decide +kernel
theorem dX6_proved_51 : decode cX6_proved 51 = .ok (.invokestatic 118, 3) := by decide +kernel
theorem dX6_proved_54 : decode cX6_proved 54 = .ok (.lstore 9, 2) := by decide +kernel
theorem dX6_proved_56 : decode cX6_proved 56 = .ok (.iload_n 2, 1) := by decide +kernel
theorem dX6_proved_57 : decode cX6_proved 57 = .ok (.istore 11, 2) := by decide +kernel
theorem dX6_proved_59 : decode cX6_proved 59 = .ok (.aload_n 0, 1) := by decide +kernel
theorem dX6_proved_60 : decode cX6_proved 60 = .ok (.getfield 23, 3) := by decide +kernel
theorem dX6_proved_63 : decode cX6_proved 63 = .ok (.iload_n 1, 1) := by decide +kernel
theorem dX6_proved_64 : decode cX6_proved 64 = .ok (.iaload, 1) := by decide +kernel
theorem dX6_proved_65 : decode cX6_proved 65 = .ok (.istore 12, 2) := by decide +kernel
theorem dX6_proved_67 : decode cX6_proved 67 = .ok (.iconst 0, 1) := by decide +kernel
theorem dX6_proved_68 : decode cX6_proved 68 = .ok (.istore 13, 2) := by decide +kernel
theorem dX6_proved_70 : decode cX6_proved 70 = .ok (.iconst 1, 1) := by decide +kernel
theorem dX6_proved_71 : decode cX6_proved 71 = .ok (.istore 14, 2) := by decide +kernel
theorem dX6_proved_73 : decode cX6_proved 73 = .ok (.iload 12, 2) := by decide +kernel
theorem dX6_proved_75 : decode cX6_proved 75 = .ok (.iconst 1, 1) := by decide +kernel
theorem dX6_proved_76 : decode cX6_proved 76 = .ok (.if_icmp .le 115, 3) := by decide +kernel
theorem dX6_proved_79 : decode cX6_proved 79 = .ok (.iload 11, 2) := by decide +kernel
theorem dX6_proved_81 : decode cX6_proved 81 = .ok (.iconst 2, 1) := by decide +kernel
theorem dX6_proved_82 : decode cX6_proved 82 = .ok (.irem, 1) := by decide +kernel
theorem dX6_proved_83 : decode cX6_proved 83 = .ok (.ifCond .ne 10, 3) := by decide +kernel
theorem dX6_proved_86 : decode cX6_proved 86 = .ok (.iload 11, 2) := by decide +kernel
theorem dX6_proved_88 : decode cX6_proved 88 = .ok (.iconst 1, 1) := by decide +kernel
theorem dX6_proved_89 : decode cX6_proved 89 = .ok (.iadd, 1) := by decide +kernel
theorem dX6_proved_90 : decode cX6_proved 90 = .ok (.goto 7, 3) := by decide +kernel
theorem dX6_proved_93 : decode cX6_proved 93 = .ok (.iload 11, 2) := by decide +kernel
theorem dX6_proved_95 : decode cX6_proved 95 = .ok (.iconst 1, 1) := by decide +kernel
theorem dX6_proved_96 : decode cX6_proved 96 = .ok (.isub, 1) := by decide +kernel
theorem dX6_proved_97 : decode cX6_proved 97 = .ok (.istore 15, 2) := by decide +kernel
theorem dX6_proved_99 : decode cX6_proved 99 = .ok (.iload 15, 2) := by decide +kernel
theorem dX6_proved_101 : decode cX6_proved 101 = .ok (.iload 12, 2) := by decide +kernel
theorem dX6_proved_103 : decode cX6_proved 103 = .ok (.if_icmp .ge 71, 3) := by decide +kernel
theorem dX6_proved_106 : decode cX6_proved 106 = .ok (.iload 14, 2) := by decide +kernel
theorem dX6_proved_108 : decode cX6_proved 108 = .ok (.ifCond .eq 16, 3) := by decide +kernel
theorem dX6_proved_111 : decode cX6_proved 111 = .ok (.iload 13, 2) := by decide +kernel
theorem dX6_proved_113 : decode cX6_proved 113 = .ok (.aload_n 0, 1) := by decide +kernel
theorem dX6_proved_114 : decode cX6_proved 114 = .ok (.getfield 147, 3) := by decide +kernel
theorem dX6_proved_117 : decode cX6_proved 117 = .ok (.if_icmp .ge 7, 3) := by decide +kernel
theorem dX6_proved_120 : decode cX6_proved 120 = .ok (.iconst 1, 1) := by decide +kernel
theorem dX6_proved_121 : decode cX6_proved 121 = .ok (.goto 4, 3) := by decide +kernel
theorem dX6_proved_124 : decode cX6_proved 124 = .ok (.iconst 0, 1) := by decide +kernel
theorem dX6_proved_125 : decode cX6_proved 125 = .ok (.istore 14, 2) := by decide +kernel
theorem dX6_proved_127 : decode cX6_proved 127 = .ok (.iload 14, 2) := by decide +kernel
theorem dX6_proved_129 : decode cX6_proved 129 = .ok (.ifCond .eq 13, 3) := by decide +kernel
theorem dX6_proved_132 : decode cX6_proved 132 = .ok (.aload_n 0, 1) := by decide +kernel
theorem dX6_proved_133 : decode cX6_proved 133 = .ok (.getfield 48, 3) := by decide +kernel
theorem dX6_proved_136 : decode cX6_proved 136 = .ok (.iload 13, 2) := by decide +kernel
theorem dX6_proved_138 : decode cX6_proved 138 = .ok (.laload, 1) := by decide +kernel
theorem dX6_proved_139 : decode cX6_proved 139 = .ok (.goto 4, 3) := by decide +kernel
theorem dX6_proved_142 : decode cX6_proved 142 = .ok (.lconst 0, 1) := by decide +kernel
theorem dX6_proved_143 : decode cX6_proved 143 = .ok (.lstore 16, 2) := by decide +kernel
theorem dX6_proved_145 : decode cX6_proved 145 = .ok (.iload 11, 2) := by decide +kernel
theorem dX6_proved_147 : decode cX6_proved 147 = .ok (.iconst 2, 1) := by decide +kernel
theorem dX6_proved_148 : decode cX6_proved 148 = .ok (.irem, 1) := by decide +kernel
theorem dX6_proved_149 : decode cX6_proved 149 = .ok (.ifCond .ne 13, 3) := by decide +kernel
theorem dX6_proved_152 : decode cX6_proved 152 = .ok (.lload 9, 2) := by decide +kernel
theorem dX6_proved_154 : decode cX6_proved 154 = .ok (.lload 16, 2) := by decide +kernel
theorem dX6_proved_156 : decode cX6_proved 156 = .ok (.invokestatic 114, 3) := by decide +kernel
theorem dX6_proved_159 : decode cX6_proved 159 = .ok (.goto 10, 3) := by decide +kernel
theorem dX6_proved_162 : decode cX6_proved 162 = .ok (.lload 16, 2) := by decide +kernel
theorem dX6_proved_164 : decode cX6_proved 164 = .ok (.lload 9, 2) := by decide +kernel
theorem dX6_proved_166 : decode cX6_proved 166 = .ok (.invokestatic 114, 3) := by decide +kernel
theorem dX6_proved_169 : decode cX6_proved 169 = .ok (.lstore 9, 2) := by decide +kernel
theorem dX6_proved_171 : decode cX6_proved 171 = .ok (.iinc 13 1, 3) := by decide +kernel
theorem dX6_proved_174 : decode cX6_proved 174 = .ok (.iload 12, 2) := by decide +kernel
theorem dX6_proved_176 : decode cX6_proved 176 = .ok (.iconst 1, 1) := by decide +kernel
theorem dX6_proved_177 : decode cX6_proved 177 = .ok (.iadd, 1) := by decide +kernel
theorem dX6_proved_178 : decode cX6_proved 178 = .ok (.iconst 2, 1) := by decide +kernel
theorem dX6_proved_179 : decode cX6_proved 179 = .ok (.idiv, 1) := by decide +kernel
theorem dX6_proved_180 : decode cX6_proved 180 = .ok (.istore 12, 2) := by decide +kernel
theorem dX6_proved_182 : decode cX6_proved 182 = .ok (.iload 11, 2) := by decide +kernel
theorem dX6_proved_184 : decode cX6_proved 184 = .ok (.iconst 2, 1) := by decide +kernel
theorem dX6_proved_185 : decode cX6_proved 185 = .ok (.idiv, 1) := by decide +kernel
theorem dX6_proved_186 : decode cX6_proved 186 = .ok (.istore 11, 2) := by decide +kernel
theorem dX6_proved_188 : decode cX6_proved 188 = .ok (.goto (-115), 3) := by decide +kernel
theorem dX6_proved_191 : decode cX6_proved 191 = .ok (.iload 14, 2) := by decide +kernel
theorem dX6_proved_193 : decode cX6_proved 193 = .ok (.ifCond .eq 28, 3) := by decide +kernel
theorem dX6_proved_196 : decode cX6_proved 196 = .ok (.iload 13, 2) := by decide +kernel
theorem dX6_proved_198 : decode cX6_proved 198 = .ok (.aload_n 0, 1) := by decide +kernel
theorem dX6_proved_199 : decode cX6_proved 199 = .ok (.getfield 147, 3) := by decide +kernel
theorem dX6_proved_202 : decode cX6_proved 202 = .ok (.if_icmp .ne 19, 3) := by decide +kernel
theorem dX6_proved_205 : decode cX6_proved 205 = .ok (.lload 9, 2) := by decide +kernel
theorem dX6_proved_207 : decode cX6_proved 207 = .ok (.aload_n 0, 1) := by decide +kernel
theorem dX6_proved_208 : decode cX6_proved 208 = .ok (.getfield 30, 3) := by decide +kernel
theorem dX6_proved_211 : decode cX6_proved 211 = .ok (.iload_n 1, 1) := by decide +kernel
theorem dX6_proved_212 : decode cX6_proved 212 = .ok (.laload, 1) := by decide +kernel
theorem dX6_proved_213 : decode cX6_proved 213 = .ok (.lcmp, 1) := by decide +kernel
theorem dX6_proved_214 : decode cX6_proved 214 = .ok (.ifCond .ne 7, 3) := by decide +kernel
theorem dX6_proved_217 : decode cX6_proved 217 = .ok (.iconst 1, 1) := by decide +kernel
theorem dX6_proved_218 : decode cX6_proved 218 = .ok (.goto 4, 3) := by decide +kernel
theorem dX6_proved_221 : decode cX6_proved 221 = .ok (.iconst 0, 1) := by decide +kernel
theorem dX6_proved_222 : decode cX6_proved 222 = .ok (.ireturn, 1) := by decide +kernel
theorem dX6_subscribe_0 : decode cX6_subscribe 0 = .ok (.iload_n 1, 1) := by decide +kernel
theorem dX6_subscribe_1 : decode cX6_subscribe 1 = .ok (.i2l, 1) := by decide +kernel
theorem dX6_subscribe_2 : decode cX6_subscribe 2 = .ok (.ldc2_w 96, 3) := by decide +kernel
theorem dX6_subscribe_5 : decode cX6_subscribe 5 = .ok (.ldc2_w 94, 3) := by decide +kernel
theorem dX6_subscribe_8 : decode cX6_subscribe 8 = .ok (.invokestatic 70, 3) := by decide +kernel
theorem dX6_subscribe_11 : decode cX6_subscribe 11 = .ok (.ifCond .eq 17, 3) := by decide +kernel
theorem dX6_subscribe_14 : decode cX6_subscribe 14 = .ok (.iload_n 2, 1) := by decide +kernel
theorem dX6_subscribe_15 : decode cX6_subscribe 15 = .ok (.i2l, 1) := by decide +kernel
theorem dX6_subscribe_16 : decode cX6_subscribe 16 = .ok (.lconst 0, 1) := by decide +kernel
theorem dX6_subscribe_17 : decode cX6_subscribe 17 = .ok (.aload_n 0, 1) := by decide +kernel
theorem dX6_subscribe_18 : decode cX6_subscribe 18 = .ok (.getfield 67, 3) := by decide +kernel
theorem dX6_subscribe_21 : decode cX6_subscribe 21 = .ok (.i2l, 1) := by decide +kernel
theorem dX6_subscribe_22 : decode cX6_subscribe 22 = .ok (.invokestatic 70, 3) := by decide +kernel
theorem dX6_subscribe_25 : decode cX6_subscribe 25 = .ok (.ifCond .ne 5, 3) := by decide +kernel
theorem dX6_subscribe_28 : decode cX6_subscribe 28 = .ok (.iconst (-1), 1) := by decide +kernel
theorem dX6_subscribe_29 : decode cX6_subscribe 29 = .ok (.ireturn, 1) := by decide +kernel
theorem dX6_subscribe_30 : decode cX6_subscribe 30 = .ok (.aload_n 0, 1) := by decide +kernel
theorem dX6_subscribe_31 : decode cX6_subscribe 31 = .ok (.getfield 105, 3) := by decide +kernel
theorem dX6_subscribe_34 : decode cX6_subscribe 34 = .ok (.bipush 8, 2) := by decide +kernel
theorem dX6_subscribe_36 : decode cX6_subscribe 36 = .ok (.if_icmp .ne 6, 3) := by decide +kernel
theorem dX6_subscribe_39 : decode cX6_subscribe 39 = .ok (.bipush (-3), 2) := by decide +kernel
theorem dX6_subscribe_41 : decode cX6_subscribe 41 = .ok (.ireturn, 1) := by decide +kernel
theorem dX6_subscribe_42 : decode cX6_subscribe 42 = .ok (.aload_n 0, 1) := by decide +kernel
theorem dX6_subscribe_43 : decode cX6_subscribe 43 = .ok (.getfield 51, 3) := by decide +kernel
theorem dX6_subscribe_46 : decode cX6_subscribe 46 = .ok (.aload_n 0, 1) := by decide +kernel
theorem dX6_subscribe_47 : decode cX6_subscribe 47 = .ok (.getfield 105, 3) := by decide +kernel
theorem dX6_subscribe_50 : decode cX6_subscribe 50 = .ok (.iload_n 1, 1) := by decide +kernel
theorem dX6_subscribe_51 : decode cX6_subscribe 51 = .ok (.iastore, 1) := by decide +kernel
theorem dX6_subscribe_52 : decode cX6_subscribe 52 = .ok (.aload_n 0, 1) := by decide +kernel
theorem dX6_subscribe_53 : decode cX6_subscribe 53 = .ok (.getfield 54, 3) := by decide +kernel
theorem dX6_subscribe_56 : decode cX6_subscribe 56 = .ok (.aload_n 0, 1) := by decide +kernel
theorem dX6_subscribe_57 : decode cX6_subscribe 57 = .ok (.getfield 105, 3) := by decide +kernel
theorem dX6_subscribe_60 : decode cX6_subscribe 60 = .ok (.iload_n 2, 1) := by decide +kernel
theorem dX6_subscribe_61 : decode cX6_subscribe 61 = .ok (.iastore, 1) := by decide +kernel
theorem dX6_subscribe_62 : decode cX6_subscribe 62 = .ok (.aload_n 0, 1) := by decide +kernel
theorem dX6_subscribe_63 : decode cX6_subscribe 63 = .ok (.getfield 57, 3) := by decide +kernel
theorem dX6_subscribe_66 : decode cX6_subscribe 66 = .ok (.aload_n 0, 1) := by decide +kernel
theorem dX6_subscribe_67 : decode cX6_subscribe 67 = .ok (.getfield 105, 3) := by decide +kernel
theorem dX6_subscribe_70 : decode cX6_subscribe 70 = .ok (.iconst 0, 1) := by decide +kernel
theorem dX6_subscribe_71 : decode cX6_subscribe 71 = .ok (.iastore, 1) := by decide +kernel
theorem dX6_subscribe_72 : decode cX6_subscribe 72 = .ok (.aload_n 0, 1) := by decide +kernel
theorem dX6_subscribe_73 : decode cX6_subscribe 73 = .ok (.dup, 1) := by decide +kernel
theorem dX6_subscribe_74 : decode cX6_subscribe 74 = .ok (.getfield 105, 3) := by decide +kernel
theorem dX6_subscribe_77 : decode cX6_subscribe 77 = .ok (.iconst 1, 1) := by decide +kernel
theorem dX6_subscribe_78 : decode cX6_subscribe 78 = .ok (.iadd, 1) := by decide +kernel
theorem dX6_subscribe_79 : decode cX6_subscribe 79 = .ok (.putfield 105, 3) := by decide +kernel
theorem dX6_subscribe_82 : decode cX6_subscribe 82 = .ok (.aload_n 0, 1) := by decide +kernel
theorem dX6_subscribe_83 : decode cX6_subscribe 83 = .ok (.getfield 105, 3) := by decide +kernel
theorem dX6_subscribe_86 : decode cX6_subscribe 86 = .ok (.iconst 1, 1) := by decide +kernel
theorem dX6_subscribe_87 : decode cX6_subscribe 87 = .ok (.isub, 1) := by decide +kernel
theorem dX6_subscribe_88 : decode cX6_subscribe 88 = .ok (.ireturn, 1) := by decide +kernel
theorem dX6_next_0 : decode cX6_next 0 = .ok (.iload_n 1, 1) := by decide +kernel
theorem dX6_next_1 : decode cX6_next 1 = .ok (.i2l, 1) := by decide +kernel
theorem dX6_next_2 : decode cX6_next 2 = .ok (.lconst 0, 1) := by decide +kernel
theorem dX6_next_3 : decode cX6_next 3 = .ok (.aload_n 0, 1) := by decide +kernel
theorem dX6_next_4 : decode cX6_next 4 = .ok (.getfield 105, 3) := by decide +kernel
theorem dX6_next_7 : decode cX6_next 7 = .ok (.iconst 1, 1) := by decide +kernel
theorem dX6_next_8 : decode cX6_next 8 = .ok (.isub, 1) := by decide +kernel
theorem dX6_next_9 : decode cX6_next 9 = .ok (.i2l, 1) := by decide +kernel
theorem dX6_next_10 : decode cX6_next 10 = .ok (.invokestatic 70, 3) := by decide +kernel
theorem dX6_next_13 : decode cX6_next 13 = .ok (.ifCond .ne 5, 3) := by decide +kernel
theorem dX6_next_16 : decode cX6_next 16 = .ok (.iconst (-1), 1) := by decide +kernel
theorem dX6_next_17 : decode cX6_next 17 = .ok (.ireturn, 1) := by decide +kernel
theorem dX6_next_18 : decode cX6_next 18 = .ok (.aload_n 0, 1) := by decide +kernel
theorem dX6_next_19 : decode cX6_next 19 = .ok (.getfield 54, 3) := by decide +kernel
theorem dX6_next_22 : decode cX6_next 22 = .ok (.iload_n 1, 1) := by decide +kernel
theorem dX6_next_23 : decode cX6_next 23 = .ok (.iaload, 1) := by decide +kernel
theorem dX6_next_24 : decode cX6_next 24 = .ok (.istore_n 2, 1) := by decide +kernel
theorem dX6_next_25 : decode cX6_next 25 = .ok (.aload_n 0, 1) := by decide +kernel
theorem dX6_next_26 : decode cX6_next 26 = .ok (.getfield 57, 3) := by decide +kernel
theorem dX6_next_29 : decode cX6_next 29 = .ok (.iload_n 1, 1) := by decide +kernel
theorem dX6_next_30 : decode cX6_next 30 = .ok (.iaload, 1) := by decide +kernel
theorem dX6_next_31 : decode cX6_next 31 = .ok (.istore_n 3, 1) := by decide +kernel
theorem dX6_next_32 : decode cX6_next 32 = .ok (.iload_n 2, 1) := by decide +kernel
theorem dX6_next_33 : decode cX6_next 33 = .ok (.aload_n 0, 1) := by decide +kernel
theorem dX6_next_34 : decode cX6_next 34 = .ok (.getfield 67, 3) := by decide +kernel
theorem dX6_next_37 : decode cX6_next 37 = .ok (.if_icmp .ge 87, 3) := by decide +kernel
theorem dX6_next_40 : decode cX6_next 40 = .ok (.aload_n 0, 1) := by decide +kernel
theorem dX6_next_41 : decode cX6_next 41 = .ok (.getfield 26, 3) := by decide +kernel
theorem dX6_next_44 : decode cX6_next 44 = .ok (.iload_n 2, 1) := by decide +kernel
theorem dX6_next_45 : decode cX6_next 45 = .ok (.baload, 1) := by decide +kernel
theorem dX6_next_46 : decode cX6_next 46 = .ok (.ifCond .ne 13, 3) := by decide +kernel
theorem dX6_next_49 : decode cX6_next 49 = .ok (.iload_n 3, 1) := by decide +kernel
theorem dX6_next_50 : decode cX6_next 50 = .ok (.aload_n 0, 1) := by decide +kernel
theorem dX6_next_51 : decode cX6_next 51 = .ok (.getfield 23, 3) := by decide +kernel
theorem dX6_next_54 : decode cX6_next 54 = .ok (.iload_n 2, 1) := by decide +kernel
theorem dX6_next_55 : decode cX6_next 55 = .ok (.iaload, 1) := by decide +kernel
theorem dX6_next_56 : decode cX6_next 56 = .ok (.if_icmp .lt 11, 3) := by decide +kernel
theorem dX6_next_59 : decode cX6_next 59 = .ok (.iinc 2 1, 3) := by decide +kernel
theorem dX6_next_62 : decode cX6_next 62 = .ok (.iconst 0, 1) := by decide +kernel
theorem dX6_next_63 : decode cX6_next 63 = .ok (.istore_n 3, 1) := by decide +kernel
theorem dX6_next_64 : decode cX6_next 64 = .ok (.goto (-32), 3) := by decide +kernel
theorem dX6_next_67 : decode cX6_next 67 = .ok (.aload_n 0, 1) := by decide +kernel
theorem dX6_next_68 : decode cX6_next 68 = .ok (.getfield 51, 3) := by decide +kernel
theorem dX6_next_71 : decode cX6_next 71 = .ok (.iload_n 1, 1) := by decide +kernel
theorem dX6_next_72 : decode cX6_next 72 = .ok (.iaload, 1) := by decide +kernel
theorem dX6_next_73 : decode cX6_next 73 = .ok (.ifCond .lt 22, 3) := by decide +kernel
theorem dX6_next_76 : decode cX6_next 76 = .ok (.aload_n 0, 1) := by decide +kernel
theorem dX6_next_77 : decode cX6_next 77 = .ok (.bipush 32, 2) := by decide +kernel
theorem dX6_next_79 : decode cX6_next 79 = .ok (.iload_n 2, 1) := by decide +kernel
theorem dX6_next_80 : decode cX6_next 80 = .ok (.imul, 1) := by decide +kernel
theorem dX6_next_81 : decode cX6_next 81 = .ok (.iload_n 3, 1) := by decide +kernel
theorem dX6_next_82 : decode cX6_next 82 = .ok (.iadd, 1) := by decide +kernel
theorem dX6_next_83 : decode cX6_next 83 = .ok (.aload_n 0, 1) := by decide +kernel
theorem dX6_next_84 : decode cX6_next 84 = .ok (.getfield 51, 3) := by decide +kernel
theorem dX6_next_87 : decode cX6_next 87 = .ok (.iload_n 1, 1) := by decide +kernel
theorem dX6_next_88 : decode cX6_next 88 = .ok (.iaload, 1) := by decide +kernel
theorem dX6_next_89 : decode cX6_next 89 = .ok (.invokevirtual 143, 3) := by decide +kernel
theorem dX6_next_92 : decode cX6_next 92 = .ok (.ifCond .eq 26, 3) := by decide +kernel
theorem dX6_next_95 : decode cX6_next 95 = .ok (.aload_n 0, 1) := by decide +kernel
theorem dX6_next_96 : decode cX6_next 96 = .ok (.getfield 54, 3) := by decide +kernel
theorem dX6_next_99 : decode cX6_next 99 = .ok (.iload_n 1, 1) := by decide +kernel
theorem dX6_next_100 : decode cX6_next 100 = .ok (.iload_n 2, 1) := by decide +kernel
theorem dX6_next_101 : decode cX6_next 101 = .ok (.iastore, 1) := by decide +kernel
theorem dX6_next_102 : decode cX6_next 102 = .ok (.aload_n 0, 1) := by decide +kernel
theorem dX6_next_103 : decode cX6_next 103 = .ok (.getfield 57, 3) := by decide +kernel
theorem dX6_next_106 : decode cX6_next 106 = .ok (.iload_n 1, 1) := by decide +kernel
theorem dX6_next_107 : decode cX6_next 107 = .ok (.iload_n 3, 1) := by decide +kernel
theorem dX6_next_108 : decode cX6_next 108 = .ok (.iconst 1, 1) := by decide +kernel
theorem dX6_next_109 : decode cX6_next 109 = .ok (.iadd, 1) := by decide +kernel
theorem dX6_next_110 : decode cX6_next 110 = .ok (.iastore, 1) := by decide +kernel
theorem dX6_next_111 : decode cX6_next 111 = .ok (.bipush 100, 2) := by decide +kernel
theorem dX6_next_113 : decode cX6_next 113 = .ok (.iload_n 2, 1) := by decide +kernel
theorem dX6_next_114 : decode cX6_next 114 = .ok (.imul, 1) := by decide +kernel
theorem dX6_next_115 : decode cX6_next 115 = .ok (.iload_n 3, 1) := by decide +kernel
theorem dX6_next_116 : decode cX6_next 116 = .ok (.iadd, 1) := by decide +kernel
theorem dX6_next_117 : decode cX6_next 117 = .ok (.ireturn, 1) := by decide +kernel
theorem dX6_next_118 : decode cX6_next 118 = .ok (.iinc 3 1, 3) := by decide +kernel
theorem dX6_next_121 : decode cX6_next 121 = .ok (.goto (-89), 3) := by decide +kernel
theorem dX6_next_124 : decode cX6_next 124 = .ok (.aload_n 0, 1) := by decide +kernel
theorem dX6_next_125 : decode cX6_next 125 = .ok (.getfield 54, 3) := by decide +kernel
theorem dX6_next_128 : decode cX6_next 128 = .ok (.iload_n 1, 1) := by decide +kernel
theorem dX6_next_129 : decode cX6_next 129 = .ok (.aload_n 0, 1) := by decide +kernel
theorem dX6_next_130 : decode cX6_next 130 = .ok (.getfield 67, 3) := by decide +kernel
theorem dX6_next_133 : decode cX6_next 133 = .ok (.iastore, 1) := by decide +kernel
theorem dX6_next_134 : decode cX6_next 134 = .ok (.aload_n 0, 1) := by decide +kernel
theorem dX6_next_135 : decode cX6_next 135 = .ok (.getfield 57, 3) := by decide +kernel
theorem dX6_next_138 : decode cX6_next 138 = .ok (.iload_n 1, 1) := by decide +kernel
theorem dX6_next_139 : decode cX6_next 139 = .ok (.iconst 0, 1) := by decide +kernel
theorem dX6_next_140 : decode cX6_next 140 = .ok (.iastore, 1) := by decide +kernel
theorem dX6_next_141 : decode cX6_next 141 = .ok (.bipush (-5), 2) := by decide +kernel
theorem dX6_next_143 : decode cX6_next 143 = .ok (.ireturn, 1) := by decide +kernel
theorem dX6_place_0 : decode cX6_place 0 = .ok (.iload_n 1, 1) := by decide +kernel
theorem dX6_place_1 : decode cX6_place 1 = .ok (.i2l, 1) := by decide +kernel
theorem dX6_place_2 : decode cX6_place 2 = .ok (.lconst 0, 1) := by decide +kernel
theorem dX6_place_3 : decode cX6_place 3 = .ok (.aload_n 0, 1) := by decide +kernel
theorem dX6_place_4 : decode cX6_place 4 = .ok (.getfield 105, 3) := by decide +kernel
theorem dX6_place_7 : decode cX6_place 7 = .ok (.iconst 1, 1) := by decide +kernel
theorem dX6_place_8 : decode cX6_place 8 = .ok (.isub, 1) := by decide +kernel
theorem dX6_place_9 : decode cX6_place 9 = .ok (.i2l, 1) := by decide +kernel
theorem dX6_place_10 : decode cX6_place 10 = .ok (.invokestatic 70, 3) := by decide +kernel
theorem dX6_place_13 : decode cX6_place 13 = .ok (.ifCond .eq 22, 3) := by decide +kernel
theorem dX6_place_16 : decode cX6_place 16 = .ok (.bipush 100, 2) := by decide +kernel
theorem dX6_place_18 : decode cX6_place 18 = .ok (.aload_n 0, 1) := by decide +kernel
theorem dX6_place_19 : decode cX6_place 19 = .ok (.getfield 54, 3) := by decide +kernel
theorem dX6_place_22 : decode cX6_place 22 = .ok (.iload_n 1, 1) := by decide +kernel
theorem dX6_place_23 : decode cX6_place 23 = .ok (.iaload, 1) := by decide +kernel
theorem dX6_place_24 : decode cX6_place 24 = .ok (.imul, 1) := by decide +kernel
theorem dX6_place_25 : decode cX6_place 25 = .ok (.aload_n 0, 1) := by decide +kernel
theorem dX6_place_26 : decode cX6_place 26 = .ok (.getfield 57, 3) := by decide +kernel
theorem dX6_place_29 : decode cX6_place 29 = .ok (.iload_n 1, 1) := by decide +kernel
theorem dX6_place_30 : decode cX6_place 30 = .ok (.iaload, 1) := by decide +kernel
theorem dX6_place_31 : decode cX6_place 31 = .ok (.iadd, 1) := by decide +kernel
theorem dX6_place_32 : decode cX6_place 32 = .ok (.goto 4, 3) := by decide +kernel
theorem dX6_place_35 : decode cX6_place 35 = .ok (.iconst (-1), 1) := by decide +kernel
theorem dX6_place_36 : decode cX6_place 36 = .ok (.ireturn, 1) := by decide +kernel
theorem dJx00060_init_a7421_0 : decode cJx00060_init_a7421 0 = .ok (.aload_n 0, 1) := by decide +kernel
theorem dJx00060_init_a7421_1 : decode cJx00060_init_a7421 1 = .ok (.aload_n 1, 1) := by decide +kernel
theorem dJx00060_init_a7421_2 : decode cJx00060_init_a7421 2 = .ok (.invokespecial 7, 3) := by decide +kernel
theorem dJx00060_init_a7421_5 : decode cJx00060_init_a7421 5 = .ok (.return_, 1) := by decide +kernel
theorem dJ9_min_7cf53_0 : decode cJ9_min_7cf53 0 = .ok (.iload_n 0, 1) := by decide +kernel
theorem dJ9_min_7cf53_1 : decode cJ9_min_7cf53 1 = .ok (.iload_n 1, 1) := by decide +kernel
theorem dJ9_min_7cf53_2 : decode cJ9_min_7cf53 2 = .ok (.if_icmp .gt 7, 3) := by decide +kernel
theorem dJ9_min_7cf53_5 : decode cJ9_min_7cf53 5 = .ok (.iload_n 0, 1) := by decide +kernel
theorem dJ9_min_7cf53_6 : decode cJ9_min_7cf53 6 = .ok (.goto 4, 3) := by decide +kernel
theorem dJ9_min_7cf53_9 : decode cJ9_min_7cf53 9 = .ok (.iload_n 1, 1) := by decide +kernel
theorem dJ9_min_7cf53_10 : decode cJ9_min_7cf53 10 = .ok (.ireturn, 1) := by decide +kernel
theorem dJx5d777_init_da8c8_0 : decode cJx5d777_init_da8c8 0 = .ok (.aload_n 0, 1) := by decide +kernel
theorem dJx5d777_init_da8c8_1 : decode cJx5d777_init_da8c8 1 = .ok (.invokespecial 1, 3) := by decide +kernel
theorem dJx5d777_init_da8c8_4 : decode cJx5d777_init_da8c8 4 = .ok (.return_, 1) := by decide +kernel
theorem dJx5d777_init_a7421_0 : decode cJx5d777_init_a7421 0 = .ok (.aload_n 0, 1) := by decide +kernel
theorem dJx5d777_init_a7421_1 : decode cJx5d777_init_a7421 1 = .ok (.aload_n 1, 1) := by decide +kernel
theorem dJx5d777_init_a7421_2 : decode cJx5d777_init_a7421 2 = .ok (.invokespecial 7, 3) := by decide +kernel
theorem dJx5d777_init_a7421_5 : decode cJx5d777_init_a7421 5 = .ok (.return_, 1) := by decide +kernel
theorem dJx5d777_fillInStackTrace_cddbd_0 : decode cJx5d777_fillInStackTrace_cddbd 0 = .ok (.aload_n 0, 1) := by decide +kernel
theorem dJx5d777_fillInStackTrace_cddbd_1 : decode cJx5d777_fillInStackTrace_cddbd 1 = .ok (.getfield 10, 3) := by decide +kernel
theorem dJx5d777_fillInStackTrace_cddbd_4 : decode cJx5d777_fillInStackTrace_cddbd 4 = .ok (.ifCond .ne 11, 3) := by decide +kernel
theorem dJx5d777_fillInStackTrace_cddbd_7 : decode cJx5d777_fillInStackTrace_cddbd 7 = .ok (.aload_n 0, 1) := by decide +kernel
theorem dJx5d777_fillInStackTrace_cddbd_8 : decode cJx5d777_fillInStackTrace_cddbd 8 = .ok (.iconst 1, 1) := by decide +kernel
theorem dJx5d777_fillInStackTrace_cddbd_9 : decode cJx5d777_fillInStackTrace_cddbd 9 = .ok (.putfield 10, 3) := by decide +kernel
theorem dJx5d777_fillInStackTrace_cddbd_12 : decode cJx5d777_fillInStackTrace_cddbd 12 = .ok (.goto 24, 3) := by decide +kernel
theorem dJx5d777_fillInStackTrace_cddbd_15 : decode cJx5d777_fillInStackTrace_cddbd 15 = .ok (.aload_n 0, 1) := by decide +kernel
theorem dJx5d777_fillInStackTrace_cddbd_16 : decode cJx5d777_fillInStackTrace_cddbd 16 = .ok (.getfield 10, 3) := by decide +kernel
theorem dJx5d777_fillInStackTrace_cddbd_19 : decode cJx5d777_fillInStackTrace_cddbd 19 = .ok (.iconst 1, 1) := by decide +kernel
theorem dJx5d777_fillInStackTrace_cddbd_20 : decode cJx5d777_fillInStackTrace_cddbd 20 = .ok (.if_icmp .ne 16, 3) := by decide +kernel
theorem dJx5d777_fillInStackTrace_cddbd_23 : decode cJx5d777_fillInStackTrace_cddbd 23 = .ok (.aload_n 0, 1) := by decide +kernel
theorem dJx5d777_fillInStackTrace_cddbd_24 : decode cJx5d777_fillInStackTrace_cddbd 24 = .ok (.aload_n 0, 1) := by decide +kernel
theorem dJx5d777_fillInStackTrace_cddbd_25 : decode cJx5d777_fillInStackTrace_cddbd 25 = .ok (.invokevirtual 16, 3) := by decide +kernel
theorem dJx5d777_fillInStackTrace_cddbd_28 : decode cJx5d777_fillInStackTrace_cddbd 28 = .ok (.putfield 20, 3) := by decide +kernel
theorem dJx5d777_fillInStackTrace_cddbd_31 : decode cJx5d777_fillInStackTrace_cddbd 31 = .ok (.aload_n 0, 1) := by decide +kernel
theorem dJx5d777_fillInStackTrace_cddbd_32 : decode cJx5d777_fillInStackTrace_cddbd 32 = .ok (.iconst 2, 1) := by decide +kernel
theorem dJx5d777_fillInStackTrace_cddbd_33 : decode cJx5d777_fillInStackTrace_cddbd 33 = .ok (.putfield 10, 3) := by decide +kernel
theorem dJx5d777_fillInStackTrace_cddbd_36 : decode cJx5d777_fillInStackTrace_cddbd 36 = .ok (.aload_n 0, 1) := by decide +kernel
theorem dJx5d777_fillInStackTrace_cddbd_37 : decode cJx5d777_fillInStackTrace_cddbd 37 = .ok (.invokespecial 24, 3) := by decide +kernel
theorem dJx5d777_fillInStackTrace_cddbd_40 : decode cJx5d777_fillInStackTrace_cddbd 40 = .ok (.areturn, 1) := by decide +kernel
theorem dL_value_0 : decode cL_value 0 = .ok (.aload_n 3, 1) := by decide +kernel
theorem dL_value_1 : decode cL_value 1 = .ok (.iconst 0, 1) := by decide +kernel
theorem dL_value_2 : decode cL_value 2 = .ok (.aload_n 0, 1) := by decide +kernel
theorem dL_value_3 : decode cL_value 3 = .ok (.iload_n 1, 1) := by decide +kernel
theorem dL_value_4 : decode cL_value 4 = .ok (.iload_n 2, 1) := by decide +kernel
theorem dL_value_5 : decode cL_value 5 = .ok (.invokevirtual 7, 3) := by decide +kernel
theorem dL_value_8 : decode cL_value 8 = .ok (.lastore, 1) := by decide +kernel
theorem dL_value_9 : decode cL_value 9 = .ok (.goto 11, 3) := by decide +kernel
theorem dL_value_12 : decode cL_value 12 = .ok (.astore 4, 2) := by decide +kernel
theorem dL_value_14 : decode cL_value 14 = .ok (.iconst 1, 1) := by decide +kernel
theorem dL_value_15 : decode cL_value 15 = .ok (.ireturn, 1) := by decide +kernel
theorem dL_value_16 : decode cL_value 16 = .ok (.astore 4, 2) := by decide +kernel
theorem dL_value_18 : decode cL_value 18 = .ok (.iconst 2, 1) := by decide +kernel
theorem dL_value_19 : decode cL_value 19 = .ok (.ireturn, 1) := by decide +kernel
theorem dL_value_20 : decode cL_value 20 = .ok (.iconst 0, 1) := by decide +kernel
theorem dL_value_21 : decode cL_value 21 = .ok (.ireturn, 1) := by decide +kernel
theorem dL_root_0 : decode cL_root 0 = .ok (.aload_n 2, 1) := by decide +kernel
theorem dL_root_1 : decode cL_root 1 = .ok (.iconst 0, 1) := by decide +kernel
theorem dL_root_2 : decode cL_root 2 = .ok (.aload_n 0, 1) := by decide +kernel
theorem dL_root_3 : decode cL_root 3 = .ok (.iload_n 1, 1) := by decide +kernel
theorem dL_root_4 : decode cL_root 4 = .ok (.invokevirtual 17, 3) := by decide +kernel
theorem dL_root_7 : decode cL_root 7 = .ok (.lastore, 1) := by decide +kernel
theorem dL_root_8 : decode cL_root 8 = .ok (.goto 6, 3) := by decide +kernel
theorem dL_root_11 : decode cL_root 11 = .ok (.astore_n 3, 1) := by decide +kernel
theorem dL_root_12 : decode cL_root 12 = .ok (.iconst 1, 1) := by decide +kernel
theorem dL_root_13 : decode cL_root 13 = .ok (.ireturn, 1) := by decide +kernel
theorem dL_root_14 : decode cL_root 14 = .ok (.iconst 0, 1) := by decide +kernel
theorem dL_root_15 : decode cL_root 15 = .ok (.ireturn, 1) := by decide +kernel
theorem dL_filter_0 : decode cL_filter 0 = .ok (.aload_n 2, 1) := by decide +kernel
theorem dL_filter_1 : decode cL_filter 1 = .ok (.iconst 0, 1) := by decide +kernel
theorem dL_filter_2 : decode cL_filter 2 = .ok (.aload_n 0, 1) := by decide +kernel
theorem dL_filter_3 : decode cL_filter 3 = .ok (.iload_n 1, 1) := by decide +kernel
theorem dL_filter_4 : decode cL_filter 4 = .ok (.invokevirtual 21, 3) := by decide +kernel
theorem dL_filter_7 : decode cL_filter 7 = .ok (.lastore, 1) := by decide +kernel
theorem dL_filter_8 : decode cL_filter 8 = .ok (.goto 6, 3) := by decide +kernel
theorem dL_filter_11 : decode cL_filter 11 = .ok (.astore_n 3, 1) := by decide +kernel
theorem dL_filter_12 : decode cL_filter 12 = .ok (.iconst 1, 1) := by decide +kernel
theorem dL_filter_13 : decode cL_filter 13 = .ok (.ireturn, 1) := by decide +kernel
theorem dL_filter_14 : decode cL_filter 14 = .ok (.iconst 0, 1) := by decide +kernel
theorem dL_filter_15 : decode cL_filter 15 = .ok (.ireturn, 1) := by decide +kernel
theorem dL_out_0 : decode cL_out 0 = .ok (.aload_n 2, 1) := by decide +kernel
theorem dL_out_1 : decode cL_out 1 = .ok (.iconst 0, 1) := by decide +kernel
theorem dL_out_2 : decode cL_out 2 = .ok (.aload_n 0, 1) := by decide +kernel
theorem dL_out_3 : decode cL_out 3 = .ok (.iload_n 1, 1) := by decide +kernel
theorem dL_out_4 : decode cL_out 4 = .ok (.invokevirtual 24, 3) := by decide +kernel
theorem dL_out_7 : decode cL_out 7 = .ok (.lastore, 1) := by decide +kernel
theorem dL_out_8 : decode cL_out 8 = .ok (.goto 6, 3) := by decide +kernel
theorem dL_out_11 : decode cL_out 11 = .ok (.astore_n 3, 1) := by decide +kernel
theorem dL_out_12 : decode cL_out 12 = .ok (.iconst 1, 1) := by decide +kernel
theorem dL_out_13 : decode cL_out 13 = .ok (.ireturn, 1) := by decide +kernel
theorem dL_out_14 : decode cL_out 14 = .ok (.iconst 0, 1) := by decide +kernel
theorem dL_out_15 : decode cL_out 15 = .ok (.ireturn, 1) := by decide +kernel
end
section

abbrev PIC : Type := Nat → Option (Nat × va_E)
abbrev LV : Type := Nat → Option Value
/-- the array kinds: int, long, boolean, Block, Subscriber -/
def tysA (cA : Nat → ClassId) : List (ClassId × FieldType) := [(cA 0, .int), (cA 1, .long), (cA 2, .boolean), (cA 3, .object RX0), (cA 4, .object RX3)]
/-- the heap holds the picture: a role, its address and what lies there; roles have addresses of their own, all from base on -/
def WO (D : va_G) (base : Nat) (pic : PIC) (H : Heap) : Prop := base ≤ H.size ∧ (∀ r a e, pic r = some (a, e) → va_at D vwCl (a, e) H ∧ base ≤ a) ∧ ∀ r r' a e e', pic r = some (a, e) → pic r' = some (a, e') → r = r'
def nestW : List Cond := [.methodLinkNest RX5 9 yX1_init "EventRows", .methodLinkNest RX5 24 yX4_init "EventRows", .methodLinkNest RX5 31 yX2_init "EventRows", .methodLinkNest RX5 42 yX0_init "EventRows", .methodLinkNest RX0 65 yX5_leafOf "EventRows", .methodLinkNest RX4 28 yX5_mix "EventRows", .methodLinkNest RX0 50 yX5_bitsOf "EventRows", .methodLinkNest RX0 53 yX5_topicCount "EventRows", .methodLinkNest RX2 19 yX5_mix "EventRows"]
def isNest : Cond → Bool
  | .methodLinkNest _ _ _ _ => true
  | _ => false
theorem nestW_all : nestW.all isNest = true := by decide +kernel
/-- what the tables say, in every state of the run -/
def KK (D : va_G) (cA : Nat → ClassId) (U : State) : Prop := va_K D vwCl (tysA cA) U ∧ va_AO RX0 U ∧ va_AO RX3 U ∧ ∀ w ∈ nestW, va_Nw w U
theorem KK.moved {D : va_G} {cA : Nat → ClassId} {s U : State} (hW : s.WarmedH U.vm) (h : KK D cA s) : KK D cA U := by
  refine ⟨va_K.moved hW.alike h.1, va_AO.moved hW.alike h.2.1, va_AO.moved hW.alike h.2.2.1, fun w hw => ?_⟩
  have h1 := List.all_eq_true.mp nestW_all w hw
  have h2 := h.2.2.2 w hw
  cases w <;> first | exact va_Nw.warmM hW h2 | (exact absurd h1 (by simp [isNest]))
theorem KK.calling {D : va_G} {cA : Nat → ClassId} {U : State} (g : JFrame) (mk : MethodId) (a : Array Value) (h : KK D cA U) : KK D cA (U.calling g mk a) := by
  refine ⟨va_K.moved (u := U) (U := U.calling g mk a) (Vm.Alike.refl U.vm) h.1, va_AO.moved (u := U) (U := U.calling g mk a) (Vm.Alike.refl U.vm) h.2.1, va_AO.moved (u := U) (U := U.calling g mk a) (Vm.Alike.refl U.vm) h.2.2.1, fun w hw => ?_⟩
  have h1 := List.all_eq_true.mp nestW_all w hw
  have h2 := h.2.2.2 w hw
  cases w <;> first | exact va_Nw.same (u := U) (U := U.calling g mk a) rfl rfl h2 | (exact absurd h1 (by simp [isNest]))
theorem beq_f {a b : Nat} (h : ¬ a = b) : Nat.beq a b = false := by
  cases hb : Nat.beq a b with
  | false => rfl
  | true => exact absurd (Nat.eq_of_beq_eq_true hb) h
theorem beq_t {a b : Nat} (h : a = b) : Nat.beq a b = true := by subst h; exact Nat.beq_refl a
/-- the locals: what is known of them -/
def LH (ls : Array Slot) (nL : Nat) (lv : LV) : Prop := ls.size = nL ∧ lv_wf ls ∧ ∀ i v, lv i = some v → ls[i]? = some (.val v)
def lvK (nL : Nat) (lv : LV) : List (Nat × Value) := (List.range nL).filterMap (fun i => (lv i).map (fun v => (i, v)))
theorem LH.has {ls : Array Slot} {nL : Nat} {lv : LV} (h : LH ls nL lv) : lv_has ls nL (lvK nL lv) := by
  refine ⟨h.1, h.2.1, fun q hq => ?_⟩
  obtain ⟨i, -, hi⟩ := List.mem_filterMap.mp hq
  cases hv : lv i with
  | none => rw [hv] at hi; cases hi
  | some v =>
    rw [hv] at hi
    cases hi
    exact h.2.2 i v hv
theorem LH.mem {ls : Array Slot} {nL : Nat} {lv : LV} (h : LH ls nL lv) {i : Nat} {v : Value} (hv : lv i = some v) : (i, v) ∈ lvK nL lv := by
  have h1 := h.2.2 i v hv
  have h2 : i < ls.size := (Array.getElem?_eq_some_iff.mp h1).1
  exact List.mem_filterMap.mpr ⟨i, List.mem_range.mpr (by rw [← h.1]; exact h2), by rw [hv]; rfl⟩
def lset1 (lv : LV) (i : Nat) (v : Value) : LV := fun j => cond (Nat.beq j i) (some v) (cond (Nat.beq (j + 1) i) (match lv j with | some w => cond (Nat.beq w.category 2) none (some w) | none => none) (lv j))
def lset2 (lv : LV) (i : Nat) (v : Value) : LV := fun j => cond (Nat.beq j i) (some v) (cond (Nat.beq j (i + 1)) none (cond (Nat.beq (j + 1) i) (match lv j with | some w => cond (Nat.beq w.category 2) none (some w) | none => none) (lv j)))
theorem LH.set1 {ls ls' : Array Slot} {nL : Nat} {lv : LV} (h : LH ls nL lv) {i : Nat} {v : Value} (h' : lv_has ls' nL ((i, v) :: (lvK nL lv).filter (fun q => !(q.1 == i) && !(q.1 + 1 == i && q.2.category == 2)))) : LH ls' nL (lset1 lv i v) := by
  refine ⟨h'.1, h'.2.1, fun j w hw => ?_⟩
  unfold lset1 at hw
  by_cases hj : j = i
  · subst hj
    rw [Nat.beq_refl] at hw
    cases hw
    exact h'.2.2 (j, v) List.mem_cons_self
  · rw [show Nat.beq j i = false from beq_f hj] at hw
    have key : ∀ w0, lv j = some w0 → (j + 1 = i → ¬ w0.category = 2) → ls'[j]? = some (.val w0) := by
      intro w0 h0 h1
      refine h'.2.2 (j, w0) (List.mem_cons_of_mem _ (List.mem_filter.mpr ⟨h.mem h0, ?_⟩))
      simp only [Bool.and_eq_true, Bool.not_eq_true', beq_eq_false_iff_ne, Bool.and_eq_false_iff, ne_eq]
      refine ⟨hj, ?_⟩
      by_cases h2 : j + 1 = i
      · exact Or.inr (h1 h2)
      · exact Or.inl h2
    by_cases h2 : j + 1 = i
    · rw [show Nat.beq (j + 1) i = true from beq_t h2] at hw
      cases h0 : lv j with
      | none => rw [h0] at hw; cases hw
      | some w0 =>
        rw [h0] at hw
        by_cases h3 : w0.category = 2
        · simp only [show Nat.beq w0.category 2 = true from beq_t h3, cond_true, cond_false] at hw; cases hw
        · have h4 : Nat.beq w0.category 2 = false := beq_f h3
          simp only [h4, cond_true, cond_false] at hw
          cases hw
          exact key _ h0 (fun _ => h3)
    · rw [show Nat.beq (j + 1) i = false from beq_f h2] at hw
      exact key w hw (fun q => absurd q h2)
theorem LH.set2 {ls ls' : Array Slot} {nL : Nat} {lv : LV} (h : LH ls nL lv) {i : Nat} {v : Value} (h' : lv_has ls' nL ((i, v) :: (lvK nL lv).filter (fun q => !(q.1 == i) && (!(q.1 == i + 1) && !(q.1 + 1 == i && q.2.category == 2))))) : LH ls' nL (lset2 lv i v) := by
  refine ⟨h'.1, h'.2.1, fun j w hw => ?_⟩
  unfold lset2 at hw
  by_cases hj : j = i
  · subst hj
    rw [Nat.beq_refl] at hw
    cases hw
    exact h'.2.2 (j, v) List.mem_cons_self
  · rw [show Nat.beq j i = false from beq_f hj] at hw
    by_cases hj1 : j = i + 1
    · rw [show Nat.beq j (i + 1) = true from beq_t hj1] at hw; cases hw
    · rw [show Nat.beq j (i + 1) = false from beq_f hj1] at hw
      have key : ∀ w0, lv j = some w0 → (j + 1 = i → ¬ w0.category = 2) → ls'[j]? = some (.val w0) := by
        intro w0 h0 h1
        refine h'.2.2 (j, w0) (List.mem_cons_of_mem _ (List.mem_filter.mpr ⟨h.mem h0, ?_⟩))
        simp only [Bool.and_eq_true, Bool.not_eq_true', beq_eq_false_iff_ne, Bool.and_eq_false_iff, ne_eq]
        refine ⟨hj, hj1, ?_⟩
        by_cases h2 : j + 1 = i
        · exact Or.inr (h1 h2)
        · exact Or.inl h2
      by_cases h2 : j + 1 = i
      · rw [show Nat.beq (j + 1) i = true from beq_t h2] at hw
        cases h0 : lv j with
        | none => rw [h0] at hw; cases hw
        | some w0 =>
          rw [h0] at hw
          by_cases h3 : w0.category = 2
          · simp only [show Nat.beq w0.category 2 = true from beq_t h3, cond_true, cond_false] at hw; cases hw
          · have h4 : Nat.beq w0.category 2 = false := beq_f h3
            simp only [h4, cond_true, cond_false] at hw
            cases hw
            exact key _ h0 (fun _ => h3)
      · rw [show Nat.beq (j + 1) i = false from beq_f h2] at hw
        exact key w hw (fun q => absurd q h2)
def lvOf : List (Nat × Value) → LV
  | [] => fun _ => none
  | q :: t => fun i => cond (Nat.beq q.1 i) (some q.2) (lvOf t i)
theorem lvOf_mem : ∀ (t : List (Nat × Value)) (i : Nat) (v : Value), lvOf t i = some v → (i, v) ∈ t
  | [], i, v, h => by cases h
  | q :: t, i, v, h => by
    unfold lvOf at h
    by_cases hq : q.1 = i
    · subst hq
      rw [Nat.beq_refl] at h
      cases h
      exact List.mem_cons_self
    · rw [show Nat.beq q.1 i = false from beq_f hq] at h
      exact List.mem_cons_of_mem _ (lvOf_mem t i v h)
theorem LH.of {ls : Array Slot} {nL : Nat} {t : List (Nat × Value)} (h : lv_has ls nL t) : LH ls nL (lvOf t) := ⟨h.1, h.2.1, fun i v hv => h.2.2 (i, v) (lvOf_mem t i v hv)⟩
theorem LH.sub {ls : Array Slot} {nL : Nat} {lv lv' : LV} (h : LH ls nL lv) (hs : ∀ i v, lv' i = some v → lv i = some v) : LH ls nL lv' := ⟨h.1, h.2.1, fun i v hv => h.2.2 i v (hs i v hv)⟩
/-- the judgement: from every heap that holds the picture and every frame with these locals, the machine comes to a state with Q -/
def V (p : Program) (l : Launch) (e : Env) (R : Room) (s : State) (m : MethodId) (args : Array Value) (below : List Frame) (meth : Method) (c : Code) (Q : State → Prop) (D : va_G) (base nL : Nat) (pic : PIC) (lv : LV) (pc : Nat) (st : List Value) (cells slots : Nat) : Prop :=
  ∀ (H : Heap) (locs : List Loc) (ls : Array Slot), WO D base pic H → va_S (fun q => base ≤ q) s.heap H locs → LH ls nL lv → W p l e R s m args below meth c H locs cells slots Q (F0 m pc ls st)
abbrev KX (p : Program) (m : MethodId) (c : Code) (cc : ByteArray) (nL : Nat) (s : State) (args : Array Value) (cw : Cond) (own : String) (D : va_G) (cA : Nat → ClassId) : Prop := CallFix p m c cc nL s args (cw :: G) own ∧ KK D cA s
section RR
variable {p : Program} {l : Launch} {e : Env} {R : Room} {s : State} {m : MethodId} {args : Array Value} {below : List Frame} {meth : Method} {c : Code} {Q : State → Prop} {D : va_G} {cA : Nat → ClassId} {base nL : Nat} {pic : PIC} {lv : LV} {pc : Nat} {st : List Value} {cells slots : Nat} {cc : ByteArray} {cw : Cond} {own : String}
theorem KX.word (K : KX p m c cc nL s args cw own D cA) {w : Cond} (h : w ∈ G) : w.before args s = true := K.1.2.2.2.2 w (List.mem_cons_of_mem _ h)
theorem WO.one {H : Heap} (h : WO D base pic H) {r a : Nat} {e : va_E} (he : pic r = some (a, e)) : va_P D vwCl [(a, e)] H := by
  intro k q hk
  match k, hk with
  | 0, hk => cases hk; exact (h.2.1 r a e he).1
/-- one role's cell has changed -/
theorem WO.put {H H1 : Heap} (h : WO D base pic H) {r a : Nat} {e0 e1 : va_E} (he : pic r = some (a, e0)) (hn : va_at D vwCl (a, e1) H1) (z : H1.size = H.size) (oq : ∀ q : Nat, q ≠ a → H1[q]? = H[q]?) : WO D base (va_up pic r (some (a, e1))) H1 := by
  refine ⟨by rw [z]; exact h.1, fun q b e' hq => ?_, fun q q' b e' e2 hq hq' => ?_⟩
  · by_cases hr : q = r
    · subst hr
      rw [va_up_self] at hq
      cases hq
      exact ⟨hn, (h.2.1 q a e0 he).2⟩
    · rw [va_up_ne _ _ hr] at hq
      have hb : b ≠ a := fun hba => hr (h.2.2 q r b e' e0 hq (by rw [hba]; exact he))
      exact ⟨(h.2.1 q b e' hq).1.kept (oq b hb), (h.2.1 q b e' hq).2⟩
  · have f : ∀ z b e', va_up pic r (some (a, e1)) z = some (b, e') → ∃ e3, pic z = some (b, e3) := by
      intro z b e' hz
      by_cases hr : z = r
      · subst hr
        rw [va_up_self] at hz
        cases hz
        exact ⟨e0, he⟩
      · rw [va_up_ne _ _ hr] at hz
        exact ⟨e', hz⟩
    obtain ⟨e3, h3⟩ := f q b e' hq
    obtain ⟨e4, h4⟩ := f q' b e2 hq'
    exact h.2.2 q q' b e3 e4 h3 h4
/-- a new cell, for a role that had none -/
theorem WO.new {H H1 : Heap} (h : WO D base pic H) (r : Nat) {e1 : va_E} (hr0 : pic r = none) (hn : va_at D vwCl (H.size, e1) H1) (z : H1.size = H.size + 1) (oq : ∀ q : Nat, q < H.size → H1[q]? = H[q]?) : WO D base (va_up pic r (some (H.size, e1))) H1 := by
  refine ⟨by rw [z]; exact Nat.le_succ_of_le h.1, fun q b e' hq => ?_, fun q q' b e' e2 hq hq' => ?_⟩
  · by_cases hr : q = r
    · subst hr
      rw [va_up_self] at hq
      cases hq
      exact ⟨hn, h.1⟩
    · rw [va_up_ne _ _ hr] at hq
      have h1 := h.2.1 q b e' hq
      exact ⟨h1.1.kept (oq b h1.1.lt), h1.2⟩
  · by_cases hr : q = r
    · by_cases hr' : q' = r
      · rw [hr, hr']
      · rw [hr, va_up_self] at hq
        rw [va_up_ne _ _ hr'] at hq'
        cases hq
        exact absurd (h.2.1 q' H.size e2 hq').1.lt (Nat.lt_irrefl _)
    · rw [va_up_ne _ _ hr] at hq
      by_cases hr' : q' = r
      · rw [hr', va_up_self] at hq'
        cases hq'
        exact absurd (h.2.1 q H.size e' hq).1.lt (Nat.lt_irrefl _)
      · rw [va_up_ne _ _ hr'] at hq'
        exact h.2.2 q q' b e' e2 hq hq'
theorem V.locals {lv' : LV} (hs : ∀ i v, lv' i = some v → lv i = some v) (k : V p l e R s m args below meth c Q D base nL pic lv' pc st cells slots) : V p l e R s m args below meth c Q D base nL pic lv pc st cells slots := fun H locs ls hP hS hl => k H locs ls hP hS (hl.sub hs)
theorem V.widen {k n : Nat} (h1 : cells ≤ k) (h2 : slots ≤ n) (kk : V p l e R s m args below meth c Q D base nL pic lv pc st k n) : V p l e R s m args below meth c Q D base nL pic lv pc st cells slots := fun H locs ls hP hS hl => W.widen h1 h2 (kk H locs ls hP hS hl)

theorem v_iconst (K : KX p m c cc nL s args cw own D cA) {n : Int} {v : Int32} (d : decode cc pc = .ok (.iconst n, 1)) (hv : Int32.ofInt n = v) (k : V p l e R s m args below meth c Q D base nL pic lv (pc + 1) (.int v :: st) cells slots) : V p l e R s m args below meth c Q D base nL pic lv (pc) (st) cells slots := fun H locs ls hP hS hl => lv_iconst K.1.1 K.1.2.1 d hv (k H locs ls hP hS hl)
theorem v_bipush (K : KX p m c cc nL s args cw own D cA) {n : Int} {v : Int32} (d : decode cc pc = .ok (.bipush n, 2)) (hv : (Int8.ofInt n).toInt32 = v) (k : V p l e R s m args below meth c Q D base nL pic lv (pc + 2) (.int v :: st) cells slots) : V p l e R s m args below meth c Q D base nL pic lv (pc) (st) cells slots := fun H locs ls hP hS hl => lv_bipush K.1.1 K.1.2.1 d hv (k H locs ls hP hS hl)
theorem v_sipush (K : KX p m c cc nL s args cw own D cA) {n : Int} {v : Int32} (d : decode cc pc = .ok (.sipush n, 3)) (hv : (Int16.ofInt n).toInt32 = v) (k : V p l e R s m args below meth c Q D base nL pic lv (pc + 3) (.int v :: st) cells slots) : V p l e R s m args below meth c Q D base nL pic lv (pc) (st) cells slots := fun H locs ls hP hS hl => lv_sipush K.1.1 K.1.2.1 d hv (k H locs ls hP hS hl)
theorem v_lconst (K : KX p m c cc nL s args cw own D cA) {n : Fin 2} {v : Int64} (d : decode cc pc = .ok (.lconst n, 1)) (hv : Int64.ofNat (n : Nat) = v) (k : V p l e R s m args below meth c Q D base nL pic lv (pc + 1) (.long v :: st) cells slots) : V p l e R s m args below meth c Q D base nL pic lv (pc) (st) cells slots := fun H locs ls hP hS hl => lv_lconst K.1.1 K.1.2.1 d hv (k H locs ls hP hS hl)
theorem v_null (K : KX p m c cc nL s args cw own D cA)  (d : decode cc pc = .ok (.aconst_null, 1)) (k : V p l e R s m args below meth c Q D base nL pic lv (pc + 1) (.null :: st) cells slots) : V p l e R s m args below meth c Q D base nL pic lv (pc) (st) cells slots := fun H locs ls hP hS hl => lv_null K.1.1 K.1.2.1 d (k H locs ls hP hS hl)
theorem v_ldc2 (K : KX p m c cc nL s args cw own D cA) {index : Nat} {v : Int64} (hw : Cond.constantLong own index v ∈ G) (d : decode cc pc = .ok (.ldc2_w index, 3)) (k : V p l e R s m args below meth c Q D base nL pic lv (pc + 3) (.long v :: st) cells slots) : V p l e R s m args below meth c Q D base nL pic lv (pc) (st) cells slots := fun H locs ls hP hS hl => lv_ldc2 K.1.1 K.1.2.1 K.1.2.2.2.1 (K.word hw) d (k H locs ls hP hS hl)
theorem v_iload_n (K : KX p m c cc nL s args cw own D cA) {j : Fin 4} {x : Int32} (i : Nat) (d : decode cc pc = .ok (.iload_n j, 1)) (hi : (j : Nat) = i) (h : lv i = some (.int x)) (k : V p l e R s m args below meth c Q D base nL pic lv (pc + 1) (.int x :: st) cells slots) : V p l e R s m args below meth c Q D base nL pic lv (pc) (st) cells slots := fun H locs ls hP hS hl => lv_iload_n K.1.1 K.1.2.1 d hi (hl.2.2 i _ h) (k H locs ls hP hS hl)
theorem v_iload (K : KX p m c cc nL s args cw own D cA) {i : Nat} {x : Int32} (d : decode cc pc = .ok (.iload i, 2)) (h : lv i = some (.int x)) (k : V p l e R s m args below meth c Q D base nL pic lv (pc + 2) (.int x :: st) cells slots) : V p l e R s m args below meth c Q D base nL pic lv (pc) (st) cells slots := fun H locs ls hP hS hl => lv_iload K.1.1 K.1.2.1 d (hl.2.2 i _ h) (k H locs ls hP hS hl)
theorem v_lload_n (K : KX p m c cc nL s args cw own D cA) {j : Fin 4} {x : Int64} (i : Nat) (d : decode cc pc = .ok (.lload_n j, 1)) (hi : (j : Nat) = i) (h : lv i = some (.long x)) (k : V p l e R s m args below meth c Q D base nL pic lv (pc + 1) (.long x :: st) cells slots) : V p l e R s m args below meth c Q D base nL pic lv (pc) (st) cells slots := fun H locs ls hP hS hl => lv_lload_n K.1.1 K.1.2.1 d hi (hl.2.2 i _ h) (k H locs ls hP hS hl)
theorem v_lload (K : KX p m c cc nL s args cw own D cA) {i : Nat} {x : Int64} (d : decode cc pc = .ok (.lload i, 2)) (h : lv i = some (.long x)) (k : V p l e R s m args below meth c Q D base nL pic lv (pc + 2) (.long x :: st) cells slots) : V p l e R s m args below meth c Q D base nL pic lv (pc) (st) cells slots := fun H locs ls hP hS hl => lv_lload K.1.1 K.1.2.1 d (hl.2.2 i _ h) (k H locs ls hP hS hl)
theorem v_aload_n (K : KX p m c cc nL s args cw own D cA) {j : Fin 4} {x : Nat} (i : Nat) (d : decode cc pc = .ok (.aload_n j, 1)) (hi : (j : Nat) = i) (h : lv i = some (.ref x)) (k : V p l e R s m args below meth c Q D base nL pic lv (pc + 1) (.ref x :: st) cells slots) : V p l e R s m args below meth c Q D base nL pic lv (pc) (st) cells slots := fun H locs ls hP hS hl => lv_aload_n K.1.1 K.1.2.1 d hi (hl.2.2 i _ h) (k H locs ls hP hS hl)
theorem v_aload (K : KX p m c cc nL s args cw own D cA) {i : Nat} {x : Nat} (d : decode cc pc = .ok (.aload i, 2)) (h : lv i = some (.ref x)) (k : V p l e R s m args below meth c Q D base nL pic lv (pc + 2) (.ref x :: st) cells slots) : V p l e R s m args below meth c Q D base nL pic lv (pc) (st) cells slots := fun H locs ls hP hS hl => lv_aload K.1.1 K.1.2.1 d (hl.2.2 i _ h) (k H locs ls hP hS hl)
theorem v_aloadN_n (K : KX p m c cc nL s args cw own D cA) {j : Fin 4} (i : Nat) (d : decode cc pc = .ok (.aload_n j, 1)) (hi : (j : Nat) = i) (h : lv i = some .null) (k : V p l e R s m args below meth c Q D base nL pic lv (pc + 1) (.null :: st) cells slots) : V p l e R s m args below meth c Q D base nL pic lv (pc) (st) cells slots := fun H locs ls hP hS hl => lv_aload_nN K.1.1 K.1.2.1 d hi (hl.2.2 i _ h) (k H locs ls hP hS hl)
theorem v_aloadN (K : KX p m c cc nL s args cw own D cA) {i : Nat} (d : decode cc pc = .ok (.aload i, 2)) (h : lv i = some .null) (k : V p l e R s m args below meth c Q D base nL pic lv (pc + 2) (.null :: st) cells slots) : V p l e R s m args below meth c Q D base nL pic lv (pc) (st) cells slots := fun H locs ls hP hS hl => lv_aloadN K.1.1 K.1.2.1 d (hl.2.2 i _ h) (k H locs ls hP hS hl)
theorem v_istore_n (K : KX p m c cc nL s args cw own D cA) {j : Fin 4} {x : Int32} (i : Nat) (d : decode cc pc = .ok (.istore_n j, 1)) (hi : (j : Nat) = i) (hn : i < nL) (k : V p l e R s m args below meth c Q D base nL pic (lset1 lv i (.int x)) (pc + 1) (st) cells slots) : V p l e R s m args below meth c Q D base nL pic lv (pc) (.int x :: st) cells slots := fun H locs ls hP hS hl => lv_istore_n K.1.1 K.1.2.1 d hi hl.has hn rfl (fun ls2 h2 => k H locs ls2 hP hS (hl.set1 h2))
theorem v_istore (K : KX p m c cc nL s args cw own D cA) {i : Nat} {x : Int32} (d : decode cc pc = .ok (.istore i, 2)) (hn : i < nL) (k : V p l e R s m args below meth c Q D base nL pic (lset1 lv i (.int x)) (pc + 2) (st) cells slots) : V p l e R s m args below meth c Q D base nL pic lv (pc) (.int x :: st) cells slots := fun H locs ls hP hS hl => lv_istore K.1.1 K.1.2.1 d hl.has hn rfl (fun ls2 h2 => k H locs ls2 hP hS (hl.set1 h2))
theorem v_lstore_n (K : KX p m c cc nL s args cw own D cA) {j : Fin 4} {x : Int64} (i : Nat) (d : decode cc pc = .ok (.lstore_n j, 1)) (hi : (j : Nat) = i) (hn : i + 1 < nL) (k : V p l e R s m args below meth c Q D base nL pic (lset2 lv i (.long x)) (pc + 1) (st) cells slots) : V p l e R s m args below meth c Q D base nL pic lv (pc) (.long x :: st) cells slots := fun H locs ls hP hS hl => lv_lstore_n K.1.1 K.1.2.1 d hi hl.has hn rfl (fun ls2 h2 => k H locs ls2 hP hS (hl.set2 h2))
theorem v_lstore (K : KX p m c cc nL s args cw own D cA) {i : Nat} {x : Int64} (d : decode cc pc = .ok (.lstore i, 2)) (hn : i + 1 < nL) (k : V p l e R s m args below meth c Q D base nL pic (lset2 lv i (.long x)) (pc + 2) (st) cells slots) : V p l e R s m args below meth c Q D base nL pic lv (pc) (.long x :: st) cells slots := fun H locs ls hP hS hl => lv_lstore K.1.1 K.1.2.1 d hl.has hn rfl (fun ls2 h2 => k H locs ls2 hP hS (hl.set2 h2))
theorem v_astore_n (K : KX p m c cc nL s args cw own D cA) {j : Fin 4} {x : Nat} (i : Nat) (d : decode cc pc = .ok (.astore_n j, 1)) (hi : (j : Nat) = i) (hn : i < nL) (k : V p l e R s m args below meth c Q D base nL pic (lset1 lv i (.ref x)) (pc + 1) (st) cells slots) : V p l e R s m args below meth c Q D base nL pic lv (pc) (.ref x :: st) cells slots := fun H locs ls hP hS hl => lv_astore_n K.1.1 K.1.2.1 d hi hl.has hn rfl (fun ls2 h2 => k H locs ls2 hP hS (hl.set1 h2))
theorem v_astore (K : KX p m c cc nL s args cw own D cA) {i : Nat} {x : Nat} (d : decode cc pc = .ok (.astore i, 2)) (hn : i < nL) (k : V p l e R s m args below meth c Q D base nL pic (lset1 lv i (.ref x)) (pc + 2) (st) cells slots) : V p l e R s m args below meth c Q D base nL pic lv (pc) (.ref x :: st) cells slots := fun H locs ls hP hS hl => lv_astore K.1.1 K.1.2.1 d hl.has hn rfl (fun ls2 h2 => k H locs ls2 hP hS (hl.set1 h2))
theorem v_astoreN_n (K : KX p m c cc nL s args cw own D cA) {j : Fin 4} (i : Nat) (d : decode cc pc = .ok (.astore_n j, 1)) (hi : (j : Nat) = i) (hn : i < nL) (k : V p l e R s m args below meth c Q D base nL pic (lset1 lv i .null) (pc + 1) (st) cells slots) : V p l e R s m args below meth c Q D base nL pic lv (pc) (.null :: st) cells slots := fun H locs ls hP hS hl => lv_astore_nN K.1.1 K.1.2.1 d hi hl.has hn rfl (fun ls2 h2 => k H locs ls2 hP hS (hl.set1 h2))
theorem v_astoreN (K : KX p m c cc nL s args cw own D cA) {i : Nat} (d : decode cc pc = .ok (.astore i, 2)) (hn : i < nL) (k : V p l e R s m args below meth c Q D base nL pic (lset1 lv i .null) (pc + 2) (st) cells slots) : V p l e R s m args below meth c Q D base nL pic lv (pc) (.null :: st) cells slots := fun H locs ls hP hS hl => lv_astoreN K.1.1 K.1.2.1 d hl.has hn rfl (fun ls2 h2 => k H locs ls2 hP hS (hl.set1 h2))
theorem v_iinc (K : KX p m c cc nL s args cw own D cA) {i : Nat} {n : Int} {x : Int32} (v : Int32) (d : decode cc pc = .ok (.iinc i n, 3)) (h : lv i = some (.int x)) (hv : x + Int32.ofInt n = v) (hn : i < nL) (k : V p l e R s m args below meth c Q D base nL pic (lset1 lv i (.int v)) (pc + 3) (st) cells slots) : V p l e R s m args below meth c Q D base nL pic lv (pc) (st) cells slots := by
  intro H locs ls hP hS hl
  obtain ⟨j, hj⟩ := List.getElem?_of_mem (hl.mem h)
  exact lv_iinc K.1.1 K.1.2.1 d hl.has hj hv hn rfl (fun ls2 h2 => k H locs ls2 hP hS (hl.set1 h2))
theorem v_iincN (K : KX p m c cc nL s args cw own D cA) {i a : Nat} {n : Int} (b : Nat) (d : decode cc pc = .ok (.iinc i n, 3)) (h : lv i = some (.int (nI a))) (hv : Int32.ofInt n = nI b) (hn : i < nL) (k : V p l e R s m args below meth c Q D base nL pic (lset1 lv i (.int (nI (a + b)))) (pc + 3) (st) cells slots) : V p l e R s m args below meth c Q D base nL pic lv (pc) (st) cells slots := v_iinc K (nI (a + b)) d h (by rw [hv, nI_add]) hn k
theorem v_iincM (K : KX p m c cc nL s args cw own D cA) {i a : Nat} (d : decode cc pc = .ok (.iinc i (-1), 3)) (h : lv i = some (.int (nI a))) (ha : 0 < a) (hn : i < nL) (k : V p l e R s m args below meth c Q D base nL pic (lset1 lv i (.int (nI (a - 1)))) (pc + 3) (st) cells slots) : V p l e R s m args below meth c Q D base nL pic lv (pc) (st) cells slots := v_iinc K (nI (a - 1)) d h (by rw [show Int32.ofInt (-1) = -1 from by decide]; exact sb_m1 ha) hn k
theorem v_iadd (K : KX p m c cc nL s args cw own D cA) {x y : Int32} (d : decode cc pc = .ok (.iadd, 1)) (k : V p l e R s m args below meth c Q D base nL pic lv (pc + 1) (.int (x + y) :: st) cells slots) : V p l e R s m args below meth c Q D base nL pic lv (pc) (.int y :: .int x :: st) cells slots := fun H locs ls hP hS hl => lv_iadd K.1.1 K.1.2.1 d (k H locs ls hP hS hl)
theorem v_isub (K : KX p m c cc nL s args cw own D cA) {x y : Int32} (d : decode cc pc = .ok (.isub, 1)) (k : V p l e R s m args below meth c Q D base nL pic lv (pc + 1) (.int (x - y) :: st) cells slots) : V p l e R s m args below meth c Q D base nL pic lv (pc) (.int y :: .int x :: st) cells slots := fun H locs ls hP hS hl => lv_isub K.1.1 K.1.2.1 d (k H locs ls hP hS hl)
theorem v_imul (K : KX p m c cc nL s args cw own D cA) {x y : Int32} (d : decode cc pc = .ok (.imul, 1)) (k : V p l e R s m args below meth c Q D base nL pic lv (pc + 1) (.int (x * y) :: st) cells slots) : V p l e R s m args below meth c Q D base nL pic lv (pc) (.int y :: .int x :: st) cells slots := fun H locs ls hP hS hl => lv_imul K.1.1 K.1.2.1 d (k H locs ls hP hS hl)
theorem v_iand (K : KX p m c cc nL s args cw own D cA) {x y : Int32} (d : decode cc pc = .ok (.iand, 1)) (k : V p l e R s m args below meth c Q D base nL pic lv (pc + 1) (.int (x &&& y) :: st) cells slots) : V p l e R s m args below meth c Q D base nL pic lv (pc) (.int y :: .int x :: st) cells slots := fun H locs ls hP hS hl => lv_iand K.1.1 K.1.2.1 d (k H locs ls hP hS hl)
theorem v_ior (K : KX p m c cc nL s args cw own D cA) {x y : Int32} (d : decode cc pc = .ok (.ior, 1)) (k : V p l e R s m args below meth c Q D base nL pic lv (pc + 1) (.int (x ||| y) :: st) cells slots) : V p l e R s m args below meth c Q D base nL pic lv (pc) (.int y :: .int x :: st) cells slots := fun H locs ls hP hS hl => lv_ior K.1.1 K.1.2.1 d (k H locs ls hP hS hl)
theorem v_ixor (K : KX p m c cc nL s args cw own D cA) {x y : Int32} (d : decode cc pc = .ok (.ixor, 1)) (k : V p l e R s m args below meth c Q D base nL pic lv (pc + 1) (.int (x ^^^ y) :: st) cells slots) : V p l e R s m args below meth c Q D base nL pic lv (pc) (.int y :: .int x :: st) cells slots := fun H locs ls hP hS hl => lv_ixor K.1.1 K.1.2.1 d (k H locs ls hP hS hl)
theorem v_ladd (K : KX p m c cc nL s args cw own D cA) {x y : Int64} (d : decode cc pc = .ok (.ladd, 1)) (k : V p l e R s m args below meth c Q D base nL pic lv (pc + 1) (.long (x + y) :: st) cells slots) : V p l e R s m args below meth c Q D base nL pic lv (pc) (.long y :: .long x :: st) cells slots := fun H locs ls hP hS hl => lv_ladd K.1.1 K.1.2.1 d (k H locs ls hP hS hl)
theorem v_lsub (K : KX p m c cc nL s args cw own D cA) {x y : Int64} (d : decode cc pc = .ok (.lsub, 1)) (k : V p l e R s m args below meth c Q D base nL pic lv (pc + 1) (.long (x - y) :: st) cells slots) : V p l e R s m args below meth c Q D base nL pic lv (pc) (.long y :: .long x :: st) cells slots := fun H locs ls hP hS hl => lv_lsub K.1.1 K.1.2.1 d (k H locs ls hP hS hl)
theorem v_lmul (K : KX p m c cc nL s args cw own D cA) {x y : Int64} (d : decode cc pc = .ok (.lmul, 1)) (k : V p l e R s m args below meth c Q D base nL pic lv (pc + 1) (.long (x * y) :: st) cells slots) : V p l e R s m args below meth c Q D base nL pic lv (pc) (.long y :: .long x :: st) cells slots := fun H locs ls hP hS hl => lv_lmul K.1.1 K.1.2.1 d (k H locs ls hP hS hl)
theorem v_land (K : KX p m c cc nL s args cw own D cA) {x y : Int64} (d : decode cc pc = .ok (.land, 1)) (k : V p l e R s m args below meth c Q D base nL pic lv (pc + 1) (.long (x &&& y) :: st) cells slots) : V p l e R s m args below meth c Q D base nL pic lv (pc) (.long y :: .long x :: st) cells slots := fun H locs ls hP hS hl => lv_land K.1.1 K.1.2.1 d (k H locs ls hP hS hl)
theorem v_lor (K : KX p m c cc nL s args cw own D cA) {x y : Int64} (d : decode cc pc = .ok (.lor, 1)) (k : V p l e R s m args below meth c Q D base nL pic lv (pc + 1) (.long (x ||| y) :: st) cells slots) : V p l e R s m args below meth c Q D base nL pic lv (pc) (.long y :: .long x :: st) cells slots := fun H locs ls hP hS hl => lv_lor K.1.1 K.1.2.1 d (k H locs ls hP hS hl)
theorem v_lxor (K : KX p m c cc nL s args cw own D cA) {x y : Int64} (d : decode cc pc = .ok (.lxor, 1)) (k : V p l e R s m args below meth c Q D base nL pic lv (pc + 1) (.long (x ^^^ y) :: st) cells slots) : V p l e R s m args below meth c Q D base nL pic lv (pc) (.long y :: .long x :: st) cells slots := fun H locs ls hP hS hl => lv_lxor K.1.1 K.1.2.1 d (k H locs ls hP hS hl)
theorem v_iaddN (K : KX p m c cc nL s args cw own D cA) {a b : Nat} (d : decode cc pc = .ok (.iadd, 1)) (k : V p l e R s m args below meth c Q D base nL pic lv (pc + 1) (.int (nI (a + b)) :: st) cells slots) : V p l e R s m args below meth c Q D base nL pic lv (pc) (.int (nI b) :: .int (nI a) :: st) cells slots := fun H locs ls hP hS hl => lv_iadd K.1.1 K.1.2.1 d (by rw [nI_add]; exact k H locs ls hP hS hl)
theorem v_isubN (K : KX p m c cc nL s args cw own D cA) {a b : Nat} (d : decode cc pc = .ok (.isub, 1)) (h : b ≤ a) (k : V p l e R s m args below meth c Q D base nL pic lv (pc + 1) (.int (nI (a - b)) :: st) cells slots) : V p l e R s m args below meth c Q D base nL pic lv (pc) (.int (nI b) :: .int (nI a) :: st) cells slots := fun H locs ls hP hS hl => lv_isub K.1.1 K.1.2.1 d (by rw [pk_sub h]; exact k H locs ls hP hS hl)
theorem v_imulN (K : KX p m c cc nL s args cw own D cA) {a b : Nat} (d : decode cc pc = .ok (.imul, 1)) (k : V p l e R s m args below meth c Q D base nL pic lv (pc + 1) (.int (nI (a * b)) :: st) cells slots) : V p l e R s m args below meth c Q D base nL pic lv (pc) (.int (nI b) :: .int (nI a) :: st) cells slots := fun H locs ls hP hS hl => lv_imul K.1.1 K.1.2.1 d (by rw [pk_mul]; exact k H locs ls hP hS hl)
theorem v_idivN (K : KX p m c cc nL s args cw own D cA) {a b : Nat} (d : decode cc pc = .ok (.idiv, 1)) (ha : a < 2 ^ 31) (h0 : 0 < b) (hb : b < 2 ^ 31) (k : V p l e R s m args below meth c Q D base nL pic lv (pc + 1) (.int (nI (a / b)) :: st) cells slots) : V p l e R s m args below meth c Q D base nL pic lv (pc) (.int (nI b) :: .int (nI a) :: st) cells slots := fun H locs ls hP hS hl => lv_idiv K.1.1 K.1.2.1 d (nI_ne0 h0 hb) (by rw [pk_div ha h0 hb]; exact k H locs ls hP hS hl)
theorem v_iremN (K : KX p m c cc nL s args cw own D cA) {a b : Nat} (d : decode cc pc = .ok (.irem, 1)) (ha : a < 2 ^ 31) (h0 : 0 < b) (hb : b < 2 ^ 31) (k : V p l e R s m args below meth c Q D base nL pic lv (pc + 1) (.int (nI (a % b)) :: st) cells slots) : V p l e R s m args below meth c Q D base nL pic lv (pc) (.int (nI b) :: .int (nI a) :: st) cells slots := fun H locs ls hP hS hl => lv_irem K.1.1 K.1.2.1 d (nI_ne0 h0 hb) (by rw [pk_rem ha h0 hb]; exact k H locs ls hP hS hl)
theorem v_irem (K : KX p m c cc nL s args cw own D cA) {x y : Int32} (d : decode cc pc = .ok (.irem, 1)) (h0 : ¬ y = 0) (k : V p l e R s m args below meth c Q D base nL pic lv (pc + 1) (.int (x - x / y * y) :: st) cells slots) : V p l e R s m args below meth c Q D base nL pic lv (pc) (.int y :: .int x :: st) cells slots := fun H locs ls hP hS hl => lv_irem K.1.1 K.1.2.1 d h0 (k H locs ls hP hS hl)
theorem v_idiv (K : KX p m c cc nL s args cw own D cA) {x y : Int32} (d : decode cc pc = .ok (.idiv, 1)) (h0 : ¬ y = 0) (k : V p l e R s m args below meth c Q D base nL pic lv (pc + 1) (.int (x / y) :: st) cells slots) : V p l e R s m args below meth c Q D base nL pic lv (pc) (.int y :: .int x :: st) cells slots := fun H locs ls hP hS hl => lv_idiv K.1.1 K.1.2.1 d h0 (k H locs ls hP hS hl)
theorem v_i2l (K : KX p m c cc nL s args cw own D cA) {x : Int32} (d : decode cc pc = .ok (.i2l, 1)) (k : V p l e R s m args below meth c Q D base nL pic lv (pc + 1) (.long x.toInt64 :: st) cells slots) : V p l e R s m args below meth c Q D base nL pic lv (pc) (.int x :: st) cells slots := fun H locs ls hP hS hl => lv_i2l K.1.1 K.1.2.1 d rfl (k H locs ls hP hS hl)
theorem v_lshl (K : KX p m c cc nL s args cw own D cA) {x : Int64} {y : Int32} (d : decode cc pc = .ok (.lshl, 1)) (k : V p l e R s m args below meth c Q D base nL pic lv (pc + 1) (.long (x <<< (y.toInt64 &&& 63)) :: st) cells slots) : V p l e R s m args below meth c Q D base nL pic lv (pc) (.int y :: .long x :: st) cells slots := fun H locs ls hP hS hl => lv_lshl K.1.1 K.1.2.1 d rfl (k H locs ls hP hS hl)
theorem v_lushr (K : KX p m c cc nL s args cw own D cA) {x : Int64} {y : Int32} (d : decode cc pc = .ok (.lushr, 1)) (k : V p l e R s m args below meth c Q D base nL pic lv (pc + 1) (.long (x.toUInt64 >>> (y.toInt64.toUInt64 &&& Int64.toUInt64 63)).toInt64 :: st) cells slots) : V p l e R s m args below meth c Q D base nL pic lv (pc) (.int y :: .long x :: st) cells slots := fun H locs ls hP hS hl => lv_lushr K.1.1 K.1.2.1 d rfl (k H locs ls hP hS hl)
theorem v_lcmp (K : KX p m c cc nL s args cw own D cA) {x y : Int64} (d : decode cc pc = .ok (.lcmp, 1)) (k : V p l e R s m args below meth c Q D base nL pic lv (pc + 1) (.int (lg_cmp x y) :: st) cells slots) : V p l e R s m args below meth c Q D base nL pic lv (pc) (.long y :: .long x :: st) cells slots := fun H locs ls hP hS hl => W.lcmp K.1.1 K.1.2.1 d (k H locs ls hP hS hl)
theorem v_top {w v : Value} (h : w = v) (k : V p l e R s m args below meth c Q D base nL pic lv (pc) (v :: st) cells slots) : V p l e R s m args below meth c Q D base nL pic lv (pc) (w :: st) cells slots := h ▸ k
theorem v_top2 {w v u : Value} (h : w = v) (k : V p l e R s m args below meth c Q D base nL pic lv (pc) (u :: v :: st) cells slots) : V p l e R s m args below meth c Q D base nL pic lv (pc) (u :: w :: st) cells slots := h ▸ k
theorem v_dup (K : KX p m c cc nL s args cw own D cA) {v : Value} (d : decode cc pc = .ok (.dup, 1)) (hv : v.category = 1) (k : V p l e R s m args below meth c Q D base nL pic lv (pc + 1) (v :: v :: st) cells slots) : V p l e R s m args below meth c Q D base nL pic lv (pc) (v :: st) cells slots := fun H locs ls hP hS hl => lv_dup K.1.1 K.1.2.1 d hv (k H locs ls hP hS hl)
theorem v_pop (K : KX p m c cc nL s args cw own D cA) {v : Value} (d : decode cc pc = .ok (.pop, 1)) (hv : v.category = 1) (k : V p l e R s m args below meth c Q D base nL pic lv (pc + 1) (st) cells slots) : V p l e R s m args below meth c Q D base nL pic lv (pc) (v :: st) cells slots := fun H locs ls hP hS hl => lv_pop K.1.1 K.1.2.1 d hv (k H locs ls hP hS hl)
theorem v_dup2 (K : KX p m c cc nL s args cw own D cA) {v w : Value} (d : decode cc pc = .ok (.dup2, 1)) (hv : v.category = 1) (hw : w.category = 1) (k : V p l e R s m args below meth c Q D base nL pic lv (pc + 1) (v :: w :: v :: w :: st) cells slots) : V p l e R s m args below meth c Q D base nL pic lv (pc) (v :: w :: st) cells slots := fun H locs ls hP hS hl => lv_dup2_11 K.1.1 K.1.2.1 d hv hw (k H locs ls hP hS hl)
theorem v_icmp_eq (K : KX p m c cc nL s args cw own D cA) {x y : Int32} {i j off : Int} (tgt : Nat) (d : decode cc pc = .ok (.if_icmp .eq off, 3)) (ht : (pc : Int) + off = (tgt : Int)) (hx : x.toInt = i) (hy : y.toInt = j) (kt : i = j → V p l e R s m args below meth c Q D base nL pic lv (tgt) (st) cells slots) (kf : i ≠ j → V p l e R s m args below meth c Q D base nL pic lv (pc + 3) (st) cells slots) : V p l e R s m args below meth c Q D base nL pic lv (pc) (.int y :: .int x :: st) cells slots := by
  subst hx; subst hy
  exact fun H locs ls hP hS hl => lv_icmp_eq K.1.1 K.1.2.1 d ht (fun cd => kt (Int32.toInt_inj.mpr cd) H locs ls hP hS hl) (fun cd => kf (fun q => cd (Int32.toInt_inj.mp q)) H locs ls hP hS hl)
theorem v_if_eq (K : KX p m c cc nL s args cw own D cA) {x : Int32} {i off : Int} (tgt : Nat) (d : decode cc pc = .ok (.ifCond .eq off, 3)) (ht : (pc : Int) + off = (tgt : Int)) (hx : x.toInt = i) (kt : i = 0 → V p l e R s m args below meth c Q D base nL pic lv (tgt) (st) cells slots) (kf : i ≠ 0 → V p l e R s m args below meth c Q D base nL pic lv (pc + 3) (st) cells slots) : V p l e R s m args below meth c Q D base nL pic lv (pc) (.int x :: st) cells slots := by
  subst hx
  exact fun H locs ls hP hS hl => lv_if_eq K.1.1 K.1.2.1 d ht (fun cd => kt (Int32.toInt_inj.mpr cd) H locs ls hP hS hl) (fun cd => kf (fun q => cd (Int32.toInt_inj.mp q)) H locs ls hP hS hl)
theorem v_icmp_ne (K : KX p m c cc nL s args cw own D cA) {x y : Int32} {i j off : Int} (tgt : Nat) (d : decode cc pc = .ok (.if_icmp .ne off, 3)) (ht : (pc : Int) + off = (tgt : Int)) (hx : x.toInt = i) (hy : y.toInt = j) (kt : i ≠ j → V p l e R s m args below meth c Q D base nL pic lv (tgt) (st) cells slots) (kf : i = j → V p l e R s m args below meth c Q D base nL pic lv (pc + 3) (st) cells slots) : V p l e R s m args below meth c Q D base nL pic lv (pc) (.int y :: .int x :: st) cells slots := by
  subst hx; subst hy
  exact fun H locs ls hP hS hl => lv_icmp_ne K.1.1 K.1.2.1 d ht (fun cd => kt (fun q => cd (Int32.toInt_inj.mp q)) H locs ls hP hS hl) (fun cd => kf (Int32.toInt_inj.mpr cd) H locs ls hP hS hl)
theorem v_if_ne (K : KX p m c cc nL s args cw own D cA) {x : Int32} {i off : Int} (tgt : Nat) (d : decode cc pc = .ok (.ifCond .ne off, 3)) (ht : (pc : Int) + off = (tgt : Int)) (hx : x.toInt = i) (kt : i ≠ 0 → V p l e R s m args below meth c Q D base nL pic lv (tgt) (st) cells slots) (kf : i = 0 → V p l e R s m args below meth c Q D base nL pic lv (pc + 3) (st) cells slots) : V p l e R s m args below meth c Q D base nL pic lv (pc) (.int x :: st) cells slots := by
  subst hx
  exact fun H locs ls hP hS hl => lv_if_ne K.1.1 K.1.2.1 d ht (fun cd => kt (fun q => cd (Int32.toInt_inj.mp q)) H locs ls hP hS hl) (fun cd => kf (Int32.toInt_inj.mpr cd) H locs ls hP hS hl)
theorem v_icmp_lt (K : KX p m c cc nL s args cw own D cA) {x y : Int32} {i j off : Int} (tgt : Nat) (d : decode cc pc = .ok (.if_icmp .lt off, 3)) (ht : (pc : Int) + off = (tgt : Int)) (hx : x.toInt = i) (hy : y.toInt = j) (kt : i < j → V p l e R s m args below meth c Q D base nL pic lv (tgt) (st) cells slots) (kf : j ≤ i → V p l e R s m args below meth c Q D base nL pic lv (pc + 3) (st) cells slots) : V p l e R s m args below meth c Q D base nL pic lv (pc) (.int y :: .int x :: st) cells slots := by
  subst hx; subst hy
  exact fun H locs ls hP hS hl => lv_icmp_lt K.1.1 K.1.2.1 d ht (fun cd => kt (Int32.lt_iff_toInt_lt.mp cd) H locs ls hP hS hl) (fun cd => kf (Int.not_lt.mp (fun q => cd (Int32.lt_iff_toInt_lt.mpr q))) H locs ls hP hS hl)
theorem v_if_lt (K : KX p m c cc nL s args cw own D cA) {x : Int32} {i off : Int} (tgt : Nat) (d : decode cc pc = .ok (.ifCond .lt off, 3)) (ht : (pc : Int) + off = (tgt : Int)) (hx : x.toInt = i) (kt : i < 0 → V p l e R s m args below meth c Q D base nL pic lv (tgt) (st) cells slots) (kf : 0 ≤ i → V p l e R s m args below meth c Q D base nL pic lv (pc + 3) (st) cells slots) : V p l e R s m args below meth c Q D base nL pic lv (pc) (.int x :: st) cells slots := by
  subst hx
  exact fun H locs ls hP hS hl => lv_if_lt K.1.1 K.1.2.1 d ht (fun cd => kt (Int32.lt_iff_toInt_lt.mp cd) H locs ls hP hS hl) (fun cd => kf (Int.not_lt.mp (fun q => cd (Int32.lt_iff_toInt_lt.mpr q))) H locs ls hP hS hl)
theorem v_icmp_ge (K : KX p m c cc nL s args cw own D cA) {x y : Int32} {i j off : Int} (tgt : Nat) (d : decode cc pc = .ok (.if_icmp .ge off, 3)) (ht : (pc : Int) + off = (tgt : Int)) (hx : x.toInt = i) (hy : y.toInt = j) (kt : j ≤ i → V p l e R s m args below meth c Q D base nL pic lv (tgt) (st) cells slots) (kf : i < j → V p l e R s m args below meth c Q D base nL pic lv (pc + 3) (st) cells slots) : V p l e R s m args below meth c Q D base nL pic lv (pc) (.int y :: .int x :: st) cells slots := by
  subst hx; subst hy
  exact fun H locs ls hP hS hl => lv_icmp_ge K.1.1 K.1.2.1 d ht (fun cd => kt (Int32.le_iff_toInt_le.mp cd) H locs ls hP hS hl) (fun cd => kf (Int.not_le.mp (fun q => cd (Int32.le_iff_toInt_le.mpr q))) H locs ls hP hS hl)
theorem v_if_ge (K : KX p m c cc nL s args cw own D cA) {x : Int32} {i off : Int} (tgt : Nat) (d : decode cc pc = .ok (.ifCond .ge off, 3)) (ht : (pc : Int) + off = (tgt : Int)) (hx : x.toInt = i) (kt : 0 ≤ i → V p l e R s m args below meth c Q D base nL pic lv (tgt) (st) cells slots) (kf : i < 0 → V p l e R s m args below meth c Q D base nL pic lv (pc + 3) (st) cells slots) : V p l e R s m args below meth c Q D base nL pic lv (pc) (.int x :: st) cells slots := by
  subst hx
  exact fun H locs ls hP hS hl => lv_if_ge K.1.1 K.1.2.1 d ht (fun cd => kt (Int32.le_iff_toInt_le.mp cd) H locs ls hP hS hl) (fun cd => kf (Int.not_le.mp (fun q => cd (Int32.le_iff_toInt_le.mpr q))) H locs ls hP hS hl)
theorem v_icmp_gt (K : KX p m c cc nL s args cw own D cA) {x y : Int32} {i j off : Int} (tgt : Nat) (d : decode cc pc = .ok (.if_icmp .gt off, 3)) (ht : (pc : Int) + off = (tgt : Int)) (hx : x.toInt = i) (hy : y.toInt = j) (kt : j < i → V p l e R s m args below meth c Q D base nL pic lv (tgt) (st) cells slots) (kf : i ≤ j → V p l e R s m args below meth c Q D base nL pic lv (pc + 3) (st) cells slots) : V p l e R s m args below meth c Q D base nL pic lv (pc) (.int y :: .int x :: st) cells slots := by
  subst hx; subst hy
  exact fun H locs ls hP hS hl => lv_icmp_gt K.1.1 K.1.2.1 d ht (fun cd => kt (Int32.lt_iff_toInt_lt.mp cd) H locs ls hP hS hl) (fun cd => kf (Int.not_lt.mp (fun q => cd (Int32.lt_iff_toInt_lt.mpr q))) H locs ls hP hS hl)
theorem v_if_gt (K : KX p m c cc nL s args cw own D cA) {x : Int32} {i off : Int} (tgt : Nat) (d : decode cc pc = .ok (.ifCond .gt off, 3)) (ht : (pc : Int) + off = (tgt : Int)) (hx : x.toInt = i) (kt : 0 < i → V p l e R s m args below meth c Q D base nL pic lv (tgt) (st) cells slots) (kf : i ≤ 0 → V p l e R s m args below meth c Q D base nL pic lv (pc + 3) (st) cells slots) : V p l e R s m args below meth c Q D base nL pic lv (pc) (.int x :: st) cells slots := by
  subst hx
  exact fun H locs ls hP hS hl => lv_if_gt K.1.1 K.1.2.1 d ht (fun cd => kt (Int32.lt_iff_toInt_lt.mp cd) H locs ls hP hS hl) (fun cd => kf (Int.not_lt.mp (fun q => cd (Int32.lt_iff_toInt_lt.mpr q))) H locs ls hP hS hl)
theorem v_icmp_le (K : KX p m c cc nL s args cw own D cA) {x y : Int32} {i j off : Int} (tgt : Nat) (d : decode cc pc = .ok (.if_icmp .le off, 3)) (ht : (pc : Int) + off = (tgt : Int)) (hx : x.toInt = i) (hy : y.toInt = j) (kt : i ≤ j → V p l e R s m args below meth c Q D base nL pic lv (tgt) (st) cells slots) (kf : j < i → V p l e R s m args below meth c Q D base nL pic lv (pc + 3) (st) cells slots) : V p l e R s m args below meth c Q D base nL pic lv (pc) (.int y :: .int x :: st) cells slots := by
  subst hx; subst hy
  exact fun H locs ls hP hS hl => lv_icmp_le K.1.1 K.1.2.1 d ht (fun cd => kt (Int32.le_iff_toInt_le.mp cd) H locs ls hP hS hl) (fun cd => kf (Int.not_le.mp (fun q => cd (Int32.le_iff_toInt_le.mpr q))) H locs ls hP hS hl)
theorem v_if_le (K : KX p m c cc nL s args cw own D cA) {x : Int32} {i off : Int} (tgt : Nat) (d : decode cc pc = .ok (.ifCond .le off, 3)) (ht : (pc : Int) + off = (tgt : Int)) (hx : x.toInt = i) (kt : i ≤ 0 → V p l e R s m args below meth c Q D base nL pic lv (tgt) (st) cells slots) (kf : 0 < i → V p l e R s m args below meth c Q D base nL pic lv (pc + 3) (st) cells slots) : V p l e R s m args below meth c Q D base nL pic lv (pc) (.int x :: st) cells slots := by
  subst hx
  exact fun H locs ls hP hS hl => lv_if_le K.1.1 K.1.2.1 d ht (fun cd => kt (Int32.le_iff_toInt_le.mp cd) H locs ls hP hS hl) (fun cd => kf (Int.not_le.mp (fun q => cd (Int32.le_iff_toInt_le.mpr q))) H locs ls hP hS hl)
theorem v_goto (K : KX p m c cc nL s args cw own D cA) {off : Int} (tgt : Nat) (d : decode cc pc = .ok (.goto off, 3)) (ht : (pc : Int) + off = (tgt : Int)) (k : V p l e R s m args below meth c Q D base nL pic lv (tgt) (st) cells slots) : V p l e R s m args below meth c Q D base nL pic lv (pc) (st) cells slots := fun H locs ls hP hS hl => lv_goto K.1.1 K.1.2.1 d ht (k H locs ls hP hS hl)
theorem v_ifnonnull (K : KX p m c cc nL s args cw own D cA) {a : Nat} {off : Int} (tgt : Nat) (d : decode cc pc = .ok (.ifnonnull off, 3)) (ht : (pc : Int) + off = (tgt : Int)) (k : V p l e R s m args below meth c Q D base nL pic lv (tgt) (st) cells slots) : V p l e R s m args below meth c Q D base nL pic lv (pc) (.ref a :: st) cells slots := fun H locs ls hP hS hl => lv_ifnonnull K.1.1 K.1.2.1 d ht (k H locs ls hP hS hl)
theorem v_ifnonnullN (K : KX p m c cc nL s args cw own D cA) {off : Int} (d : decode cc pc = .ok (.ifnonnull off, 3)) (k : V p l e R s m args below meth c Q D base nL pic lv (pc + 3) (st) cells slots) : V p l e R s m args below meth c Q D base nL pic lv (pc) (.null :: st) cells slots := fun H locs ls hP hS hl => lv_ifnonnullN K.1.1 K.1.2.1 d (k H locs ls hP hS hl)
theorem v_ifnull (K : KX p m c cc nL s args cw own D cA) {a : Nat} {off : Int} (d : decode cc pc = .ok (.ifnull off, 3)) (k : V p l e R s m args below meth c Q D base nL pic lv (pc + 3) (st) cells slots) : V p l e R s m args below meth c Q D base nL pic lv (pc) (.ref a :: st) cells slots := fun H locs ls hP hS hl => lv_ifnull K.1.1 K.1.2.1 d (k H locs ls hP hS hl)
theorem v_ifnullN (K : KX p m c cc nL s args cw own D cA) {off : Int} (tgt : Nat) (d : decode cc pc = .ok (.ifnull off, 3)) (ht : (pc : Int) + off = (tgt : Int)) (k : V p l e R s m args below meth c Q D base nL pic lv (tgt) (st) cells slots) : V p l e R s m args below meth c Q D base nL pic lv (pc) (.null :: st) cells slots := fun H locs ls hP hS hl => lv_ifnullN K.1.1 K.1.2.1 d ht (k H locs ls hP hS hl)
theorem v_tableOut (K : KX p m c cc nL s args cw own D cA) {dflt lo hi : Int} {offs : Array Int} {len : Nat} {x : Int32} {i : Int} (tgt : Nat) (d : decode cc pc = .ok (.tableswitch dflt lo hi offs, len)) (hx : x.toInt = i) (h : i < lo ∨ hi < i) (ht : (pc : Int) + dflt = (tgt : Int)) (k : V p l e R s m args below meth c Q D base nL pic lv (tgt) (st) cells slots) : V p l e R s m args below meth c Q D base nL pic lv (pc) (.int x :: st) cells slots := fun H locs ls hP hS hl => lv_tableOut K.1.1 K.1.2.1 d (hx ▸ h) ht (k H locs ls hP hS hl)
theorem v_tableIn (K : KX p m c cc nL s args cw own D cA) {dflt lo hi off : Int} {offs : Array Int} {len : Nat} {x : Int32} {i : Int} (tgt : Nat) (d : decode cc pc = .ok (.tableswitch dflt lo hi offs, len)) (hx : x.toInt = i) (h1 : ¬ i < lo) (h2 : ¬ hi < i) (ho : offs[(i - lo).toNat]? = some off) (ht : (pc : Int) + off = (tgt : Int)) (k : V p l e R s m args below meth c Q D base nL pic lv (tgt) (st) cells slots) : V p l e R s m args below meth c Q D base nL pic lv (pc) (.int x :: st) cells slots := fun H locs ls hP hS hl => lv_tableIn K.1.1 K.1.2.1 d (hx ▸ h1) (hx ▸ h2) (hx ▸ ho) ht (k H locs ls hP hS hl)
theorem v_get (K : KX p m c cc nL s args cw own D cA) {ref C : String} {T : u_T} {N ci index k r a : Nat} {fs : List Value} {v : Value} (hc : vwCl[ci]? = some (C, T, N)) (hin : ∀ w ∈ u_ws C T N, w ∈ G) (hk : k < N) (hlink : Cond.fieldLink own index ref (T k).2.1 (T k).2.2.1 ∈ G) (hsame : (T k).1 = ref) (d : decode cc pc = .ok (.getfield index, 3)) (he : pic r = some (a, .inr (ci, fs))) (hv : fs[k]? = some v) (kk : V p l e R s m args below meth c Q D base nL pic lv (pc + 3) (v :: st) cells slots) : V p l e R s m args below meth c Q D base nL pic lv (pc) (.ref a :: st) cells slots := by
  subst hsame
  exact fun H locs ls hP hS hl => va_get K.1.1 K.1.2.1 (fun w hw => K.word hw) hin K.1.2.2.2.1 K.2.1 (hP.one he) 0 rfl hc k hk (K.word hlink) (fun _ h9 => h9) hv d (kk H locs ls hP hS hl)
theorem v_put (K : KX p m c cc nL s args cw own D cA) {ref C : String} {T : u_T} {N ci index k r a : Nat} {fs : List Value} {v : Value} {ty : FieldType} (ty0 : Nat → FieldType) (hty : ∀ k, k < N → parseFieldDescriptor (T k).2.2.1 = some (ty0 k)) (hnm : ∀ a, a < N → ∀ b, b < N → a ≠ b → (T a).2.1 ≠ (T b).2.1) (hc : vwCl[ci]? = some (C, T, N)) (hin : ∀ w ∈ u_ws C T N, w ∈ G) (hk : k < N) (hlink : Cond.fieldLink own index ref (T k).2.1 (T k).2.2.1 ∈ G) (hsame : (T k).1 = ref) (hfin : (T k).2.2.2 = false) (hd : parseFieldDescriptor (T k).2.2.1 = some ty) (d : decode cc pc = .ok (.putfield index, 3)) (he : pic r = some (a, .inr (ci, fs))) (hn : narrow ty v = v) (hfit : fits ty v = true) (hl9 : k < fs.length) (kk : ∀ pic1 : PIC, pic1 r = some (a, .inr (ci, fs.set k v)) → (∀ q, q ≠ r → pic1 q = pic q) → V p l e R s m args below meth c Q D base nL pic1 lv (pc + 3) (st) cells slots) : V p l e R s m args below meth c Q D base nL pic lv (pc) (v :: .ref a :: st) cells slots := by
  subst hsame
  intro H locs ls hP hS hl
  have hts : ∀ w ∈ G, w.before args s = true := fun w hw => K.word hw
  have hap := va_apart (own := own) hts hin ty0 hty hnm K.2.1 hc
  obtain ⟨rr, h1, cell, q1, q2, q3, q4⟩ := (hP.2.1 r a _ he).1
  have hba := (hP.2.1 r a _ he).2
  have hr : rr = (C, T, N) := Option.some.inj (h1.symm.trans hc)
  subst hr
  obtain ⟨hSl, hfc, kC, hkC, hkind⟩ := K.2.1.1 ci _ hc
  obtain ⟨cf, kf, fi, f, hi, hsl⟩ := hSl k hk
  have hlay := hts _ (hin _ (u_in_lay hk))
  unfold u_lay at hlay
  have hst := (u_facts hfc hkC (u_lays hts hin hk) hi).1
  rw [if_neg (by rw [hfin]; decide)] at hlay
  refine W.putK K.1.1 K.1.2.1 (f := f) ⟨K.1.2.2.2.1, K.word hlink, ⟨_, _, _, hi⟩, hst⟩ (by rw [q2]; exact u_store hfc hkC hkind hlay hi hd hn hfit) q1 q3 (by rw [hsl]; exact k2_hasslot (q4 k hk)) rfl rfl d fun H1 e1 e2 e3 => ?_
  rw [hsl] at e1 ⊢
  exact kk _ (va_up_self _ _ _) (fun q hq => va_up_ne _ _ hq) H1 _ ls (hP.put he ⟨_, hc, t_OB.to (V := updV (vp_V fs) k v) ⟨_, e1, q2, q3, t_set q4 hap hk v⟩ (fun j _ => vp_updV_set hl9 v j)⟩ e2 e3) (hS.put e2 e3 hba) hl
theorem v_putF (K : KX p m c cc nL s args cw own D cA) {ref C : String} {T : u_T} {N ci index k r a : Nat} {fs : List Value} {v : Value} {ty : FieldType} (ty0 : Nat → FieldType) (hty : ∀ k, k < N → parseFieldDescriptor (T k).2.2.1 = some (ty0 k)) (hnm : ∀ a, a < N → ∀ b, b < N → a ≠ b → (T a).2.1 ≠ (T b).2.1) (hc : vwCl[ci]? = some (C, T, N)) (hin : ∀ w ∈ u_ws C T N, w ∈ G) (hk : k < N) (hlink : Cond.fieldLink own index ref (T k).2.1 (T k).2.2.1 ∈ G) (hsame : (T k).1 = ref) (hfin : (T k).2.2.2 = true) (hin2 : meth.name = "<init>") (hdecl : (T k).1 = own) (hd : parseFieldDescriptor (T k).2.2.1 = some ty) (d : decode cc pc = .ok (.putfield index, 3)) (he : pic r = some (a, .inr (ci, fs))) (hn : narrow ty v = v) (hfit : fits ty v = true) (hl9 : k < fs.length) (kk : ∀ pic1 : PIC, pic1 r = some (a, .inr (ci, fs.set k v)) → (∀ q, q ≠ r → pic1 q = pic q) → V p l e R s m args below meth c Q D base nL pic1 lv (pc + 3) (st) cells slots) : V p l e R s m args below meth c Q D base nL pic lv (pc) (v :: .ref a :: st) cells slots := by
  subst hsame
  intro H locs ls hP hS hl
  have hts : ∀ w ∈ G, w.before args s = true := fun w hw => K.word hw
  have hap := va_apart (own := own) hts hin ty0 hty hnm K.2.1 hc
  obtain ⟨rr, h1, cell, q1, q2, q3, q4⟩ := (hP.2.1 r a _ he).1
  have hba := (hP.2.1 r a _ he).2
  have hr : rr = (C, T, N) := Option.some.inj (h1.symm.trans hc)
  subst hr
  obtain ⟨hSl, hfc, kC, hkC, hkind⟩ := K.2.1.1 ci _ hc
  obtain ⟨cf, kf, fi, f, hi, hsl⟩ := hSl k hk
  have hlay := hts _ (hin _ (u_in_lay hk))
  unfold u_lay at hlay
  have hst := (u_facts hfc hkC (u_lays hts hin hk) hi).1
  rw [if_pos hfin] at hlay
  have hcf : m.cls = cf := by
    obtain ⟨_, _, c9, _, _, _, -, -, hf9, -, -, -, hown9, -⟩ := Cond.laysFinal_spec hlay
    have e1 : c9 = cf := by have := hi.symm.trans hf9; simp at this; exact this.1.symm
    rw [hdecl] at hown9
    rw [← e1]; exact Option.some.inj (K.1.2.2.2.1.symm.trans hown9)
  refine W.putFinK K.1.1 K.1.2.1 K.1.2.2.2.1 (K.word hlink) hi hst hcf hin2 (by rw [q2]; exact u_fits hfc hkC hkind (Or.inr hlay) hi hd hn hfit) q1 q3 (by rw [hsl]; exact k2_hasslot (q4 k hk)) rfl rfl d fun H1 e1 e2 e3 => ?_
  rw [hsl] at e1 ⊢
  exact kk _ (va_up_self _ _ _) (fun q hq => va_up_ne _ _ hq) H1 _ ls (hP.put he ⟨_, hc, t_OB.to (V := updV (vp_V fs) k v) ⟨_, e1, q2, q3, t_set q4 hap hk v⟩ (fun j _ => vp_updV_set hl9 v j)⟩ e2 e3) (hS.put e2 e3 hba) hl
theorem v_iald (K : KX p m c cc nL s args cw own D cA) {r a n i : Nat} {f : Nat → Int32} (d : decode cc pc = .ok (.iaload, 1)) (he : pic r = some (a, .inl (cA 0, n, .inl f))) (hi : i < n) (hn : n < 2 ^ 31) (k : V p l e R s m args below meth c Q D base nL pic lv (pc + 1) (.int (f i) :: st) cells slots) : V p l e R s m args below meth c Q D base nL pic lv (pc) (.int (nI i) :: .ref a :: st) cells slots := by
  intro H locs ls hP hS hl
  refine va_iald K.1.1 K.1.2.1 K.2.1 (hP.one he) 0 0 rfl rfl (vp_in_nI hi hn) d ?_
  rw [nI_clamp (Nat.lt_trans hi hn)]
  exact k H locs ls hP hS hl
theorem v_lald (K : KX p m c cc nL s args cw own D cA) {r a n i : Nat} {f : Nat → Int64} (d : decode cc pc = .ok (.laload, 1)) (he : pic r = some (a, .inl (cA 1, n, .inr (.inl f)))) (hi : i < n) (hn : n < 2 ^ 31) (k : V p l e R s m args below meth c Q D base nL pic lv (pc + 1) (.long (f i) :: st) cells slots) : V p l e R s m args below meth c Q D base nL pic lv (pc) (.int (nI i) :: .ref a :: st) cells slots := by
  intro H locs ls hP hS hl
  refine va_lald K.1.1 K.1.2.1 K.2.1 (hP.one he) 0 1 rfl rfl (vp_in_nI hi hn) d ?_
  rw [nI_clamp (Nat.lt_trans hi hn)]
  exact k H locs ls hP hS hl
theorem v_zald (K : KX p m c cc nL s args cw own D cA) {r a n i : Nat} {f : Nat → Int32} (d : decode cc pc = .ok (.baload, 1)) (he : pic r = some (a, .inl (cA 2, n, .inl f))) (hi : i < n) (hn : n < 2 ^ 31) (k : V p l e R s m args below meth c Q D base nL pic lv (pc + 1) (.int (f i) :: st) cells slots) : V p l e R s m args below meth c Q D base nL pic lv (pc) (.int (nI i) :: .ref a :: st) cells slots := by
  intro H locs ls hP hS hl
  refine va_zald K.1.1 K.1.2.1 K.2.1 (hP.one he) 0 2 rfl rfl (vp_in_nI hi hn) d ?_
  rw [nI_clamp (Nat.lt_trans hi hn)]
  exact k H locs ls hP hS hl
theorem v_aaldB (K : KX p m c cc nL s args cw own D cA) {r a n i : Nat} {f : Nat → Option Nat} (d : decode cc pc = .ok (.aaload, 1)) (he : pic r = some (a, .inl (cA 3, n, .inr (.inr (.inr (.inr f)))))) (hi : i < n) (hn : n < 2 ^ 31) (k : V p l e R s m args below meth c Q D base nL pic lv (pc + 1) (va_rf (f i) :: st) cells slots) : V p l e R s m args below meth c Q D base nL pic lv (pc) (.int (nI i) :: .ref a :: st) cells slots := by
  intro H locs ls hP hS hl
  refine va_aldq K.1.1 K.1.2.1 K.2.1 (hP.one he) 0 3 rfl rfl (vp_in_nI hi hn) d ?_
  rw [nI_clamp (Nat.lt_trans hi hn)]
  exact k H locs ls hP hS hl
theorem v_aaldS (K : KX p m c cc nL s args cw own D cA) {r a n i : Nat} {f : Nat → Option Nat} (d : decode cc pc = .ok (.aaload, 1)) (he : pic r = some (a, .inl (cA 4, n, .inr (.inr (.inr (.inr f)))))) (hi : i < n) (hn : n < 2 ^ 31) (k : V p l e R s m args below meth c Q D base nL pic lv (pc + 1) (va_rf (f i) :: st) cells slots) : V p l e R s m args below meth c Q D base nL pic lv (pc) (.int (nI i) :: .ref a :: st) cells slots := by
  intro H locs ls hP hS hl
  refine va_aldq K.1.1 K.1.2.1 K.2.1 (hP.one he) 0 4 rfl rfl (vp_in_nI hi hn) d ?_
  rw [nI_clamp (Nat.lt_trans hi hn)]
  exact k H locs ls hP hS hl
theorem v_iast (K : KX p m c cc nL s args cw own D cA) {r a n i : Nat} {f : Nat → Int32} {x : Int32} (d : decode cc pc = .ok (.iastore, 1)) (he : pic r = some (a, .inl (cA 0, n, .inl f))) (hi : i < n) (hn : n < 2 ^ 31) (kk : ∀ pic1 : PIC, pic1 r = some (a, .inl (cA 0, n, .inl (upd f i x))) → (∀ q, q ≠ r → pic1 q = pic q) → V p l e R s m args below meth c Q D base nL pic1 lv (pc + 1) (st) cells slots) : V p l e R s m args below meth c Q D base nL pic lv (pc) (.int x :: .int (nI i) :: .ref a :: st) cells slots := by
  intro H locs ls hP hS hl
  have hba := (hP.2.1 r a _ he).2
  refine W.iast K.1.1 K.1.2.1 (hP.2.1 r a _ he).1 ((K.2.1.2 0 _ rfl).1 n (fun j => .int (f j))) (fun q => by cases q) (by show ¬ (nI i < 0 ∨ (arrV _ _ _).slots.size ≤ _); rw [arrV_size]; exact vp_in_nI hi hn) rfl rfl d fun H1 e1 z oq => ?_
  rw [nI_clamp (Nat.lt_trans hi hn)] at e1 ⊢
  refine kk _ (va_up_self _ _ _) (fun q hq => va_up_ne _ _ hq) H1 _ ls (hP.put he ?_ z oq) (hS.put z oq hba) hl
  show H1[a]? = some (vp_cell _ _)
  rw [e1, vp_cell_i, vp_cell_i, arrV_store]
  congr 2
  funext q
  by_cases hq : q = i
  · subst hq; simp [updV, upd, vp_updL]
  · simp [updV, upd, vp_updL, hq]
theorem v_last (K : KX p m c cc nL s args cw own D cA) {r a n i : Nat} {f : Nat → Int64} {x : Int64} (d : decode cc pc = .ok (.lastore, 1)) (he : pic r = some (a, .inl (cA 1, n, .inr (.inl f)))) (hi : i < n) (hn : n < 2 ^ 31) (kk : ∀ pic1 : PIC, pic1 r = some (a, .inl (cA 1, n, .inr (.inl (vp_updL f i x)))) → (∀ q, q ≠ r → pic1 q = pic q) → V p l e R s m args below meth c Q D base nL pic1 lv (pc + 1) (st) cells slots) : V p l e R s m args below meth c Q D base nL pic lv (pc) (.long x :: .int (nI i) :: .ref a :: st) cells slots := by
  intro H locs ls hP hS hl
  have hba := (hP.2.1 r a _ he).2
  refine W.last K.1.1 K.1.2.1 (hP.2.1 r a _ he).1 ((K.2.1.2 1 _ rfl).1 n (fun j => .long (f j))) (fun q => by cases q) (by show ¬ (nI i < 0 ∨ (arrV _ _ _).slots.size ≤ _); rw [arrV_size]; exact vp_in_nI hi hn) rfl rfl d fun H1 e1 z oq => ?_
  rw [nI_clamp (Nat.lt_trans hi hn)] at e1 ⊢
  refine kk _ (va_up_self _ _ _) (fun q hq => va_up_ne _ _ hq) H1 _ ls (hP.put he ?_ z oq) (hS.put z oq hba) hl
  show H1[a]? = some (vp_cell _ _)
  rw [e1, vp_cell_l, vp_cell_l, arrV_store]
  congr 2
  funext q
  by_cases hq : q = i
  · subst hq; simp [updV, upd, vp_updL]
  · simp [updV, upd, vp_updL, hq]
theorem v_zast (K : KX p m c cc nL s args cw own D cA) {r a n i : Nat} {f : Nat → Int32} {x : Int32} (d : decode cc pc = .ok (.bastore, 1)) (he : pic r = some (a, .inl (cA 2, n, .inl f))) (hi : i < n) (hn : n < 2 ^ 31) (hx9 : narrow .boolean (.int x) = .int x) (kk : ∀ pic1 : PIC, pic1 r = some (a, .inl (cA 2, n, .inl (upd f i x))) → (∀ q, q ≠ r → pic1 q = pic q) → V p l e R s m args below meth c Q D base nL pic1 lv (pc + 1) (st) cells slots) : V p l e R s m args below meth c Q D base nL pic lv (pc) (.int x :: .int (nI i) :: .ref a :: st) cells slots := by
  intro H locs ls hP hS hl
  have hba := (hP.2.1 r a _ he).2
  refine W.zast K.1.1 K.1.2.1 (hP.2.1 r a _ he).1 ((K.2.1.2 2 _ rfl).1 n (fun j => .int (f j))) (fun q => by cases q) (by show ¬ (nI i < 0 ∨ (arrV _ _ _).slots.size ≤ _); rw [arrV_size]; exact vp_in_nI hi hn) rfl rfl d fun H1 e1 z oq => ?_
  rw [nI_clamp (Nat.lt_trans hi hn)] at e1 ⊢
  refine kk _ (va_up_self _ _ _) (fun q hq => va_up_ne _ _ hq) H1 _ ls (hP.put he ?_ z oq) (hS.put z oq hba) hl
  show H1[a]? = some (vp_cell _ _)
  rw [e1, hx9, vp_cell_i, vp_cell_i, arrV_store]
  congr 2
  funext q
  by_cases hq : q = i
  · subst hq; simp [updV, upd, vp_updL]
  · simp [updV, upd, vp_updL, hq]
theorem v_aastB (K : KX p m c cc nL s args cw own D cA) {r a n i r2 v ci : Nat} {vs : List Value} {f : Nat → Option Nat} {T : u_T} {N : Nat} (d : decode cc pc = .ok (.aastore, 1)) (he : pic r = some (a, .inl (cA 3, n, .inr (.inr (.inr (.inr f)))))) (hv : pic r2 = some (v, .inr (ci, vs))) (hc : vwCl[ci]? = some (RX0, T, N)) (hi : i < n) (hn : n < 2 ^ 31) (kk : ∀ pic1 : PIC, pic1 r = some (a, .inl (cA 3, n, .inr (.inr (.inr (.inr (va_up f i (some v))))))) → (∀ q, q ≠ r → pic1 q = pic q) → V p l e R s m args below meth c Q D base nL pic1 lv (pc + 1) (st) cells slots) : V p l e R s m args below meth c Q D base nL pic lv (pc) (.ref v :: .int (nI i) :: .ref a :: st) cells slots := by
  intro H locs ls hP hS hl
  have hba := (hP.2.1 r a _ he).2
  have hlt : (nI i).toNatClampNeg < n := by rw [nI_clamp (Nat.lt_trans hi hn)]; exact hi
  have h0 : ¬ nI i < 0 := nI_pos (Nat.lt_trans hi hn)
  obtain ⟨r9, hr9, cellV, g1, g2, g3, -⟩ := (hP.2.1 r2 v _ hv).1
  have hcls := (K.2.1.1 ci _ hc).2
  obtain ⟨kA, comp, k1, k2, k3, -⟩ := (K.2.1.2 3 _ rfl).2
  have hcomp : comp = D.1 ci := Option.some.inj (k3.symm.trans hcls.1)
  subst hcomp
  obtain ⟨kC, hkC, -⟩ := hcls.2
  refine W.aast K.1.1 K.1.2.1 (hP.2.1 r a _ he).1 (fun q h => by cases h) (fun h => by cases h) k1 k2 rfl hkC ⟨h0, by show _ < (arrV _ _ _).slots.size; rw [arrV_size]; exact hlt⟩ g1 (fun q h => by rw [g3] at h; cases h) (by rw [g2]; exact hkC) (by rw [g2]; exact va_assign hcls) rfl rfl d fun H1 e1 z oq => ?_
  rw [nI_clamp (Nat.lt_trans hi hn)] at e1 ⊢
  refine kk _ (va_up_self _ _ _) (fun q hq => va_up_ne _ _ hq) H1 _ ls (hP.put he ?_ z oq) (hS.put z oq hba) hl
  show H1[a]? = some (vp_cell _ _)
  rw [e1, vp_cell_q, vp_cell_q, arrV_store]
  congr 2
  funext q
  by_cases hq : q = i
  · subst hq; simp [updV, va_up, va_rf]
  · simp [updV, va_up, hq]
theorem v_aastS (K : KX p m c cc nL s args cw own D cA) {r a n i r2 v ci : Nat} {vs : List Value} {f : Nat → Option Nat} {T : u_T} {N : Nat} (d : decode cc pc = .ok (.aastore, 1)) (he : pic r = some (a, .inl (cA 4, n, .inr (.inr (.inr (.inr f)))))) (hv : pic r2 = some (v, .inr (ci, vs))) (hc : vwCl[ci]? = some (RX3, T, N)) (hi : i < n) (hn : n < 2 ^ 31) (kk : ∀ pic1 : PIC, pic1 r = some (a, .inl (cA 4, n, .inr (.inr (.inr (.inr (va_up f i (some v))))))) → (∀ q, q ≠ r → pic1 q = pic q) → V p l e R s m args below meth c Q D base nL pic1 lv (pc + 1) (st) cells slots) : V p l e R s m args below meth c Q D base nL pic lv (pc) (.ref v :: .int (nI i) :: .ref a :: st) cells slots := by
  intro H locs ls hP hS hl
  have hba := (hP.2.1 r a _ he).2
  have hlt : (nI i).toNatClampNeg < n := by rw [nI_clamp (Nat.lt_trans hi hn)]; exact hi
  have h0 : ¬ nI i < 0 := nI_pos (Nat.lt_trans hi hn)
  obtain ⟨r9, hr9, cellV, g1, g2, g3, -⟩ := (hP.2.1 r2 v _ hv).1
  have hcls := (K.2.1.1 ci _ hc).2
  obtain ⟨kA, comp, k1, k2, k3, -⟩ := (K.2.1.2 4 _ rfl).2
  have hcomp : comp = D.1 ci := Option.some.inj (k3.symm.trans hcls.1)
  subst hcomp
  obtain ⟨kC, hkC, -⟩ := hcls.2
  refine W.aast K.1.1 K.1.2.1 (hP.2.1 r a _ he).1 (fun q h => by cases h) (fun h => by cases h) k1 k2 rfl hkC ⟨h0, by show _ < (arrV _ _ _).slots.size; rw [arrV_size]; exact hlt⟩ g1 (fun q h => by rw [g3] at h; cases h) (by rw [g2]; exact hkC) (by rw [g2]; exact va_assign hcls) rfl rfl d fun H1 e1 z oq => ?_
  rw [nI_clamp (Nat.lt_trans hi hn)] at e1 ⊢
  refine kk _ (va_up_self _ _ _) (fun q hq => va_up_ne _ _ hq) H1 _ ls (hP.put he ?_ z oq) (hS.put z oq hba) hl
  show H1[a]? = some (vp_cell _ _)
  rw [e1, vp_cell_q, vp_cell_q, arrV_store]
  congr 2
  funext q
  by_cases hq : q = i
  · subst hq; simp [updV, va_up, va_rf]
  · simp [updV, va_up, hq]
theorem v_newI (K : KX p m c cc nL s args cw own D cA) (r : Nat) {N : Nat} (hw : Cond.arrayClass .int ∈ G) (d : decode cc pc = .ok (.newarray .int, 2)) (hr : pic r = none) (hN : N < 2 ^ 20) (hcells : cells + 1 ≤ R.cells) (hslots : slots + N ≤ R.slots) (kk : ∀ (q : Nat) (pic1 : PIC), pic1 r = some (q, .inl (cA 0, N, .inl (fun _ => 0))) → (∀ z, z ≠ r → pic1 z = pic z) → V p l e R s m args below meth c Q D base nL pic1 lv (pc + 2) (.ref q :: st) (cells + 1) (slots + N)) : V p l e R s m args below meth c Q D base nL pic lv (pc) (.int (nI N) :: st) cells slots := by
  intro H locs ls hP hS hl
  have hN31 : N < 2 ^ 31 := Nat.lt_trans hN (by decide)
  refine va_newaK K.1.1 K.1.2.1 (atype := .int) (K.word hw) rfl d rfl (nI_pos hN31) (nI_clamp hN31) (by show N * componentBytes .int ≤ _; simp only [componentBytes]; omega) hcells hslots rfl fun H1 cX e1 z1 o1 hAr hNm => ?_
  have hcX : cX = cA 0 := Option.some.inj (hNm.symm.trans (K.2.1.2 0 _ rfl).2)
  subst hcX
  exact kk H.size _ (va_up_self _ _ _) (fun z hz => va_up_ne _ _ hz) H1 locs ls (hP.new r hr (by show H1[H.size]? = some (vp_cell _ _); exact e1) z1 o1) ⟨Nat.le_trans hS.1 (by omega), fun x h1 h2 => (o1 x (Nat.lt_of_lt_of_le h1 hS.1)).trans (hS.2.1 x h1 h2), hS.2.2⟩ hl
theorem v_newL (K : KX p m c cc nL s args cw own D cA) (r : Nat) {N : Nat} (hw : Cond.arrayClass .long ∈ G) (d : decode cc pc = .ok (.newarray .long, 2)) (hr : pic r = none) (hN : N < 2 ^ 20) (hcells : cells + 1 ≤ R.cells) (hslots : slots + N ≤ R.slots) (kk : ∀ (q : Nat) (pic1 : PIC), pic1 r = some (q, .inl (cA 1, N, .inr (.inl (fun _ => 0)))) → (∀ z, z ≠ r → pic1 z = pic z) → V p l e R s m args below meth c Q D base nL pic1 lv (pc + 2) (.ref q :: st) (cells + 1) (slots + N)) : V p l e R s m args below meth c Q D base nL pic lv (pc) (.int (nI N) :: st) cells slots := by
  intro H locs ls hP hS hl
  have hN31 : N < 2 ^ 31 := Nat.lt_trans hN (by decide)
  refine va_newaK K.1.1 K.1.2.1 (atype := .long) (K.word hw) rfl d rfl (nI_pos hN31) (nI_clamp hN31) (by show N * componentBytes .long ≤ _; simp only [componentBytes]; omega) hcells hslots rfl fun H1 cX e1 z1 o1 hAr hNm => ?_
  have hcX : cX = cA 1 := Option.some.inj (hNm.symm.trans (K.2.1.2 1 _ rfl).2)
  subst hcX
  exact kk H.size _ (va_up_self _ _ _) (fun z hz => va_up_ne _ _ hz) H1 locs ls (hP.new r hr (by show H1[H.size]? = some (vp_cell _ _); exact e1) z1 o1) ⟨Nat.le_trans hS.1 (by omega), fun x h1 h2 => (o1 x (Nat.lt_of_lt_of_le h1 hS.1)).trans (hS.2.1 x h1 h2), hS.2.2⟩ hl
theorem v_newZ (K : KX p m c cc nL s args cw own D cA) (r : Nat) {N : Nat} (hw : Cond.arrayClass .boolean ∈ G) (d : decode cc pc = .ok (.newarray .boolean, 2)) (hr : pic r = none) (hN : N < 2 ^ 20) (hcells : cells + 1 ≤ R.cells) (hslots : slots + N ≤ R.slots) (kk : ∀ (q : Nat) (pic1 : PIC), pic1 r = some (q, .inl (cA 2, N, .inl (fun _ => 0))) → (∀ z, z ≠ r → pic1 z = pic z) → V p l e R s m args below meth c Q D base nL pic1 lv (pc + 2) (.ref q :: st) (cells + 1) (slots + N)) : V p l e R s m args below meth c Q D base nL pic lv (pc) (.int (nI N) :: st) cells slots := by
  intro H locs ls hP hS hl
  have hN31 : N < 2 ^ 31 := Nat.lt_trans hN (by decide)
  refine va_newaK K.1.1 K.1.2.1 (atype := .boolean) (K.word hw) rfl d rfl (nI_pos hN31) (nI_clamp hN31) (by show N * componentBytes .boolean ≤ _; simp only [componentBytes]; omega) hcells hslots rfl fun H1 cX e1 z1 o1 hAr hNm => ?_
  have hcX : cX = cA 2 := Option.some.inj (hNm.symm.trans (K.2.1.2 2 _ rfl).2)
  subst hcX
  exact kk H.size _ (va_up_self _ _ _) (fun z hz => va_up_ne _ _ hz) H1 locs ls (hP.new r hr (by show H1[H.size]? = some (vp_cell _ _); exact e1) z1 o1) ⟨Nat.le_trans hS.1 (by omega), fun x h1 h2 => (o1 x (Nat.lt_of_lt_of_le h1 hS.1)).trans (hS.2.1 x h1 h2), hS.2.2⟩ hl
theorem v_newB (K : KX p m c cc nL s args cw own D cA) (r : Nat) {N index : Nat} (hcl : Cond.classLink own index RX0 ∈ G) (d : decode cc pc = .ok (.anewarray index, 3)) (hr : pic r = none) (hN : N < 2 ^ 20) (hcells : cells + 1 ≤ R.cells) (hslots : slots + N ≤ R.slots) (kk : ∀ (q : Nat) (pic1 : PIC), pic1 r = some (q, .inl (cA 3, N, .inr (.inr (.inr (.inr (fun _ => none)))))) → (∀ z, z ≠ r → pic1 z = pic z) → V p l e R s m args below meth c Q D base nL pic1 lv (pc + 3) (.ref q :: st) (cells + 1) (slots + N)) : V p l e R s m args below meth c Q D base nL pic lv (pc) (.int (nI N) :: st) cells slots := by
  intro H locs ls hP hS hl
  have hN31 : N < 2 ^ 31 := Nat.lt_trans hN (by decide)
  refine W.anew K.1.1 K.1.2.1 K.1.2.2.2.1 (K.word hcl) (va_AO.use K.2.2.1) rfl d rfl (nI_pos hN31) (by rw [nI_clamp hN31]; omega) hcells (by rw [nI_clamp hN31]; exact hslots) fun cX kA comp f1 f2 f3 f4 => ?_
  rw [nI_clamp hN31]
  obtain ⟨kA9, comp9, k1, k2, k3, k4⟩ := (K.2.1.2 3 _ rfl).2
  have hcX : cX = cA 3 := Option.some.inj (f1.symm.trans k4)
  subst hcX
  generalize hH1 : H.push ({ cls := cA 3, slots := Array.replicate N .null, vm := .none } : Cell) = H1
  have z1 : H1.size = H.size + 1 := by rw [← hH1, Array.size_push]
  have e1 : H1[H.size]? = some (arrV (cA 3) N (fun _ => .null)) := by rw [← hH1, Array.getElem?_push_size, ← arrV_new]
  have o1 : ∀ q : Nat, q < H.size → H1[q]? = H[q]? := fun q hq => by rw [← hH1, Array.getElem?_push, if_neg (Nat.ne_of_lt hq)]
  exact kk H.size _ (va_up_self _ _ _) (fun z hz => va_up_ne _ _ hz) H1 locs ls (hP.new r hr (by show H1[H.size]? = some (vp_cell _ _); rw [vp_cell_q]; exact e1) z1 o1) ⟨Nat.le_trans hS.1 (by omega), fun x h1 h2 => (o1 x (Nat.lt_of_lt_of_le h1 hS.1)).trans (hS.2.1 x h1 h2), hS.2.2⟩ hl
theorem v_newS (K : KX p m c cc nL s args cw own D cA) (r : Nat) {N index : Nat} (hcl : Cond.classLink own index RX3 ∈ G) (d : decode cc pc = .ok (.anewarray index, 3)) (hr : pic r = none) (hN : N < 2 ^ 20) (hcells : cells + 1 ≤ R.cells) (hslots : slots + N ≤ R.slots) (kk : ∀ (q : Nat) (pic1 : PIC), pic1 r = some (q, .inl (cA 4, N, .inr (.inr (.inr (.inr (fun _ => none)))))) → (∀ z, z ≠ r → pic1 z = pic z) → V p l e R s m args below meth c Q D base nL pic1 lv (pc + 3) (.ref q :: st) (cells + 1) (slots + N)) : V p l e R s m args below meth c Q D base nL pic lv (pc) (.int (nI N) :: st) cells slots := by
  intro H locs ls hP hS hl
  have hN31 : N < 2 ^ 31 := Nat.lt_trans hN (by decide)
  refine W.anew K.1.1 K.1.2.1 K.1.2.2.2.1 (K.word hcl) (va_AO.use K.2.2.2.1) rfl d rfl (nI_pos hN31) (by rw [nI_clamp hN31]; omega) hcells (by rw [nI_clamp hN31]; exact hslots) fun cX kA comp f1 f2 f3 f4 => ?_
  rw [nI_clamp hN31]
  obtain ⟨kA9, comp9, k1, k2, k3, k4⟩ := (K.2.1.2 4 _ rfl).2
  have hcX : cX = cA 4 := Option.some.inj (f1.symm.trans k4)
  subst hcX
  generalize hH1 : H.push ({ cls := cA 4, slots := Array.replicate N .null, vm := .none } : Cell) = H1
  have z1 : H1.size = H.size + 1 := by rw [← hH1, Array.size_push]
  have e1 : H1[H.size]? = some (arrV (cA 4) N (fun _ => .null)) := by rw [← hH1, Array.getElem?_push_size, ← arrV_new]
  have o1 : ∀ q : Nat, q < H.size → H1[q]? = H[q]? := fun q hq => by rw [← hH1, Array.getElem?_push, if_neg (Nat.ne_of_lt hq)]
  exact kk H.size _ (va_up_self _ _ _) (fun z hz => va_up_ne _ _ hz) H1 locs ls (hP.new r hr (by show H1[H.size]? = some (vp_cell _ _); rw [vp_cell_q]; exact e1) z1 o1) ⟨Nat.le_trans hS.1 (by omega), fun x h1 h2 => (o1 x (Nat.lt_of_lt_of_le h1 hS.1)).trans (hS.2.1 x h1 h2), hS.2.2⟩ hl
theorem v_new (K : KX p m c cc nL s args cw own D cA) (r : Nat) {C : String} {T : u_T} {N ci index : Nat} {fs : List Value} (ty : Nat → FieldType) (hty : ∀ k, k < N → parseFieldDescriptor (T k).2.2.1 = some (ty k)) (hc : vwCl[ci]? = some (C, T, N)) (hin : ∀ w ∈ u_ws C T N, w ∈ G) (hcl : Cond.classLink own index C ∈ G) (hinst : Cond.instantiable C N ∈ G) (hini : Cond.initialized C ∈ G) (hfs : ∀ j, j < N → defaultValue (ty j) = vp_V fs j) (d : decode cc pc = .ok (.new index, 3)) (hr : pic r = none) (hcells : cells + 1 ≤ R.cells) (hslots : slots + N ≤ R.slots) (kk : ∀ (q : Nat) (pic1 : PIC), pic1 r = some (q, .inr (ci, fs)) → (∀ z, z ≠ r → pic1 z = pic z) → V p l e R s m args below meth c Q D base nL pic1 lv (pc + 3) (.ref q :: st) (cells + 1) (slots + N)) : V p l e R s m args below meth c Q D base nL pic lv (pc) (st) cells slots := by
  intro H locs ls hP hS hl
  have hKn := K.2.1.1 ci _ hc
  refine W.newcK K.1.1 K.1.2.1 K.1.2.2.2.1 (K.word hcl) (K.word hinst) (K.word hini) rfl d hcells hslots hKn.2.1 rfl fun H1 kC hkC e1 z1 o1 => ?_
  exact kk H.size _ (va_up_self _ _ _) (fun z hz => va_up_ne _ _ hz) H1 locs ls (hP.new r hr ⟨_, hc, (u_born ty (fun w hw => K.word (hin w hw)) (fun _ h => h) hKn hkC e1 hty).to hfs⟩ z1 o1) ⟨Nat.le_trans hS.1 (by omega), fun x h1 h2 => (o1 x (Nat.lt_of_lt_of_le h1 hS.1)).trans (hS.2.1 x h1 h2), hS.2.2⟩ hl
theorem v_objInit (K : KX p m c cc nL s args cw own D cA) {a idx : Nat} (h1 : Cond.methodLink own idx Lib.objectInit ∈ G) (h2 : Cond.instanceMethod Lib.objectInit ∈ G) (h3 : Cond.code Lib.objectInit ⟨#[0xb1]⟩ 1 none ∈ G) (d : decode cc pc = .ok (.invokespecial idx, 3)) (hf : 1 ≤ R.frames) (hl9 : (st.map fun v => v.category).sum + 12 ≤ R.locals) (k : V p l e R s m args below meth c Q D base nL pic lv (pc + 3) (st) cells slots) : V p l e R s m args below meth c Q D base nL pic lv (pc) (.ref a :: st) cells slots := fun H locs ls hP hS hl => W.objInit K.1.1 K.1.2.1 K.1.2.2.2.1 (K.word h1) (K.word h2) (K.word h3) rfl (by rw [K.1.2.2.1]; exact hl.1) rfl d hf (by show 2 * 0 + _ + 12 ≤ _; omega) (k H locs ls hP hS hl)
theorem v_min (K : KX p m c cc nL s args cw own D cA) {x y : Int32} {idx : Nat} (h1 : Cond.methodLink own idx Lib.Math.min.name ∈ G) (h2 : Cond.static Lib.Math.min.name ∈ G) (h3 : Cond.initialized "java/lang/Math" ∈ G) (h4 : Cond.code Lib.Math.min.name Lib.Math.min.code 2 (some .int) ∈ G) (d : decode cc pc = .ok (.invokestatic idx, 3)) (hf : 1 ≤ R.frames) (hl9 : (st.map fun v => v.category).sum + 13 ≤ R.locals) (hc : cells ≤ R.cells) (hs : slots ≤ R.slots) (k : V p l e R s m args below meth c Q D base nL pic lv (pc + 3) (.int (if y < x then y else x) :: st) cells slots) : V p l e R s m args below meth c Q D base nL pic lv (pc) (.int y :: .int x :: st) cells slots := fun H locs ls hP hS hl => va_mmin K.1.1 K.1.2.1 (by rw [K.1.2.2.1]; exact hl.1.symm) K.1.2.2.2.1 (K.word h1) (K.word h2) (K.word h3) (K.word h4) hf hl9 hc hs d (k H locs ls hP hS hl)
abbrev FA (base : Nat) : Nat → Prop := fun q => base ≤ q
def PreC (D : va_G) (cA : Nat → ClassId) (base : Nat) (pic : PIC) (As : List Value) : Array Value → State → Prop := va_Pc As (fun U => KK D cA U ∧ WO D base pic U.heap)
theorem PreC.blind (As : List Value) : FrameBlind (PreC D cA base pic As) := fun a U g mk h => ⟨h.1, KK.calling g mk a h.2.1, h.2.2⟩
def CI (l : Launch) (y : MethodName) (cd : ByteArray) (n : Nat) (ret : Option FieldType) (rm : Room) (mc ms : Nat) (D : va_G) (cA : Nat → ClassId) (base : Nat) (pic : PIC) (As : List Value) (post : Int32 → PIC → Prop) : Prop := Met l y (.code y cd n ret :: G) rm (PreC D cA base pic As) (va_Qi post (fun pic1 t => WO D base pic1 t.heap) (FA base)) mc ms (FA base)
def CL (l : Launch) (y : MethodName) (cd : ByteArray) (n : Nat) (ret : Option FieldType) (rm : Room) (mc ms : Nat) (D : va_G) (cA : Nat → ClassId) (base : Nat) (pic : PIC) (As : List Value) (post : Int64 → PIC → Prop) : Prop := Met l y (.code y cd n ret :: G) rm (PreC D cA base pic As) (va_Ql post (fun pic1 t => WO D base pic1 t.heap) (FA base)) mc ms (FA base)
def CQ (l : Launch) (y : MethodName) (cd : ByteArray) (n : Nat) (ret : Option FieldType) (rm : Room) (mc ms : Nat) (D : va_G) (cA : Nat → ClassId) (base : Nat) (pic : PIC) (As : List Value) (post : Option Nat → PIC → Prop) : Prop := Met l y (.code y cd n ret :: G) rm (PreC D cA base pic As) (va_Qq post (fun pic1 t => WO D base pic1 t.heap) (FA base)) mc ms (FA base)
def CV (l : Launch) (y : MethodName) (cd : ByteArray) (n : Nat) (ret : Option FieldType) (rm : Room) (mc ms : Nat) (D : va_G) (cA : Nat → ClassId) (base : Nat) (pic : PIC) (As : List Value) (post : PIC → Prop) : Prop := Met l y (.code y cd n ret :: G) rm (PreC D cA base pic As) (va_Qv post (fun pic1 t => WO D base pic1 t.heap) (FA base)) mc ms (FA base)
theorem G_sub {y : MethodName} {cd : ByteArray} {n : Nat} {ret : Option FieldType} (h : Cond.code y cd n ret ∈ G) : GoodIn (cw :: G) (.code y cd n ret :: G) := fun w hw => by
  rcases List.mem_cons.mp hw with rfl | hw
  · exact ⟨List.mem_cons_of_mem _ h, G_good _ h⟩
  · exact ⟨List.mem_cons_of_mem _ hw, G_good _ hw⟩
theorem G_V {index : Nat} {C : String} {y : MethodName} {cd : ByteArray} {n : Nat} {ret : Option FieldType} (h1 : Cond.methodLink own index y ∈ G) (h2 : Cond.instanceMethod y ∈ G) (h3 : Cond.selects C y y ∈ G) (h4 : Cond.initialized C ∈ G) (h : Cond.code y cd n ret ∈ G) : GoodIn (cw :: G) (wsV own index C y (.code y cd n ret :: G)) := fun w hw => by
  unfold wsV at hw
  rcases List.mem_append.mp hw with hw | hw
  · simp only [List.mem_cons, List.not_mem_nil, or_false] at hw
    rcases hw with rfl | rfl | rfl | rfl
    · exact ⟨List.mem_cons_of_mem _ h1, G_good _ h1⟩
    · exact ⟨List.mem_cons_of_mem _ h2, G_good _ h2⟩
    · exact ⟨List.mem_cons_of_mem _ h3, G_good _ h3⟩
    · exact ⟨List.mem_cons_of_mem _ h4, G_good _ h4⟩
  · exact G_sub h w hw
theorem G_S {index : Nat} {y : MethodName} {cd : ByteArray} {n : Nat} {ret : Option FieldType} (h1 : Cond.methodLink own index y ∈ G) (h2 : Cond.static y ∈ G) (h4 : Cond.initialized y.cls ∈ G) (h : Cond.code y cd n ret ∈ G) : GoodIn (cw :: G) (va_wsS own index y (.code y cd n ret :: G)) := fun w hw => by
  unfold va_wsS at hw
  rcases List.mem_append.mp hw with hw | hw
  · simp only [List.mem_cons, List.not_mem_nil, or_false] at hw
    rcases hw with rfl | rfl | rfl
    · exact ⟨List.mem_cons_of_mem _ h1, G_good _ h1⟩
    · exact ⟨List.mem_cons_of_mem _ h2, G_good _ h2⟩
    · exact ⟨List.mem_cons_of_mem _ h4, G_good _ h4⟩
  · exact G_sub h w hw
theorem v_callVI (K : KX p m c cc nL s args cw own D cA) {index n mc ms : Nat} {y : MethodName} {cd : ByteArray} {ret : Option FieldType} {rm : Room} {As st0 : List Value} {post : Int32 → PIC → Prop} {C : String} {T : u_T} {N ci r b : Nat} {fs : List Value} (h1 : Cond.methodLink own index y ∈ G) (h2 : Cond.instanceMethod y ∈ G) (h3 : Cond.selects C y y ∈ G) (h4 : Cond.initialized C ∈ G) (h5 : Cond.code y cd n ret ∈ G) (hc : vwCl[ci]? = some (C, T, N)) (hd : y.cls = C ∧ y.cls ≠ "java/lang/invoke/MethodHandle" ∧ y.cls ≠ "java/lang/invoke/VarHandle" ∧ (parseMethodDescriptor y.desc).map (fun d => d.parameters.length) = some As.length) (d : decode cc pc = .ok (.invokevirtual index, 3)) (he : pic r = some (b, .inr (ci, fs))) (hM : CI l y cd n ret rm mc ms D cA base pic (.ref b :: As) post) (hrc : rm.cells = mc) (hrs : rm.slots = ms) (hrm : rm.frames + 1 ≤ R.frames ∧ 8 + (n + 11) + rm.locals ≤ R.locals) (hst : st0 = As.reverse ++ .ref b :: st) (hcat : (st.map fun v => v.category).sum ≤ 8) (hcs : cells + mc ≤ R.cells ∧ slots + ms ≤ R.slots) (kk : ∀ (x : Int32) (pic1 : PIC), post x pic1 → V p l e R s m args below meth c Q D base nL pic1 lv (pc + 3) (.int x :: st) (cells + mc) (slots + ms)) : V p l e R s m args below meth c Q D base nL pic lv (pc) (st0) cells slots :=
  fun H locs ls hP hS hl => va_calli (va_runV (As := As) (rest := st) K.1 hM (cwV As.length K.1.2.2.2.2 (G_V h1 h2 h3 h4 h5) rfl hrc hrs hd hrm) ⟨PreC.blind _, va_recv K.2.1 (hP.one he) (q0 := 0) hc rfl, fun U hU hW => ⟨rfl, K.2.moved hW, by rw [hU]; exact hP⟩⟩ rfl rfl hl.1 hst (lv_room hcat) d hcs) hS (fun q _ h => h) (fun q h => h) (fun x pic1 t H1 locs1 ht hvm hw hB hz1 hk1 hS1 => kk x pic1 hw H1 locs1 ls (ht ▸ hB) hS1 hl)
theorem v_callSI (K : KX p m c cc nL s args cw own D cA) {index n mc ms : Nat} {y : MethodName} {cd : ByteArray} {ret : Option FieldType} {rm : Room} {As st0 : List Value} {post : Int32 → PIC → Prop}  (h1 : Cond.methodLink own index y ∈ G) (h2 : Cond.static y ∈ G) (h4 : Cond.initialized y.cls ∈ G) (h5 : Cond.code y cd n ret ∈ G) (hd : y.cls ≠ "java/lang/invoke/MethodHandle" ∧ y.cls ≠ "java/lang/invoke/VarHandle" ∧ (parseMethodDescriptor y.desc).map (fun d => d.parameters.length) = some As.length) (d : decode cc pc = .ok (.invokestatic index, 3)) (hM : CI l y cd n ret rm mc ms D cA base pic (As) post) (hrc : rm.cells = mc) (hrs : rm.slots = ms) (hrm : rm.frames + 1 ≤ R.frames ∧ 8 + (n + 11) + rm.locals ≤ R.locals) (hst : st0 = As.reverse ++ st) (hcat : (st.map fun v => v.category).sum ≤ 8) (hcs : cells + mc ≤ R.cells ∧ slots + ms ≤ R.slots) (kk : ∀ (x : Int32) (pic1 : PIC), post x pic1 → V p l e R s m args below meth c Q D base nL pic1 lv (pc + 3) (.int x :: st) (cells + mc) (slots + ms)) : V p l e R s m args below meth c Q D base nL pic lv (pc) (st0) cells slots :=
  fun H locs ls hP hS hl => va_calli (va_runS (As := As) (rest := st) K.1 hM (va_cwS As.length K.1.2.2.2.2 (G_S h1 h2 h4 h5) rfl hrc hrs hd hrm) ⟨PreC.blind _, fun U hU hW => ⟨rfl, K.2.moved hW, by rw [hU]; exact hP⟩⟩ rfl rfl hl.1 hst (lv_room hcat) d hcs) hS (fun q _ h => h) (fun q h => h) (fun x pic1 t H1 locs1 ht hvm hw hB hz1 hk1 hS1 => kk x pic1 hw H1 locs1 ls (ht ▸ hB) hS1 hl)
theorem v_callSNI (K : KX p m c cc nL s args cw own D cA) {index n mc ms : Nat} {y : MethodName} {cd : ByteArray} {ret : Option FieldType} {rm : Room} {As st0 : List Value} {post : Int32 → PIC → Prop} {host : String} (h1 : Cond.methodLinkNest own index y host ∈ nestW) (h2 : Cond.static y ∈ G) (h4 : Cond.initialized y.cls ∈ G) (h5 : Cond.code y cd n ret ∈ G) (hd : y.cls ≠ "java/lang/invoke/MethodHandle" ∧ y.cls ≠ "java/lang/invoke/VarHandle" ∧ (parseMethodDescriptor y.desc).map (fun d => d.parameters.length) = some As.length) (d : decode cc pc = .ok (.invokestatic index, 3)) (hM : CI l y cd n ret rm mc ms D cA base pic (As) post) (hrc : rm.cells = mc) (hrs : rm.slots = ms) (hrm : rm.frames + 1 ≤ R.frames ∧ 8 + (n + 11) + rm.locals ≤ R.locals) (hst : st0 = As.reverse ++ st) (hcat : (st.map fun v => v.category).sum ≤ 8) (hcs : cells + mc ≤ R.cells ∧ slots + ms ≤ R.slots) (kk : ∀ (x : Int32) (pic1 : PIC), post x pic1 → V p l e R s m args below meth c Q D base nL pic1 lv (pc + 3) (.int x :: st) (cells + mc) (slots + ms)) : V p l e R s m args below meth c Q D base nL pic lv (pc) (st0) cells slots :=
  fun H locs ls hP hS hl => va_calli (va_runSN (As := As) (rest := st) K.1 hM ⟨va_cnB As.length K.1.2.2.2.2 (G_sub h5) rfl hrc hrs (K.2.2.2.2 _ h1) (K.word h4) hd hrm, K.word h2, trivial⟩ ⟨PreC.blind _, fun U hU hW => ⟨rfl, K.2.moved hW, by rw [hU]; exact hP⟩⟩ rfl rfl hl.1 hst (lv_room hcat) d hcs) hS (fun q _ h => h) (fun q h => h) (fun x pic1 t H1 locs1 ht hvm hw hB hz1 hk1 hS1 => kk x pic1 hw H1 locs1 ls (ht ▸ hB) hS1 hl)
theorem v_callVL (K : KX p m c cc nL s args cw own D cA) {index n mc ms : Nat} {y : MethodName} {cd : ByteArray} {ret : Option FieldType} {rm : Room} {As st0 : List Value} {post : Int64 → PIC → Prop} {C : String} {T : u_T} {N ci r b : Nat} {fs : List Value} (h1 : Cond.methodLink own index y ∈ G) (h2 : Cond.instanceMethod y ∈ G) (h3 : Cond.selects C y y ∈ G) (h4 : Cond.initialized C ∈ G) (h5 : Cond.code y cd n ret ∈ G) (hc : vwCl[ci]? = some (C, T, N)) (hd : y.cls = C ∧ y.cls ≠ "java/lang/invoke/MethodHandle" ∧ y.cls ≠ "java/lang/invoke/VarHandle" ∧ (parseMethodDescriptor y.desc).map (fun d => d.parameters.length) = some As.length) (d : decode cc pc = .ok (.invokevirtual index, 3)) (he : pic r = some (b, .inr (ci, fs))) (hM : CL l y cd n ret rm mc ms D cA base pic (.ref b :: As) post) (hrc : rm.cells = mc) (hrs : rm.slots = ms) (hrm : rm.frames + 1 ≤ R.frames ∧ 8 + (n + 11) + rm.locals ≤ R.locals) (hst : st0 = As.reverse ++ .ref b :: st) (hcat : (st.map fun v => v.category).sum ≤ 8) (hcs : cells + mc ≤ R.cells ∧ slots + ms ≤ R.slots) (kk : ∀ (x : Int64) (pic1 : PIC), post x pic1 → V p l e R s m args below meth c Q D base nL pic1 lv (pc + 3) (.long x :: st) (cells + mc) (slots + ms)) : V p l e R s m args below meth c Q D base nL pic lv (pc) (st0) cells slots :=
  fun H locs ls hP hS hl => va_calll (va_runV (As := As) (rest := st) K.1 hM (cwV As.length K.1.2.2.2.2 (G_V h1 h2 h3 h4 h5) rfl hrc hrs hd hrm) ⟨PreC.blind _, va_recv K.2.1 (hP.one he) (q0 := 0) hc rfl, fun U hU hW => ⟨rfl, K.2.moved hW, by rw [hU]; exact hP⟩⟩ rfl rfl hl.1 hst (lv_room hcat) d hcs) hS (fun q _ h => h) (fun q h => h) (fun x pic1 t H1 locs1 ht hvm hw hB hz1 hk1 hS1 => kk x pic1 hw H1 locs1 ls (ht ▸ hB) hS1 hl)
theorem v_callSL (K : KX p m c cc nL s args cw own D cA) {index n mc ms : Nat} {y : MethodName} {cd : ByteArray} {ret : Option FieldType} {rm : Room} {As st0 : List Value} {post : Int64 → PIC → Prop}  (h1 : Cond.methodLink own index y ∈ G) (h2 : Cond.static y ∈ G) (h4 : Cond.initialized y.cls ∈ G) (h5 : Cond.code y cd n ret ∈ G) (hd : y.cls ≠ "java/lang/invoke/MethodHandle" ∧ y.cls ≠ "java/lang/invoke/VarHandle" ∧ (parseMethodDescriptor y.desc).map (fun d => d.parameters.length) = some As.length) (d : decode cc pc = .ok (.invokestatic index, 3)) (hM : CL l y cd n ret rm mc ms D cA base pic (As) post) (hrc : rm.cells = mc) (hrs : rm.slots = ms) (hrm : rm.frames + 1 ≤ R.frames ∧ 8 + (n + 11) + rm.locals ≤ R.locals) (hst : st0 = As.reverse ++ st) (hcat : (st.map fun v => v.category).sum ≤ 8) (hcs : cells + mc ≤ R.cells ∧ slots + ms ≤ R.slots) (kk : ∀ (x : Int64) (pic1 : PIC), post x pic1 → V p l e R s m args below meth c Q D base nL pic1 lv (pc + 3) (.long x :: st) (cells + mc) (slots + ms)) : V p l e R s m args below meth c Q D base nL pic lv (pc) (st0) cells slots :=
  fun H locs ls hP hS hl => va_calll (va_runS (As := As) (rest := st) K.1 hM (va_cwS As.length K.1.2.2.2.2 (G_S h1 h2 h4 h5) rfl hrc hrs hd hrm) ⟨PreC.blind _, fun U hU hW => ⟨rfl, K.2.moved hW, by rw [hU]; exact hP⟩⟩ rfl rfl hl.1 hst (lv_room hcat) d hcs) hS (fun q _ h => h) (fun q h => h) (fun x pic1 t H1 locs1 ht hvm hw hB hz1 hk1 hS1 => kk x pic1 hw H1 locs1 ls (ht ▸ hB) hS1 hl)
theorem v_callSNL (K : KX p m c cc nL s args cw own D cA) {index n mc ms : Nat} {y : MethodName} {cd : ByteArray} {ret : Option FieldType} {rm : Room} {As st0 : List Value} {post : Int64 → PIC → Prop} {host : String} (h1 : Cond.methodLinkNest own index y host ∈ nestW) (h2 : Cond.static y ∈ G) (h4 : Cond.initialized y.cls ∈ G) (h5 : Cond.code y cd n ret ∈ G) (hd : y.cls ≠ "java/lang/invoke/MethodHandle" ∧ y.cls ≠ "java/lang/invoke/VarHandle" ∧ (parseMethodDescriptor y.desc).map (fun d => d.parameters.length) = some As.length) (d : decode cc pc = .ok (.invokestatic index, 3)) (hM : CL l y cd n ret rm mc ms D cA base pic (As) post) (hrc : rm.cells = mc) (hrs : rm.slots = ms) (hrm : rm.frames + 1 ≤ R.frames ∧ 8 + (n + 11) + rm.locals ≤ R.locals) (hst : st0 = As.reverse ++ st) (hcat : (st.map fun v => v.category).sum ≤ 8) (hcs : cells + mc ≤ R.cells ∧ slots + ms ≤ R.slots) (kk : ∀ (x : Int64) (pic1 : PIC), post x pic1 → V p l e R s m args below meth c Q D base nL pic1 lv (pc + 3) (.long x :: st) (cells + mc) (slots + ms)) : V p l e R s m args below meth c Q D base nL pic lv (pc) (st0) cells slots :=
  fun H locs ls hP hS hl => va_calll (va_runSN (As := As) (rest := st) K.1 hM ⟨va_cnB As.length K.1.2.2.2.2 (G_sub h5) rfl hrc hrs (K.2.2.2.2 _ h1) (K.word h4) hd hrm, K.word h2, trivial⟩ ⟨PreC.blind _, fun U hU hW => ⟨rfl, K.2.moved hW, by rw [hU]; exact hP⟩⟩ rfl rfl hl.1 hst (lv_room hcat) d hcs) hS (fun q _ h => h) (fun q h => h) (fun x pic1 t H1 locs1 ht hvm hw hB hz1 hk1 hS1 => kk x pic1 hw H1 locs1 ls (ht ▸ hB) hS1 hl)
theorem v_callVV (K : KX p m c cc nL s args cw own D cA) {index n mc ms : Nat} {y : MethodName} {cd : ByteArray} {ret : Option FieldType} {rm : Room} {As st0 : List Value} {post : PIC → Prop} {C : String} {T : u_T} {N ci r b : Nat} {fs : List Value} (h1 : Cond.methodLink own index y ∈ G) (h2 : Cond.instanceMethod y ∈ G) (h3 : Cond.selects C y y ∈ G) (h4 : Cond.initialized C ∈ G) (h5 : Cond.code y cd n ret ∈ G) (hc : vwCl[ci]? = some (C, T, N)) (hd : y.cls = C ∧ y.cls ≠ "java/lang/invoke/MethodHandle" ∧ y.cls ≠ "java/lang/invoke/VarHandle" ∧ (parseMethodDescriptor y.desc).map (fun d => d.parameters.length) = some As.length) (d : decode cc pc = .ok (.invokevirtual index, 3)) (he : pic r = some (b, .inr (ci, fs))) (hM : CV l y cd n ret rm mc ms D cA base pic (.ref b :: As) post) (hrc : rm.cells = mc) (hrs : rm.slots = ms) (hrm : rm.frames + 1 ≤ R.frames ∧ 8 + (n + 11) + rm.locals ≤ R.locals) (hst : st0 = As.reverse ++ .ref b :: st) (hcat : (st.map fun v => v.category).sum ≤ 8) (hcs : cells + mc ≤ R.cells ∧ slots + ms ≤ R.slots) (kk : ∀ pic1 : PIC, post pic1 → V p l e R s m args below meth c Q D base nL pic1 lv (pc + 3) (st) (cells + mc) (slots + ms)) : V p l e R s m args below meth c Q D base nL pic lv (pc) (st0) cells slots :=
  fun H locs ls hP hS hl => va_callv (va_runV (As := As) (rest := st) K.1 hM (cwV As.length K.1.2.2.2.2 (G_V h1 h2 h3 h4 h5) rfl hrc hrs hd hrm) ⟨PreC.blind _, va_recv K.2.1 (hP.one he) (q0 := 0) hc rfl, fun U hU hW => ⟨rfl, K.2.moved hW, by rw [hU]; exact hP⟩⟩ rfl rfl hl.1 hst (lv_room hcat) d hcs) hS (fun q _ h => h) (fun q h => h) (fun pic1 t H1 locs1 ht hvm hw hB hz1 hk1 hS1 => kk pic1 hw H1 locs1 ls (ht ▸ hB) hS1 hl)
theorem v_callSV (K : KX p m c cc nL s args cw own D cA) {index n mc ms : Nat} {y : MethodName} {cd : ByteArray} {ret : Option FieldType} {rm : Room} {As st0 : List Value} {post : PIC → Prop}  (h1 : Cond.methodLink own index y ∈ G) (h2 : Cond.static y ∈ G) (h4 : Cond.initialized y.cls ∈ G) (h5 : Cond.code y cd n ret ∈ G) (hd : y.cls ≠ "java/lang/invoke/MethodHandle" ∧ y.cls ≠ "java/lang/invoke/VarHandle" ∧ (parseMethodDescriptor y.desc).map (fun d => d.parameters.length) = some As.length) (d : decode cc pc = .ok (.invokestatic index, 3)) (hM : CV l y cd n ret rm mc ms D cA base pic (As) post) (hrc : rm.cells = mc) (hrs : rm.slots = ms) (hrm : rm.frames + 1 ≤ R.frames ∧ 8 + (n + 11) + rm.locals ≤ R.locals) (hst : st0 = As.reverse ++ st) (hcat : (st.map fun v => v.category).sum ≤ 8) (hcs : cells + mc ≤ R.cells ∧ slots + ms ≤ R.slots) (kk : ∀ pic1 : PIC, post pic1 → V p l e R s m args below meth c Q D base nL pic1 lv (pc + 3) (st) (cells + mc) (slots + ms)) : V p l e R s m args below meth c Q D base nL pic lv (pc) (st0) cells slots :=
  fun H locs ls hP hS hl => va_callv (va_runS (As := As) (rest := st) K.1 hM (va_cwS As.length K.1.2.2.2.2 (G_S h1 h2 h4 h5) rfl hrc hrs hd hrm) ⟨PreC.blind _, fun U hU hW => ⟨rfl, K.2.moved hW, by rw [hU]; exact hP⟩⟩ rfl rfl hl.1 hst (lv_room hcat) d hcs) hS (fun q _ h => h) (fun q h => h) (fun pic1 t H1 locs1 ht hvm hw hB hz1 hk1 hS1 => kk pic1 hw H1 locs1 ls (ht ▸ hB) hS1 hl)
theorem v_callSNV (K : KX p m c cc nL s args cw own D cA) {index n mc ms : Nat} {y : MethodName} {cd : ByteArray} {ret : Option FieldType} {rm : Room} {As st0 : List Value} {post : PIC → Prop} {host : String} (h1 : Cond.methodLinkNest own index y host ∈ nestW) (h2 : Cond.static y ∈ G) (h4 : Cond.initialized y.cls ∈ G) (h5 : Cond.code y cd n ret ∈ G) (hd : y.cls ≠ "java/lang/invoke/MethodHandle" ∧ y.cls ≠ "java/lang/invoke/VarHandle" ∧ (parseMethodDescriptor y.desc).map (fun d => d.parameters.length) = some As.length) (d : decode cc pc = .ok (.invokestatic index, 3)) (hM : CV l y cd n ret rm mc ms D cA base pic (As) post) (hrc : rm.cells = mc) (hrs : rm.slots = ms) (hrm : rm.frames + 1 ≤ R.frames ∧ 8 + (n + 11) + rm.locals ≤ R.locals) (hst : st0 = As.reverse ++ st) (hcat : (st.map fun v => v.category).sum ≤ 8) (hcs : cells + mc ≤ R.cells ∧ slots + ms ≤ R.slots) (kk : ∀ pic1 : PIC, post pic1 → V p l e R s m args below meth c Q D base nL pic1 lv (pc + 3) (st) (cells + mc) (slots + ms)) : V p l e R s m args below meth c Q D base nL pic lv (pc) (st0) cells slots :=
  fun H locs ls hP hS hl => va_callv (va_runSN (As := As) (rest := st) K.1 hM ⟨va_cnB As.length K.1.2.2.2.2 (G_sub h5) rfl hrc hrs (K.2.2.2.2 _ h1) (K.word h4) hd hrm, K.word h2, trivial⟩ ⟨PreC.blind _, fun U hU hW => ⟨rfl, K.2.moved hW, by rw [hU]; exact hP⟩⟩ rfl rfl hl.1 hst (lv_room hcat) d hcs) hS (fun q _ h => h) (fun q h => h) (fun pic1 t H1 locs1 ht hvm hw hB hz1 hk1 hS1 => kk pic1 hw H1 locs1 ls (ht ▸ hB) hS1 hl)
theorem v_callVQ (K : KX p m c cc nL s args cw own D cA) {index n mc ms : Nat} {y : MethodName} {cd : ByteArray} {ret : Option FieldType} {rm : Room} {As st0 : List Value} {post : Option Nat → PIC → Prop} {C : String} {T : u_T} {N ci r b : Nat} {fs : List Value} (h1 : Cond.methodLink own index y ∈ G) (h2 : Cond.instanceMethod y ∈ G) (h3 : Cond.selects C y y ∈ G) (h4 : Cond.initialized C ∈ G) (h5 : Cond.code y cd n ret ∈ G) (hc : vwCl[ci]? = some (C, T, N)) (hd : y.cls = C ∧ y.cls ≠ "java/lang/invoke/MethodHandle" ∧ y.cls ≠ "java/lang/invoke/VarHandle" ∧ (parseMethodDescriptor y.desc).map (fun d => d.parameters.length) = some As.length) (d : decode cc pc = .ok (.invokevirtual index, 3)) (he : pic r = some (b, .inr (ci, fs))) (hM : CQ l y cd n ret rm mc ms D cA base pic (.ref b :: As) post) (hrc : rm.cells = mc) (hrs : rm.slots = ms) (hrm : rm.frames + 1 ≤ R.frames ∧ 8 + (n + 11) + rm.locals ≤ R.locals) (hst : st0 = As.reverse ++ .ref b :: st) (hcat : (st.map fun v => v.category).sum ≤ 8) (hcs : cells + mc ≤ R.cells ∧ slots + ms ≤ R.slots) (kk : ∀ (x : Option Nat) (pic1 : PIC), post x pic1 → V p l e R s m args below meth c Q D base nL pic1 lv (pc + 3) (va_rf x :: st) (cells + mc) (slots + ms)) : V p l e R s m args below meth c Q D base nL pic lv (pc) (st0) cells slots :=
  fun H locs ls hP hS hl => va_callq (va_runV (As := As) (rest := st) K.1 hM (cwV As.length K.1.2.2.2.2 (G_V h1 h2 h3 h4 h5) rfl hrc hrs hd hrm) ⟨PreC.blind _, va_recv K.2.1 (hP.one he) (q0 := 0) hc rfl, fun U hU hW => ⟨rfl, K.2.moved hW, by rw [hU]; exact hP⟩⟩ rfl rfl hl.1 hst (lv_room hcat) d hcs) hS (fun q _ h => h) (fun q h => h) (fun x pic1 t H1 locs1 ht hvm hw hB hz1 hk1 hS1 => kk x pic1 hw H1 locs1 ls (ht ▸ hB) hS1 hl)
theorem v_callSQ (K : KX p m c cc nL s args cw own D cA) {index n mc ms : Nat} {y : MethodName} {cd : ByteArray} {ret : Option FieldType} {rm : Room} {As st0 : List Value} {post : Option Nat → PIC → Prop}  (h1 : Cond.methodLink own index y ∈ G) (h2 : Cond.static y ∈ G) (h4 : Cond.initialized y.cls ∈ G) (h5 : Cond.code y cd n ret ∈ G) (hd : y.cls ≠ "java/lang/invoke/MethodHandle" ∧ y.cls ≠ "java/lang/invoke/VarHandle" ∧ (parseMethodDescriptor y.desc).map (fun d => d.parameters.length) = some As.length) (d : decode cc pc = .ok (.invokestatic index, 3)) (hM : CQ l y cd n ret rm mc ms D cA base pic (As) post) (hrc : rm.cells = mc) (hrs : rm.slots = ms) (hrm : rm.frames + 1 ≤ R.frames ∧ 8 + (n + 11) + rm.locals ≤ R.locals) (hst : st0 = As.reverse ++ st) (hcat : (st.map fun v => v.category).sum ≤ 8) (hcs : cells + mc ≤ R.cells ∧ slots + ms ≤ R.slots) (kk : ∀ (x : Option Nat) (pic1 : PIC), post x pic1 → V p l e R s m args below meth c Q D base nL pic1 lv (pc + 3) (va_rf x :: st) (cells + mc) (slots + ms)) : V p l e R s m args below meth c Q D base nL pic lv (pc) (st0) cells slots :=
  fun H locs ls hP hS hl => va_callq (va_runS (As := As) (rest := st) K.1 hM (va_cwS As.length K.1.2.2.2.2 (G_S h1 h2 h4 h5) rfl hrc hrs hd hrm) ⟨PreC.blind _, fun U hU hW => ⟨rfl, K.2.moved hW, by rw [hU]; exact hP⟩⟩ rfl rfl hl.1 hst (lv_room hcat) d hcs) hS (fun q _ h => h) (fun q h => h) (fun x pic1 t H1 locs1 ht hvm hw hB hz1 hk1 hS1 => kk x pic1 hw H1 locs1 ls (ht ▸ hB) hS1 hl)
theorem v_callIV (K : KX p m c cc nL s args cw own D cA) {index n mc ms : Nat} {y : MethodName} {cd : ByteArray} {ret : Option FieldType} {rm : Room} {As st0 : List Value} {post : PIC → Prop} {b : Nat} (h1 : Cond.methodLink own index y ∈ G) (h2 : Cond.instanceMethod y ∈ G) (h4 : Cond.initialized y.cls ∈ G) (h5 : Cond.code y cd n none ∈ G) (hret : ret = none) (hy : y.name = "<init>") (hd : y.cls ≠ "java/lang/invoke/MethodHandle" ∧ y.cls ≠ "java/lang/invoke/VarHandle" ∧ (parseMethodDescriptor y.desc).map (fun d => d.parameters.length) = some As.length) (d : decode cc pc = .ok (.invokespecial index, 3)) (hM : CV l y cd n ret rm mc ms D cA base pic (.ref b :: As) post) (hrc : rm.cells = mc) (hrs : rm.slots = ms) (hrm : rm.frames + 1 ≤ R.frames ∧ 8 + (n + 11) + rm.locals ≤ R.locals) (hst : st0 = As.reverse ++ .ref b :: st) (hcat : (st.map fun v => v.category).sum ≤ 8) (hcs : cells + mc ≤ R.cells ∧ slots + ms ≤ R.slots) (kk : ∀ pic1 : PIC, post pic1 → V p l e R s m args below meth c Q D base nL pic1 lv (pc + 3) (st) (cells + mc) (slots + ms)) : V p l e R s m args below meth c Q D base nL pic lv (pc) (st0) cells slots :=
  fun H locs ls hP hS hl => va_callv (va_runI (As := As) (rest := st) K.1 (hret ▸ hM : CV l y cd n none rm mc ms D cA base pic (.ref b :: As) post) (cwI As.length K.1.2.2.2.2 (G_sub h5) rfl hrc hrs (K.word h4) (K.word h1) (K.word h2) hy hd hrm) ⟨PreC.blind _, fun U hU hW => ⟨rfl, K.2.moved hW, by rw [hU]; exact hP⟩⟩ rfl rfl hl.1 hst (lv_room hcat) d hcs) hS (fun q _ h => h) (fun q h => h) (fun pic1 t H1 locs1 ht hvm hw hB hz1 hk1 hS1 => kk pic1 hw H1 locs1 ls (ht ▸ hB) hS1 hl)
theorem v_callINV (K : KX p m c cc nL s args cw own D cA) {index n mc ms : Nat} {y : MethodName} {cd : ByteArray} {ret : Option FieldType} {rm : Room} {As st0 : List Value} {post : PIC → Prop} {b : Nat} {host : String} (h1 : Cond.methodLinkNest own index y host ∈ nestW) (h2 : Cond.instanceMethod y ∈ G) (h4 : Cond.initialized y.cls ∈ G) (h5 : Cond.code y cd n none ∈ G) (hret : ret = none) (hy : y.name = "<init>") (hd : y.cls ≠ "java/lang/invoke/MethodHandle" ∧ y.cls ≠ "java/lang/invoke/VarHandle" ∧ (parseMethodDescriptor y.desc).map (fun d => d.parameters.length) = some As.length) (d : decode cc pc = .ok (.invokespecial index, 3)) (hM : CV l y cd n ret rm mc ms D cA base pic (.ref b :: As) post) (hrc : rm.cells = mc) (hrs : rm.slots = ms) (hrm : rm.frames + 1 ≤ R.frames ∧ 8 + (n + 11) + rm.locals ≤ R.locals) (hst : st0 = As.reverse ++ .ref b :: st) (hcat : (st.map fun v => v.category).sum ≤ 8) (hcs : cells + mc ≤ R.cells ∧ slots + ms ≤ R.slots) (kk : ∀ pic1 : PIC, post pic1 → V p l e R s m args below meth c Q D base nL pic1 lv (pc + 3) (st) (cells + mc) (slots + ms)) : V p l e R s m args below meth c Q D base nL pic lv (pc) (st0) cells slots :=
  fun H locs ls hP hS hl => va_callv (va_runIN (As := As) (rest := st) K.1 (hret ▸ hM : CV l y cd n none rm mc ms D cA base pic (.ref b :: As) post) ⟨va_cnB As.length K.1.2.2.2.2 (G_sub h5) rfl hrc hrs (K.2.2.2.2 _ h1) (K.word h4) hd hrm, hy, K.word h2⟩ ⟨PreC.blind _, fun U hU hW => ⟨rfl, K.2.moved hW, by rw [hU]; exact hP⟩⟩ rfl rfl hl.1 hst (lv_room hcat) d hcs) hS (fun q _ h => h) (fun q h => h) (fun pic1 t H1 locs1 ht hvm hw hB hz1 hk1 hS1 => kk pic1 hw H1 locs1 ls (ht ▸ hB) hS1 hl)
theorem v_iret (K : KX p m c cc nL s args cw own D cA) {v : Int32} {mc ms : Nat} {post : Int32 → PIC → Prop} (d : decode cc pc = .ok (.ireturn, 1)) (hr : meth.sig.returnType = some .int) (hlk : meth.locks = false) (hcm : cells ≤ mc) (hsm : slots ≤ ms) (hp : post v pic) : V p l e R s m args below meth c (MQ below (va_Qi post (fun pic1 t => WO D base pic1 t.heap) (FA base)) args s mc ms (FA base)) D base nL pic lv pc [.int v] cells slots :=
  fun H locs ls hP hS hl => W.widen hcm hsm (W.iret K.1.1 K.1.2.1 hr (fun t ht hW => ⟨⟨v, pic, rfl, hp, by show WO D base pic t.heap; rw [ht]; exact hP⟩, hS.F ht⟩) hS.2.2 d hlk)
theorem v_lret (K : KX p m c cc nL s args cw own D cA) {v : Int64} {mc ms : Nat} {post : Int64 → PIC → Prop} (d : decode cc pc = .ok (.lreturn, 1)) (hr : meth.sig.returnType = some .long) (hlk : meth.locks = false) (hcm : cells ≤ mc) (hsm : slots ≤ ms) (hp : post v pic) : V p l e R s m args below meth c (MQ below (va_Ql post (fun pic1 t => WO D base pic1 t.heap) (FA base)) args s mc ms (FA base)) D base nL pic lv pc [.long v] cells slots :=
  fun H locs ls hP hS hl => W.widen hcm hsm (W.lret K.1.1 K.1.2.1 hr (fun t ht hW => ⟨⟨v, pic, rfl, hp, by show WO D base pic t.heap; rw [ht]; exact hP⟩, hS.F ht⟩) hS.2.2 d hlk)
theorem v_zret (K : KX p m c cc nL s args cw own D cA) {v : Int32} {mc ms : Nat} {post : Int32 → PIC → Prop} (d : decode cc pc = .ok (.ireturn, 1)) (hr : meth.sig.returnType = some .boolean) (hn : narrow .boolean (.int v) = .int v) (hlk : meth.locks = false) (hcm : cells ≤ mc) (hsm : slots ≤ ms) (hp : post v pic) : V p l e R s m args below meth c (MQ below (va_Qi post (fun pic1 t => WO D base pic1 t.heap) (FA base)) args s mc ms (FA base)) D base nL pic lv pc [.int v] cells slots :=
  fun H locs ls hP hS hl => W.widen hcm hsm (W.zret K.1.1 K.1.2.1 hr hn (fun t ht hW => ⟨⟨v, pic, rfl, hp, by show WO D base pic t.heap; rw [ht]; exact hP⟩, hS.F ht⟩) hS.2.2 d hlk)
theorem v_vret (K : KX p m c cc nL s args cw own D cA) {mc ms : Nat} {post : PIC → Prop} (d : decode cc pc = .ok (.return_, 1)) (hr : meth.sig.returnType = none) (hlk : meth.locks = false) (hcm : cells ≤ mc) (hsm : slots ≤ ms) (hp : post pic) : V p l e R s m args below meth c (MQ below (va_Qv post (fun pic1 t => WO D base pic1 t.heap) (FA base)) args s mc ms (FA base)) D base nL pic lv pc [] cells slots :=
  fun H locs ls hP hS hl => W.widen hcm hsm (W.vret K.1.1 K.1.2.1 hr (fun t ht hW => ⟨⟨pic, rfl, hp, by show WO D base pic t.heap; rw [ht]; exact hP⟩, hS.F ht⟩) hS.2.2 d hlk)
theorem v_aret (K : KX p m c cc nL s args cw own D cA) {v : Option Nat} {mc ms : Nat} {n : String} {post : Option Nat → PIC → Prop} (d : decode cc pc = .ok (.areturn, 1)) (hr : meth.sig.returnType = some (.object n)) (hlk : meth.locks = false) (hcm : cells ≤ mc) (hsm : slots ≤ ms) (hp : post v pic) : V p l e R s m args below meth c (MQ below (va_Qq post (fun pic1 t => WO D base pic1 t.heap) (FA base)) args s mc ms (FA base)) D base nL pic lv pc [va_rf v] cells slots :=
  fun H locs ls hP hS hl => W.widen hcm hsm (W.aret K.1.1 K.1.2.1 hr (Or.inl ⟨_, rfl⟩) (va_rf_or v) (fun t ht hW => ⟨⟨v, pic, rfl, hp, by show WO D base pic t.heap; rw [ht]; exact hP⟩, hS.F ht⟩) hS.2.2 d hlk)
end RR
theorem ofI {l : Launch} {y : MethodName} {cd : ByteArray} {n : Nat} {ret : Option FieldType} {rm : Room} {mc ms : Nat} {D : va_G} {cA : Nat → ClassId} {base : Nat} {pic : PIC} {As : List Value} {post : Int32 → PIC → Prop} (hy : plainName y.cls = true) (hn : (lg_sl As).length ≤ n) (body : ∀ p e s m below meth c, KX p m c cd n s As.toArray (.code y cd n ret) y.cls D cA → meth.sig.returnType = ret → meth.locks = false → meth.name = y.name → V p l e rm s m As.toArray below meth c (MQ below (va_Qi post (fun pic1 t => WO D base pic1 t.heap) (FA base)) As.toArray s mc ms (FA base)) D base n pic (lvOf (lv_args 0 As)) 0 [] 0 0) : CI l y cd n ret rm mc ms D cA base pic As post := by
  refine Met.ofW (cc := cd) (maxL := n) (ret := ret) hy rfl ?_
  intro p e s m args below meth c s1 B hml hv
  obtain ⟨rfl, hK, hP⟩ := hv
  have hts := atoms_spec (ws := .code y cd n ret :: G) B.pre
  have hl := lv_entry As hn
  rw [lg_entry_eq]
  exact body p e s m below meth c ⟨⟨B.exec, B.bytes, hml, findClass_of_methodNamed B.named, hts⟩, hK⟩ B.returns B.notSynchronized (name_of_methodNamed B.named B.method).1 s.heap [] _ hP va_S.rf (LH.of hl)
theorem ofL {l : Launch} {y : MethodName} {cd : ByteArray} {n : Nat} {ret : Option FieldType} {rm : Room} {mc ms : Nat} {D : va_G} {cA : Nat → ClassId} {base : Nat} {pic : PIC} {As : List Value} {post : Int64 → PIC → Prop} (hy : plainName y.cls = true) (hn : (lg_sl As).length ≤ n) (body : ∀ p e s m below meth c, KX p m c cd n s As.toArray (.code y cd n ret) y.cls D cA → meth.sig.returnType = ret → meth.locks = false → meth.name = y.name → V p l e rm s m As.toArray below meth c (MQ below (va_Ql post (fun pic1 t => WO D base pic1 t.heap) (FA base)) As.toArray s mc ms (FA base)) D base n pic (lvOf (lv_args 0 As)) 0 [] 0 0) : CL l y cd n ret rm mc ms D cA base pic As post := by
  refine Met.ofW (cc := cd) (maxL := n) (ret := ret) hy rfl ?_
  intro p e s m args below meth c s1 B hml hv
  obtain ⟨rfl, hK, hP⟩ := hv
  have hts := atoms_spec (ws := .code y cd n ret :: G) B.pre
  have hl := lv_entry As hn
  rw [lg_entry_eq]
  exact body p e s m below meth c ⟨⟨B.exec, B.bytes, hml, findClass_of_methodNamed B.named, hts⟩, hK⟩ B.returns B.notSynchronized (name_of_methodNamed B.named B.method).1 s.heap [] _ hP va_S.rf (LH.of hl)
theorem ofQ {l : Launch} {y : MethodName} {cd : ByteArray} {n : Nat} {ret : Option FieldType} {rm : Room} {mc ms : Nat} {D : va_G} {cA : Nat → ClassId} {base : Nat} {pic : PIC} {As : List Value} {post : Option Nat → PIC → Prop} (hy : plainName y.cls = true) (hn : (lg_sl As).length ≤ n) (body : ∀ p e s m below meth c, KX p m c cd n s As.toArray (.code y cd n ret) y.cls D cA → meth.sig.returnType = ret → meth.locks = false → meth.name = y.name → V p l e rm s m As.toArray below meth c (MQ below (va_Qq post (fun pic1 t => WO D base pic1 t.heap) (FA base)) As.toArray s mc ms (FA base)) D base n pic (lvOf (lv_args 0 As)) 0 [] 0 0) : CQ l y cd n ret rm mc ms D cA base pic As post := by
  refine Met.ofW (cc := cd) (maxL := n) (ret := ret) hy rfl ?_
  intro p e s m args below meth c s1 B hml hv
  obtain ⟨rfl, hK, hP⟩ := hv
  have hts := atoms_spec (ws := .code y cd n ret :: G) B.pre
  have hl := lv_entry As hn
  rw [lg_entry_eq]
  exact body p e s m below meth c ⟨⟨B.exec, B.bytes, hml, findClass_of_methodNamed B.named, hts⟩, hK⟩ B.returns B.notSynchronized (name_of_methodNamed B.named B.method).1 s.heap [] _ hP va_S.rf (LH.of hl)
theorem ofV {l : Launch} {y : MethodName} {cd : ByteArray} {n : Nat} {ret : Option FieldType} {rm : Room} {mc ms : Nat} {D : va_G} {cA : Nat → ClassId} {base : Nat} {pic : PIC} {As : List Value} {post : PIC → Prop} (hy : plainName y.cls = true) (hn : (lg_sl As).length ≤ n) (body : ∀ p e s m below meth c, KX p m c cd n s As.toArray (.code y cd n ret) y.cls D cA → meth.sig.returnType = ret → meth.locks = false → meth.name = y.name → V p l e rm s m As.toArray below meth c (MQ below (va_Qv post (fun pic1 t => WO D base pic1 t.heap) (FA base)) As.toArray s mc ms (FA base)) D base n pic (lvOf (lv_args 0 As)) 0 [] 0 0) : CV l y cd n ret rm mc ms D cA base pic As post := by
  refine Met.ofW (cc := cd) (maxL := n) (ret := ret) hy rfl ?_
  intro p e s m args below meth c s1 B hml hv
  obtain ⟨rfl, hK, hP⟩ := hv
  have hts := atoms_spec (ws := .code y cd n ret :: G) B.pre
  have hl := lv_entry As hn
  rw [lg_entry_eq]
  exact body p e s m below meth c ⟨⟨B.exec, B.bytes, hml, findClass_of_methodNamed B.named, hts⟩, hK⟩ B.returns B.notSynchronized (name_of_methodNamed B.named B.method).1 s.heap [] _ hP va_S.rf (LH.of hl)
end
section
def isB (x : Int32) : Prop := x = 0 ∨ x = 1
theorem narB {x : Int32} (h : isB x) : narrow .boolean (.int x) = .int x := by rcases h with rfl | rfl <;> decide +kernel
theorem fitB {x : Int32} (h : isB x) : fits .boolean (.int x) = true := by rcases h with rfl | rfl <;> decide +kernel
theorem isB0 : isB 0 := Or.inl rfl
theorem isB1 : isB 1 := Or.inr rfl
section LK
variable {p : Program} {l : Launch} {e : Env} {R : Room} {s : State} {m : MethodId} {args : Array Value} {below : List Frame} {meth : Method} {c : Code} {Q : State → Prop} {D : va_G} {cA : Nat → ClassId} {base nL : Nat} {pic : PIC} {lv : LV} {pc : Nat} {st : List Value} {cells slots : Nat} {cc : ByteArray} {cw : Cond}
theorem gf_X5_10 (K : KX p m c cc nL s args cw RX5 D cA) {r a : Nat} {fs : List Value} {v : Value} (d : decode cc pc = .ok (.getfield 10, 3)) (he : pic r = some (a, .inr (8, fs))) (hv : fs[0]? = some v) (kk : V p l e R s m args below meth c Q D base nL pic lv (pc + 3) (v :: st) cells slots) : V p l e R s m args below meth c Q D base nL pic lv (pc) (.ref a :: st) cells slots := v_get K (C := RX5) (T := TX5) (N := 9) (k := 0) rfl in_wsX50 (by decide) gw_17 rfl d he hv kk
theorem pf_X5_10 (K : KX p m c cc nL s args cw RX5 D cA) {r a : Nat} {fs : List Value} {x : Nat} (hin : meth.name = "<init>") (d : decode cc pc = .ok (.putfield 10, 3)) (he : pic r = some (a, .inr (8, fs))) (hl9 : 0 < fs.length) (kk : ∀ pic1 : PIC, pic1 r = some (a, .inr (8, fs.set 0 (.ref x))) → (∀ q, q ≠ r → pic1 q = pic q) → V p l e R s m args below meth c Q D base nL pic1 lv (pc + 3) (st) cells slots) : V p l e R s m args below meth c Q D base nL pic lv (pc) (.ref x :: .ref a :: st) cells slots := v_putF K (C := RX5) (T := TX5) (N := 9) (k := 0) (ty := .object "EventRows$Calls") tyX5 tyX5_ok nmX5 rfl in_wsX50 (by decide) gw_17 rfl rfl hin rfl (by decide +kernel) d he rfl rfl hl9 kk
theorem gf_X5_18 (K : KX p m c cc nL s args cw RX5 D cA) {r a : Nat} {fs : List Value} {v : Value} (d : decode cc pc = .ok (.getfield 18, 3)) (he : pic r = some (a, .inr (8, fs))) (hv : fs[1]? = some v) (kk : V p l e R s m args below meth c Q D base nL pic lv (pc + 3) (v :: st) cells slots) : V p l e R s m args below meth c Q D base nL pic lv (pc) (.ref a :: st) cells slots := v_get K (C := RX5) (T := TX5) (N := 9) (k := 1) rfl in_wsX50 (by decide) gw_19 rfl d he hv kk
theorem pf_X5_18 (K : KX p m c cc nL s args cw RX5 D cA) {r a : Nat} {fs : List Value} {x : Nat} (hin : meth.name = "<init>") (d : decode cc pc = .ok (.putfield 18, 3)) (he : pic r = some (a, .inr (8, fs))) (hl9 : 1 < fs.length) (kk : ∀ pic1 : PIC, pic1 r = some (a, .inr (8, fs.set 1 (.ref x))) → (∀ q, q ≠ r → pic1 q = pic q) → V p l e R s m args below meth c Q D base nL pic1 lv (pc + 3) (st) cells slots) : V p l e R s m args below meth c Q D base nL pic lv (pc) (.ref x :: .ref a :: st) cells slots := v_putF K (C := RX5) (T := TX5) (N := 9) (k := 1) (ty := .array (.object "EventRows$Block")) tyX5 tyX5_ok nmX5 rfl in_wsX50 (by decide) gw_19 rfl rfl hin rfl (by decide +kernel) d he rfl rfl hl9 kk
theorem gf_X5_25 (K : KX p m c cc nL s args cw RX5 D cA) {r a : Nat} {fs : List Value} {v : Value} (d : decode cc pc = .ok (.getfield 25, 3)) (he : pic r = some (a, .inr (8, fs))) (hv : fs[2]? = some v) (kk : V p l e R s m args below meth c Q D base nL pic lv (pc + 3) (v :: st) cells slots) : V p l e R s m args below meth c Q D base nL pic lv (pc) (.ref a :: st) cells slots := v_get K (C := RX5) (T := TX5) (N := 9) (k := 2) rfl in_wsX50 (by decide) gw_23 rfl d he hv kk
theorem pf_X5_25 (K : KX p m c cc nL s args cw RX5 D cA) {r a : Nat} {fs : List Value} {x : Nat} (hin : meth.name = "<init>") (d : decode cc pc = .ok (.putfield 25, 3)) (he : pic r = some (a, .inr (8, fs))) (hl9 : 2 < fs.length) (kk : ∀ pic1 : PIC, pic1 r = some (a, .inr (8, fs.set 2 (.ref x))) → (∀ q, q ≠ r → pic1 q = pic q) → V p l e R s m args below meth c Q D base nL pic1 lv (pc + 3) (st) cells slots) : V p l e R s m args below meth c Q D base nL pic lv (pc) (.ref x :: .ref a :: st) cells slots := v_putF K (C := RX5) (T := TX5) (N := 9) (k := 2) (ty := .object "EventRows$Tree") tyX5 tyX5_ok nmX5 rfl in_wsX50 (by decide) gw_23 rfl rfl hin rfl (by decide +kernel) d he rfl rfl hl9 kk
theorem gf_X5_32 (K : KX p m c cc nL s args cw RX5 D cA) {r a : Nat} {fs : List Value} {v : Value} (d : decode cc pc = .ok (.getfield 32, 3)) (he : pic r = some (a, .inr (8, fs))) (hv : fs[3]? = some v) (kk : V p l e R s m args below meth c Q D base nL pic lv (pc + 3) (v :: st) cells slots) : V p l e R s m args below meth c Q D base nL pic lv (pc) (.ref a :: st) cells slots := v_get K (C := RX5) (T := TX5) (N := 9) (k := 3) rfl in_wsX50 (by decide) gw_27 rfl d he hv kk
theorem pf_X5_32 (K : KX p m c cc nL s args cw RX5 D cA) {r a : Nat} {fs : List Value} {x : Nat} (hin : meth.name = "<init>") (d : decode cc pc = .ok (.putfield 32, 3)) (he : pic r = some (a, .inr (8, fs))) (hl9 : 3 < fs.length) (kk : ∀ pic1 : PIC, pic1 r = some (a, .inr (8, fs.set 3 (.ref x))) → (∀ q, q ≠ r → pic1 q = pic q) → V p l e R s m args below meth c Q D base nL pic1 lv (pc + 3) (st) cells slots) : V p l e R s m args below meth c Q D base nL pic lv (pc) (.ref x :: .ref a :: st) cells slots := v_putF K (C := RX5) (T := TX5) (N := 9) (k := 3) (ty := .object "EventRows$Out") tyX5 tyX5_ok nmX5 rfl in_wsX50 (by decide) gw_27 rfl rfl hin rfl (by decide +kernel) d he rfl rfl hl9 kk
theorem gf_X5_38 (K : KX p m c cc nL s args cw RX5 D cA) {r a : Nat} {fs : List Value} {v : Value} (d : decode cc pc = .ok (.getfield 38, 3)) (he : pic r = some (a, .inr (8, fs))) (hv : fs[4]? = some v) (kk : V p l e R s m args below meth c Q D base nL pic lv (pc + 3) (v :: st) cells slots) : V p l e R s m args below meth c Q D base nL pic lv (pc) (.ref a :: st) cells slots := v_get K (C := RX5) (T := TX5) (N := 9) (k := 4) rfl in_wsX50 (by decide) gw_29 rfl d he hv kk
theorem pf_X5_38 (K : KX p m c cc nL s args cw RX5 D cA) {r a : Nat} {fs : List Value} {x : Nat} (hin : meth.name = "<init>") (d : decode cc pc = .ok (.putfield 38, 3)) (he : pic r = some (a, .inr (8, fs))) (hl9 : 4 < fs.length) (kk : ∀ pic1 : PIC, pic1 r = some (a, .inr (8, fs.set 4 (.ref x))) → (∀ q, q ≠ r → pic1 q = pic q) → V p l e R s m args below meth c Q D base nL pic1 lv (pc + 3) (st) cells slots) : V p l e R s m args below meth c Q D base nL pic lv (pc) (.ref x :: .ref a :: st) cells slots := v_putF K (C := RX5) (T := TX5) (N := 9) (k := 4) (ty := .array (.object "EventRows$Subscriber")) tyX5 tyX5_ok nmX5 rfl in_wsX50 (by decide) gw_29 rfl rfl hin rfl (by decide +kernel) d he rfl rfl hl9 kk
theorem gf_X5_43 (K : KX p m c cc nL s args cw RX5 D cA) {r a : Nat} {fs : List Value} {v : Value} (d : decode cc pc = .ok (.getfield 43, 3)) (he : pic r = some (a, .inr (8, fs))) (hv : fs[5]? = some v) (kk : V p l e R s m args below meth c Q D base nL pic lv (pc + 3) (v :: st) cells slots) : V p l e R s m args below meth c Q D base nL pic lv (pc) (.ref a :: st) cells slots := v_get K (C := RX5) (T := TX5) (N := 9) (k := 5) rfl in_wsX50 (by decide) gw_32 rfl d he hv kk
theorem pf_X5_43 (K : KX p m c cc nL s args cw RX5 D cA) {r a : Nat} {fs : List Value} {x : Nat} (d : decode cc pc = .ok (.putfield 43, 3)) (he : pic r = some (a, .inr (8, fs))) (hl9 : 5 < fs.length) (kk : ∀ pic1 : PIC, pic1 r = some (a, .inr (8, fs.set 5 (.ref x))) → (∀ q, q ≠ r → pic1 q = pic q) → V p l e R s m args below meth c Q D base nL pic1 lv (pc + 3) (st) cells slots) : V p l e R s m args below meth c Q D base nL pic lv (pc) (.ref x :: .ref a :: st) cells slots := v_put K (C := RX5) (T := TX5) (N := 9) (k := 5) (ty := .object "EventRows$Block") tyX5 tyX5_ok nmX5 rfl in_wsX50 (by decide) gw_32 rfl rfl (by decide +kernel) d he rfl rfl hl9 kk
theorem gf_X1_9 (K : KX p m c cc nL s args cw RX1 D cA) {r a : Nat} {fs : List Value} {v : Value} (d : decode cc pc = .ok (.getfield 9, 3)) (he : pic r = some (a, .inr (4, fs))) (hv : fs[0]? = some v) (kk : V p l e R s m args below meth c Q D base nL pic lv (pc + 3) (v :: st) cells slots) : V p l e R s m args below meth c Q D base nL pic lv (pc) (.ref a :: st) cells slots := v_get K (C := RX1) (T := TX1) (N := 5) (k := 0) rfl in_wsX10 (by decide) gw_37 rfl d he hv kk
theorem pf_X1_9 (K : KX p m c cc nL s args cw RX1 D cA) {r a : Nat} {fs : List Value} {x : Nat} (hin : meth.name = "<init>") (d : decode cc pc = .ok (.putfield 9, 3)) (he : pic r = some (a, .inr (4, fs))) (hl9 : 0 < fs.length) (kk : ∀ pic1 : PIC, pic1 r = some (a, .inr (4, fs.set 0 (.ref x))) → (∀ q, q ≠ r → pic1 q = pic q) → V p l e R s m args below meth c Q D base nL pic1 lv (pc + 3) (st) cells slots) : V p l e R s m args below meth c Q D base nL pic lv (pc) (.ref x :: .ref a :: st) cells slots := v_putF K (C := RX1) (T := TX1) (N := 5) (k := 0) (ty := .array .int) tyX1 tyX1_ok nmX1 rfl in_wsX10 (by decide) gw_37 rfl rfl hin rfl (by decide +kernel) d he rfl rfl hl9 kk
theorem gf_X1_15 (K : KX p m c cc nL s args cw RX1 D cA) {r a : Nat} {fs : List Value} {v : Value} (d : decode cc pc = .ok (.getfield 15, 3)) (he : pic r = some (a, .inr (4, fs))) (hv : fs[1]? = some v) (kk : V p l e R s m args below meth c Q D base nL pic lv (pc + 3) (v :: st) cells slots) : V p l e R s m args below meth c Q D base nL pic lv (pc) (.ref a :: st) cells slots := v_get K (C := RX1) (T := TX1) (N := 5) (k := 1) rfl in_wsX10 (by decide) gw_38 rfl d he hv kk
theorem pf_X1_15 (K : KX p m c cc nL s args cw RX1 D cA) {r a : Nat} {fs : List Value} {x : Nat} (hin : meth.name = "<init>") (d : decode cc pc = .ok (.putfield 15, 3)) (he : pic r = some (a, .inr (4, fs))) (hl9 : 1 < fs.length) (kk : ∀ pic1 : PIC, pic1 r = some (a, .inr (4, fs.set 1 (.ref x))) → (∀ q, q ≠ r → pic1 q = pic q) → V p l e R s m args below meth c Q D base nL pic1 lv (pc + 3) (st) cells slots) : V p l e R s m args below meth c Q D base nL pic lv (pc) (.ref x :: .ref a :: st) cells slots := v_putF K (C := RX1) (T := TX1) (N := 5) (k := 1) (ty := .array .int) tyX1 tyX1_ok nmX1 rfl in_wsX10 (by decide) gw_38 rfl rfl hin rfl (by decide +kernel) d he rfl rfl hl9 kk
theorem gf_X1_18 (K : KX p m c cc nL s args cw RX1 D cA) {r a : Nat} {fs : List Value} {v : Value} (d : decode cc pc = .ok (.getfield 18, 3)) (he : pic r = some (a, .inr (4, fs))) (hv : fs[2]? = some v) (kk : V p l e R s m args below meth c Q D base nL pic lv (pc + 3) (v :: st) cells slots) : V p l e R s m args below meth c Q D base nL pic lv (pc) (.ref a :: st) cells slots := v_get K (C := RX1) (T := TX1) (N := 5) (k := 2) rfl in_wsX10 (by decide) gw_39 rfl d he hv kk
theorem pf_X1_18 (K : KX p m c cc nL s args cw RX1 D cA) {r a : Nat} {fs : List Value} {x : Nat} (hin : meth.name = "<init>") (d : decode cc pc = .ok (.putfield 18, 3)) (he : pic r = some (a, .inr (4, fs))) (hl9 : 2 < fs.length) (kk : ∀ pic1 : PIC, pic1 r = some (a, .inr (4, fs.set 2 (.ref x))) → (∀ q, q ≠ r → pic1 q = pic q) → V p l e R s m args below meth c Q D base nL pic1 lv (pc + 3) (st) cells slots) : V p l e R s m args below meth c Q D base nL pic lv (pc) (.ref x :: .ref a :: st) cells slots := v_putF K (C := RX1) (T := TX1) (N := 5) (k := 2) (ty := .array .int) tyX1 tyX1_ok nmX1 rfl in_wsX10 (by decide) gw_39 rfl rfl hin rfl (by decide +kernel) d he rfl rfl hl9 kk
theorem gf_X1_21 (K : KX p m c cc nL s args cw RX1 D cA) {r a : Nat} {fs : List Value} {v : Value} (d : decode cc pc = .ok (.getfield 21, 3)) (he : pic r = some (a, .inr (4, fs))) (hv : fs[3]? = some v) (kk : V p l e R s m args below meth c Q D base nL pic lv (pc + 3) (v :: st) cells slots) : V p l e R s m args below meth c Q D base nL pic lv (pc) (.ref a :: st) cells slots := v_get K (C := RX1) (T := TX1) (N := 5) (k := 3) rfl in_wsX10 (by decide) gw_41 rfl d he hv kk
theorem pf_X1_21 (K : KX p m c cc nL s args cw RX1 D cA) {r a : Nat} {fs : List Value} {x : Nat} (hin : meth.name = "<init>") (d : decode cc pc = .ok (.putfield 21, 3)) (he : pic r = some (a, .inr (4, fs))) (hl9 : 3 < fs.length) (kk : ∀ pic1 : PIC, pic1 r = some (a, .inr (4, fs.set 3 (.ref x))) → (∀ q, q ≠ r → pic1 q = pic q) → V p l e R s m args below meth c Q D base nL pic1 lv (pc + 3) (st) cells slots) : V p l e R s m args below meth c Q D base nL pic lv (pc) (.ref x :: .ref a :: st) cells slots := v_putF K (C := RX1) (T := TX1) (N := 5) (k := 3) (ty := .array .boolean) tyX1 tyX1_ok nmX1 rfl in_wsX10 (by decide) gw_41 rfl rfl hin rfl (by decide +kernel) d he rfl rfl hl9 kk
theorem gf_X4_9 (K : KX p m c cc nL s args cw RX4 D cA) {r a : Nat} {fs : List Value} {v : Value} (d : decode cc pc = .ok (.getfield 9, 3)) (he : pic r = some (a, .inr (7, fs))) (hv : fs[0]? = some v) (kk : V p l e R s m args below meth c Q D base nL pic lv (pc + 3) (v :: st) cells slots) : V p l e R s m args below meth c Q D base nL pic lv (pc) (.ref a :: st) cells slots := v_get K (C := RX4) (T := TX4) (N := 2) (k := 0) rfl in_wsX40 (by decide) gw_45 rfl d he hv kk
theorem pf_X4_9 (K : KX p m c cc nL s args cw RX4 D cA) {r a : Nat} {fs : List Value} {x : Nat} (hin : meth.name = "<init>") (d : decode cc pc = .ok (.putfield 9, 3)) (he : pic r = some (a, .inr (7, fs))) (hl9 : 0 < fs.length) (kk : ∀ pic1 : PIC, pic1 r = some (a, .inr (7, fs.set 0 (.ref x))) → (∀ q, q ≠ r → pic1 q = pic q) → V p l e R s m args below meth c Q D base nL pic1 lv (pc + 3) (st) cells slots) : V p l e R s m args below meth c Q D base nL pic lv (pc) (.ref x :: .ref a :: st) cells slots := v_putF K (C := RX4) (T := TX4) (N := 2) (k := 0) (ty := .array .long) tyX4 tyX4_ok nmX4 rfl in_wsX40 (by decide) gw_45 rfl rfl hin rfl (by decide +kernel) d he rfl rfl hl9 kk
theorem gf_X2_9 (K : KX p m c cc nL s args cw RX2 D cA) {r a : Nat} {fs : List Value} {v : Value} (d : decode cc pc = .ok (.getfield 9, 3)) (he : pic r = some (a, .inr (5, fs))) (hv : fs[0]? = some v) (kk : V p l e R s m args below meth c Q D base nL pic lv (pc + 3) (v :: st) cells slots) : V p l e R s m args below meth c Q D base nL pic lv (pc) (.ref a :: st) cells slots := v_get K (C := RX2) (T := TX2) (N := 2) (k := 0) rfl in_wsX20 (by decide) gw_49 rfl d he hv kk
theorem pf_X2_9 (K : KX p m c cc nL s args cw RX2 D cA) {r a : Nat} {fs : List Value} {x : Nat} (hin : meth.name = "<init>") (d : decode cc pc = .ok (.putfield 9, 3)) (he : pic r = some (a, .inr (5, fs))) (hl9 : 0 < fs.length) (kk : ∀ pic1 : PIC, pic1 r = some (a, .inr (5, fs.set 0 (.ref x))) → (∀ q, q ≠ r → pic1 q = pic q) → V p l e R s m args below meth c Q D base nL pic1 lv (pc + 3) (st) cells slots) : V p l e R s m args below meth c Q D base nL pic lv (pc) (.ref x :: .ref a :: st) cells slots := v_putF K (C := RX2) (T := TX2) (N := 2) (k := 0) (ty := .array .long) tyX2 tyX2_ok nmX2 rfl in_wsX20 (by decide) gw_49 rfl rfl hin rfl (by decide +kernel) d he rfl rfl hl9 kk
theorem gf_X0_9 (K : KX p m c cc nL s args cw RX0 D cA) {r a : Nat} {fs : List Value} {v : Value} (d : decode cc pc = .ok (.getfield 9, 3)) (he : pic r = some (a, .inr (3, fs))) (hv : fs[0]? = some v) (kk : V p l e R s m args below meth c Q D base nL pic lv (pc + 3) (v :: st) cells slots) : V p l e R s m args below meth c Q D base nL pic lv (pc) (.ref a :: st) cells slots := v_get K (C := RX0) (T := TX0) (N := 10) (k := 0) rfl in_wsX00 (by decide) gw_53 rfl d he hv kk
theorem pf_X0_9 (K : KX p m c cc nL s args cw RX0 D cA) {r a : Nat} {fs : List Value} {x : Nat} (hin : meth.name = "<init>") (d : decode cc pc = .ok (.putfield 9, 3)) (he : pic r = some (a, .inr (3, fs))) (hl9 : 0 < fs.length) (kk : ∀ pic1 : PIC, pic1 r = some (a, .inr (3, fs.set 0 (.ref x))) → (∀ q, q ≠ r → pic1 q = pic q) → V p l e R s m args below meth c Q D base nL pic1 lv (pc + 3) (st) cells slots) : V p l e R s m args below meth c Q D base nL pic lv (pc) (.ref x :: .ref a :: st) cells slots := v_putF K (C := RX0) (T := TX0) (N := 10) (k := 0) (ty := .array .int) tyX0 tyX0_ok nmX0 rfl in_wsX00 (by decide) gw_53 rfl rfl hin rfl (by decide +kernel) d he rfl rfl hl9 kk
theorem gf_X0_15 (K : KX p m c cc nL s args cw RX0 D cA) {r a : Nat} {fs : List Value} {v : Value} (d : decode cc pc = .ok (.getfield 15, 3)) (he : pic r = some (a, .inr (3, fs))) (hv : fs[1]? = some v) (kk : V p l e R s m args below meth c Q D base nL pic lv (pc + 3) (v :: st) cells slots) : V p l e R s m args below meth c Q D base nL pic lv (pc) (.ref a :: st) cells slots := v_get K (C := RX0) (T := TX0) (N := 10) (k := 1) rfl in_wsX00 (by decide) gw_54 rfl d he hv kk
theorem pf_X0_15 (K : KX p m c cc nL s args cw RX0 D cA) {r a : Nat} {fs : List Value} {x : Nat} (hin : meth.name = "<init>") (d : decode cc pc = .ok (.putfield 15, 3)) (he : pic r = some (a, .inr (3, fs))) (hl9 : 1 < fs.length) (kk : ∀ pic1 : PIC, pic1 r = some (a, .inr (3, fs.set 1 (.ref x))) → (∀ q, q ≠ r → pic1 q = pic q) → V p l e R s m args below meth c Q D base nL pic1 lv (pc + 3) (st) cells slots) : V p l e R s m args below meth c Q D base nL pic lv (pc) (.ref x :: .ref a :: st) cells slots := v_putF K (C := RX0) (T := TX0) (N := 10) (k := 1) (ty := .array .int) tyX0 tyX0_ok nmX0 rfl in_wsX00 (by decide) gw_54 rfl rfl hin rfl (by decide +kernel) d he rfl rfl hl9 kk
theorem gf_X0_18 (K : KX p m c cc nL s args cw RX0 D cA) {r a : Nat} {fs : List Value} {v : Value} (d : decode cc pc = .ok (.getfield 18, 3)) (he : pic r = some (a, .inr (3, fs))) (hv : fs[2]? = some v) (kk : V p l e R s m args below meth c Q D base nL pic lv (pc + 3) (v :: st) cells slots) : V p l e R s m args below meth c Q D base nL pic lv (pc) (.ref a :: st) cells slots := v_get K (C := RX0) (T := TX0) (N := 10) (k := 2) rfl in_wsX00 (by decide) gw_55 rfl d he hv kk
theorem pf_X0_18 (K : KX p m c cc nL s args cw RX0 D cA) {r a : Nat} {fs : List Value} {x : Nat} (hin : meth.name = "<init>") (d : decode cc pc = .ok (.putfield 18, 3)) (he : pic r = some (a, .inr (3, fs))) (hl9 : 2 < fs.length) (kk : ∀ pic1 : PIC, pic1 r = some (a, .inr (3, fs.set 2 (.ref x))) → (∀ q, q ≠ r → pic1 q = pic q) → V p l e R s m args below meth c Q D base nL pic1 lv (pc + 3) (st) cells slots) : V p l e R s m args below meth c Q D base nL pic lv (pc) (.ref x :: .ref a :: st) cells slots := v_putF K (C := RX0) (T := TX0) (N := 10) (k := 2) (ty := .array .int) tyX0 tyX0_ok nmX0 rfl in_wsX00 (by decide) gw_55 rfl rfl hin rfl (by decide +kernel) d he rfl rfl hl9 kk
theorem gf_X0_21 (K : KX p m c cc nL s args cw RX0 D cA) {r a : Nat} {fs : List Value} {v : Value} (d : decode cc pc = .ok (.getfield 21, 3)) (he : pic r = some (a, .inr (3, fs))) (hv : fs[3]? = some v) (kk : V p l e R s m args below meth c Q D base nL pic lv (pc + 3) (v :: st) cells slots) : V p l e R s m args below meth c Q D base nL pic lv (pc) (.ref a :: st) cells slots := v_get K (C := RX0) (T := TX0) (N := 10) (k := 3) rfl in_wsX00 (by decide) gw_56 rfl d he hv kk
theorem pf_X0_21 (K : KX p m c cc nL s args cw RX0 D cA) {r a : Nat} {fs : List Value} {x : Nat} (hin : meth.name = "<init>") (d : decode cc pc = .ok (.putfield 21, 3)) (he : pic r = some (a, .inr (3, fs))) (hl9 : 3 < fs.length) (kk : ∀ pic1 : PIC, pic1 r = some (a, .inr (3, fs.set 3 (.ref x))) → (∀ q, q ≠ r → pic1 q = pic q) → V p l e R s m args below meth c Q D base nL pic1 lv (pc + 3) (st) cells slots) : V p l e R s m args below meth c Q D base nL pic lv (pc) (.ref x :: .ref a :: st) cells slots := v_putF K (C := RX0) (T := TX0) (N := 10) (k := 3) (ty := .array .int) tyX0 tyX0_ok nmX0 rfl in_wsX00 (by decide) gw_56 rfl rfl hin rfl (by decide +kernel) d he rfl rfl hl9 kk
theorem gf_X0_24 (K : KX p m c cc nL s args cw RX0 D cA) {r a : Nat} {fs : List Value} {v : Value} (d : decode cc pc = .ok (.getfield 24, 3)) (he : pic r = some (a, .inr (3, fs))) (hv : fs[4]? = some v) (kk : V p l e R s m args below meth c Q D base nL pic lv (pc + 3) (v :: st) cells slots) : V p l e R s m args below meth c Q D base nL pic lv (pc) (.ref a :: st) cells slots := v_get K (C := RX0) (T := TX0) (N := 10) (k := 4) rfl in_wsX00 (by decide) gw_57 rfl d he hv kk
theorem pf_X0_24 (K : KX p m c cc nL s args cw RX0 D cA) {r a : Nat} {fs : List Value} {x : Nat} (hin : meth.name = "<init>") (d : decode cc pc = .ok (.putfield 24, 3)) (he : pic r = some (a, .inr (3, fs))) (hl9 : 4 < fs.length) (kk : ∀ pic1 : PIC, pic1 r = some (a, .inr (3, fs.set 4 (.ref x))) → (∀ q, q ≠ r → pic1 q = pic q) → V p l e R s m args below meth c Q D base nL pic1 lv (pc + 3) (st) cells slots) : V p l e R s m args below meth c Q D base nL pic lv (pc) (.ref x :: .ref a :: st) cells slots := v_putF K (C := RX0) (T := TX0) (N := 10) (k := 4) (ty := .array .long) tyX0 tyX0_ok nmX0 rfl in_wsX00 (by decide) gw_57 rfl rfl hin rfl (by decide +kernel) d he rfl rfl hl9 kk
theorem gf_X0_28 (K : KX p m c cc nL s args cw RX0 D cA) {r a : Nat} {fs : List Value} {v : Value} (d : decode cc pc = .ok (.getfield 28, 3)) (he : pic r = some (a, .inr (3, fs))) (hv : fs[6]? = some v) (kk : V p l e R s m args below meth c Q D base nL pic lv (pc + 3) (v :: st) cells slots) : V p l e R s m args below meth c Q D base nL pic lv (pc) (.ref a :: st) cells slots := v_get K (C := RX0) (T := TX0) (N := 10) (k := 6) rfl in_wsX00 (by decide) gw_58 rfl d he hv kk
theorem pf_X0_28 (K : KX p m c cc nL s args cw RX0 D cA) {r a : Nat} {fs : List Value} {x : Int32} (d : decode cc pc = .ok (.putfield 28, 3)) (he : pic r = some (a, .inr (3, fs))) (hz : isB x) (hl9 : 6 < fs.length) (kk : ∀ pic1 : PIC, pic1 r = some (a, .inr (3, fs.set 6 (.int x))) → (∀ q, q ≠ r → pic1 q = pic q) → V p l e R s m args below meth c Q D base nL pic1 lv (pc + 3) (st) cells slots) : V p l e R s m args below meth c Q D base nL pic lv (pc) (.int x :: .ref a :: st) cells slots := v_put K (C := RX0) (T := TX0) (N := 10) (k := 6) (ty := .boolean) tyX0 tyX0_ok nmX0 rfl in_wsX00 (by decide) gw_58 rfl rfl (by decide +kernel) d he (narB hz) (fitB hz) hl9 kk
theorem gf_X6_7 (K : KX p m c cc nL s args cw RX6 D cA) {r a : Nat} {fs : List Value} {v : Value} (d : decode cc pc = .ok (.getfield 7, 3)) (he : pic r = some (a, .inr (9, fs))) (hv : fs[1]? = some v) (kk : V p l e R s m args below meth c Q D base nL pic lv (pc + 3) (v :: st) cells slots) : V p l e R s m args below meth c Q D base nL pic lv (pc) (.ref a :: st) cells slots := v_get K (C := RX6) (T := TX6) (N := 24) (k := 1) rfl in_wsX60 (by decide) gw_63 rfl d he hv kk
theorem pf_X6_7 (K : KX p m c cc nL s args cw RX6 D cA) {r a : Nat} {fs : List Value} {x : Nat} (hin : meth.name = "<init>") (d : decode cc pc = .ok (.putfield 7, 3)) (he : pic r = some (a, .inr (9, fs))) (hl9 : 1 < fs.length) (kk : ∀ pic1 : PIC, pic1 r = some (a, .inr (9, fs.set 1 (.ref x))) → (∀ q, q ≠ r → pic1 q = pic q) → V p l e R s m args below meth c Q D base nL pic1 lv (pc + 3) (st) cells slots) : V p l e R s m args below meth c Q D base nL pic lv (pc) (.ref x :: .ref a :: st) cells slots := v_putF K (C := RX6) (T := TX6) (N := 24) (k := 1) (ty := .array .int) tyX6 tyX6_ok nmX6 rfl in_wsX60 (by decide) gw_63 rfl rfl hin rfl (by decide +kernel) d he rfl rfl hl9 kk
theorem gf_X6_13 (K : KX p m c cc nL s args cw RX6 D cA) {r a : Nat} {fs : List Value} {v : Value} (d : decode cc pc = .ok (.getfield 13, 3)) (he : pic r = some (a, .inr (9, fs))) (hv : fs[2]? = some v) (kk : V p l e R s m args below meth c Q D base nL pic lv (pc + 3) (v :: st) cells slots) : V p l e R s m args below meth c Q D base nL pic lv (pc) (.ref a :: st) cells slots := v_get K (C := RX6) (T := TX6) (N := 24) (k := 2) rfl in_wsX60 (by decide) gw_64 rfl d he hv kk
theorem pf_X6_13 (K : KX p m c cc nL s args cw RX6 D cA) {r a : Nat} {fs : List Value} {x : Nat} (hin : meth.name = "<init>") (d : decode cc pc = .ok (.putfield 13, 3)) (he : pic r = some (a, .inr (9, fs))) (hl9 : 2 < fs.length) (kk : ∀ pic1 : PIC, pic1 r = some (a, .inr (9, fs.set 2 (.ref x))) → (∀ q, q ≠ r → pic1 q = pic q) → V p l e R s m args below meth c Q D base nL pic1 lv (pc + 3) (st) cells slots) : V p l e R s m args below meth c Q D base nL pic lv (pc) (.ref x :: .ref a :: st) cells slots := v_putF K (C := RX6) (T := TX6) (N := 24) (k := 2) (ty := .array .int) tyX6 tyX6_ok nmX6 rfl in_wsX60 (by decide) gw_64 rfl rfl hin rfl (by decide +kernel) d he rfl rfl hl9 kk
theorem gf_X6_16 (K : KX p m c cc nL s args cw RX6 D cA) {r a : Nat} {fs : List Value} {v : Value} (d : decode cc pc = .ok (.getfield 16, 3)) (he : pic r = some (a, .inr (9, fs))) (hv : fs[3]? = some v) (kk : V p l e R s m args below meth c Q D base nL pic lv (pc + 3) (v :: st) cells slots) : V p l e R s m args below meth c Q D base nL pic lv (pc) (.ref a :: st) cells slots := v_get K (C := RX6) (T := TX6) (N := 24) (k := 3) rfl in_wsX60 (by decide) gw_65 rfl d he hv kk
theorem pf_X6_16 (K : KX p m c cc nL s args cw RX6 D cA) {r a : Nat} {fs : List Value} {x : Nat} (hin : meth.name = "<init>") (d : decode cc pc = .ok (.putfield 16, 3)) (he : pic r = some (a, .inr (9, fs))) (hl9 : 3 < fs.length) (kk : ∀ pic1 : PIC, pic1 r = some (a, .inr (9, fs.set 3 (.ref x))) → (∀ q, q ≠ r → pic1 q = pic q) → V p l e R s m args below meth c Q D base nL pic1 lv (pc + 3) (st) cells slots) : V p l e R s m args below meth c Q D base nL pic lv (pc) (.ref x :: .ref a :: st) cells slots := v_putF K (C := RX6) (T := TX6) (N := 24) (k := 3) (ty := .array .long) tyX6 tyX6_ok nmX6 rfl in_wsX60 (by decide) gw_65 rfl rfl hin rfl (by decide +kernel) d he rfl rfl hl9 kk
theorem gf_X6_20 (K : KX p m c cc nL s args cw RX6 D cA) {r a : Nat} {fs : List Value} {v : Value} (d : decode cc pc = .ok (.getfield 20, 3)) (he : pic r = some (a, .inr (9, fs))) (hv : fs[4]? = some v) (kk : V p l e R s m args below meth c Q D base nL pic lv (pc + 3) (v :: st) cells slots) : V p l e R s m args below meth c Q D base nL pic lv (pc) (.ref a :: st) cells slots := v_get K (C := RX6) (T := TX6) (N := 24) (k := 4) rfl in_wsX60 (by decide) gw_66 rfl d he hv kk
theorem pf_X6_20 (K : KX p m c cc nL s args cw RX6 D cA) {r a : Nat} {fs : List Value} {x : Nat} (hin : meth.name = "<init>") (d : decode cc pc = .ok (.putfield 20, 3)) (he : pic r = some (a, .inr (9, fs))) (hl9 : 4 < fs.length) (kk : ∀ pic1 : PIC, pic1 r = some (a, .inr (9, fs.set 4 (.ref x))) → (∀ q, q ≠ r → pic1 q = pic q) → V p l e R s m args below meth c Q D base nL pic1 lv (pc + 3) (st) cells slots) : V p l e R s m args below meth c Q D base nL pic lv (pc) (.ref x :: .ref a :: st) cells slots := v_putF K (C := RX6) (T := TX6) (N := 24) (k := 4) (ty := .array .int) tyX6 tyX6_ok nmX6 rfl in_wsX60 (by decide) gw_66 rfl rfl hin rfl (by decide +kernel) d he rfl rfl hl9 kk
theorem gf_X6_23 (K : KX p m c cc nL s args cw RX6 D cA) {r a : Nat} {fs : List Value} {v : Value} (d : decode cc pc = .ok (.getfield 23, 3)) (he : pic r = some (a, .inr (9, fs))) (hv : fs[5]? = some v) (kk : V p l e R s m args below meth c Q D base nL pic lv (pc + 3) (v :: st) cells slots) : V p l e R s m args below meth c Q D base nL pic lv (pc) (.ref a :: st) cells slots := v_get K (C := RX6) (T := TX6) (N := 24) (k := 5) rfl in_wsX60 (by decide) gw_67 rfl d he hv kk
theorem pf_X6_23 (K : KX p m c cc nL s args cw RX6 D cA) {r a : Nat} {fs : List Value} {x : Nat} (hin : meth.name = "<init>") (d : decode cc pc = .ok (.putfield 23, 3)) (he : pic r = some (a, .inr (9, fs))) (hl9 : 5 < fs.length) (kk : ∀ pic1 : PIC, pic1 r = some (a, .inr (9, fs.set 5 (.ref x))) → (∀ q, q ≠ r → pic1 q = pic q) → V p l e R s m args below meth c Q D base nL pic1 lv (pc + 3) (st) cells slots) : V p l e R s m args below meth c Q D base nL pic lv (pc) (.ref x :: .ref a :: st) cells slots := v_putF K (C := RX6) (T := TX6) (N := 24) (k := 5) (ty := .array .int) tyX6 tyX6_ok nmX6 rfl in_wsX60 (by decide) gw_67 rfl rfl hin rfl (by decide +kernel) d he rfl rfl hl9 kk
theorem gf_X6_26 (K : KX p m c cc nL s args cw RX6 D cA) {r a : Nat} {fs : List Value} {v : Value} (d : decode cc pc = .ok (.getfield 26, 3)) (he : pic r = some (a, .inr (9, fs))) (hv : fs[6]? = some v) (kk : V p l e R s m args below meth c Q D base nL pic lv (pc + 3) (v :: st) cells slots) : V p l e R s m args below meth c Q D base nL pic lv (pc) (.ref a :: st) cells slots := v_get K (C := RX6) (T := TX6) (N := 24) (k := 6) rfl in_wsX60 (by decide) gw_68 rfl d he hv kk
theorem pf_X6_26 (K : KX p m c cc nL s args cw RX6 D cA) {r a : Nat} {fs : List Value} {x : Nat} (hin : meth.name = "<init>") (d : decode cc pc = .ok (.putfield 26, 3)) (he : pic r = some (a, .inr (9, fs))) (hl9 : 6 < fs.length) (kk : ∀ pic1 : PIC, pic1 r = some (a, .inr (9, fs.set 6 (.ref x))) → (∀ q, q ≠ r → pic1 q = pic q) → V p l e R s m args below meth c Q D base nL pic1 lv (pc + 3) (st) cells slots) : V p l e R s m args below meth c Q D base nL pic lv (pc) (.ref x :: .ref a :: st) cells slots := v_putF K (C := RX6) (T := TX6) (N := 24) (k := 6) (ty := .array .boolean) tyX6 tyX6_ok nmX6 rfl in_wsX60 (by decide) gw_68 rfl rfl hin rfl (by decide +kernel) d he rfl rfl hl9 kk
theorem gf_X6_30 (K : KX p m c cc nL s args cw RX6 D cA) {r a : Nat} {fs : List Value} {v : Value} (d : decode cc pc = .ok (.getfield 30, 3)) (he : pic r = some (a, .inr (9, fs))) (hv : fs[7]? = some v) (kk : V p l e R s m args below meth c Q D base nL pic lv (pc + 3) (v :: st) cells slots) : V p l e R s m args below meth c Q D base nL pic lv (pc) (.ref a :: st) cells slots := v_get K (C := RX6) (T := TX6) (N := 24) (k := 7) rfl in_wsX60 (by decide) gw_69 rfl d he hv kk
theorem pf_X6_30 (K : KX p m c cc nL s args cw RX6 D cA) {r a : Nat} {fs : List Value} {x : Nat} (hin : meth.name = "<init>") (d : decode cc pc = .ok (.putfield 30, 3)) (he : pic r = some (a, .inr (9, fs))) (hl9 : 7 < fs.length) (kk : ∀ pic1 : PIC, pic1 r = some (a, .inr (9, fs.set 7 (.ref x))) → (∀ q, q ≠ r → pic1 q = pic q) → V p l e R s m args below meth c Q D base nL pic1 lv (pc + 3) (st) cells slots) : V p l e R s m args below meth c Q D base nL pic lv (pc) (.ref x :: .ref a :: st) cells slots := v_putF K (C := RX6) (T := TX6) (N := 24) (k := 7) (ty := .array .long) tyX6 tyX6_ok nmX6 rfl in_wsX60 (by decide) gw_69 rfl rfl hin rfl (by decide +kernel) d he rfl rfl hl9 kk
theorem gf_X6_33 (K : KX p m c cc nL s args cw RX6 D cA) {r a : Nat} {fs : List Value} {v : Value} (d : decode cc pc = .ok (.getfield 33, 3)) (he : pic r = some (a, .inr (9, fs))) (hv : fs[8]? = some v) (kk : V p l e R s m args below meth c Q D base nL pic lv (pc + 3) (v :: st) cells slots) : V p l e R s m args below meth c Q D base nL pic lv (pc) (.ref a :: st) cells slots := v_get K (C := RX6) (T := TX6) (N := 24) (k := 8) rfl in_wsX60 (by decide) gw_70 rfl d he hv kk
theorem pf_X6_33 (K : KX p m c cc nL s args cw RX6 D cA) {r a : Nat} {fs : List Value} {x : Nat} (hin : meth.name = "<init>") (d : decode cc pc = .ok (.putfield 33, 3)) (he : pic r = some (a, .inr (9, fs))) (hl9 : 8 < fs.length) (kk : ∀ pic1 : PIC, pic1 r = some (a, .inr (9, fs.set 8 (.ref x))) → (∀ q, q ≠ r → pic1 q = pic q) → V p l e R s m args below meth c Q D base nL pic1 lv (pc + 3) (st) cells slots) : V p l e R s m args below meth c Q D base nL pic lv (pc) (.ref x :: .ref a :: st) cells slots := v_putF K (C := RX6) (T := TX6) (N := 24) (k := 8) (ty := .array .long) tyX6 tyX6_ok nmX6 rfl in_wsX60 (by decide) gw_70 rfl rfl hin rfl (by decide +kernel) d he rfl rfl hl9 kk
theorem gf_X6_36 (K : KX p m c cc nL s args cw RX6 D cA) {r a : Nat} {fs : List Value} {v : Value} (d : decode cc pc = .ok (.getfield 36, 3)) (he : pic r = some (a, .inr (9, fs))) (hv : fs[13]? = some v) (kk : V p l e R s m args below meth c Q D base nL pic lv (pc + 3) (v :: st) cells slots) : V p l e R s m args below meth c Q D base nL pic lv (pc) (.ref a :: st) cells slots := v_get K (C := RX6) (T := TX6) (N := 24) (k := 13) rfl in_wsX60 (by decide) gw_71 rfl d he hv kk
theorem pf_X6_36 (K : KX p m c cc nL s args cw RX6 D cA) {r a : Nat} {fs : List Value} {x : Nat} (hin : meth.name = "<init>") (d : decode cc pc = .ok (.putfield 36, 3)) (he : pic r = some (a, .inr (9, fs))) (hl9 : 13 < fs.length) (kk : ∀ pic1 : PIC, pic1 r = some (a, .inr (9, fs.set 13 (.ref x))) → (∀ q, q ≠ r → pic1 q = pic q) → V p l e R s m args below meth c Q D base nL pic1 lv (pc + 3) (st) cells slots) : V p l e R s m args below meth c Q D base nL pic lv (pc) (.ref x :: .ref a :: st) cells slots := v_putF K (C := RX6) (T := TX6) (N := 24) (k := 13) (ty := .array .int) tyX6 tyX6_ok nmX6 rfl in_wsX60 (by decide) gw_71 rfl rfl hin rfl (by decide +kernel) d he rfl rfl hl9 kk
theorem gf_X6_39 (K : KX p m c cc nL s args cw RX6 D cA) {r a : Nat} {fs : List Value} {v : Value} (d : decode cc pc = .ok (.getfield 39, 3)) (he : pic r = some (a, .inr (9, fs))) (hv : fs[14]? = some v) (kk : V p l e R s m args below meth c Q D base nL pic lv (pc + 3) (v :: st) cells slots) : V p l e R s m args below meth c Q D base nL pic lv (pc) (.ref a :: st) cells slots := v_get K (C := RX6) (T := TX6) (N := 24) (k := 14) rfl in_wsX60 (by decide) gw_72 rfl d he hv kk
theorem pf_X6_39 (K : KX p m c cc nL s args cw RX6 D cA) {r a : Nat} {fs : List Value} {x : Nat} (hin : meth.name = "<init>") (d : decode cc pc = .ok (.putfield 39, 3)) (he : pic r = some (a, .inr (9, fs))) (hl9 : 14 < fs.length) (kk : ∀ pic1 : PIC, pic1 r = some (a, .inr (9, fs.set 14 (.ref x))) → (∀ q, q ≠ r → pic1 q = pic q) → V p l e R s m args below meth c Q D base nL pic1 lv (pc + 3) (st) cells slots) : V p l e R s m args below meth c Q D base nL pic lv (pc) (.ref x :: .ref a :: st) cells slots := v_putF K (C := RX6) (T := TX6) (N := 24) (k := 14) (ty := .array .int) tyX6 tyX6_ok nmX6 rfl in_wsX60 (by decide) gw_72 rfl rfl hin rfl (by decide +kernel) d he rfl rfl hl9 kk
theorem gf_X6_42 (K : KX p m c cc nL s args cw RX6 D cA) {r a : Nat} {fs : List Value} {v : Value} (d : decode cc pc = .ok (.getfield 42, 3)) (he : pic r = some (a, .inr (9, fs))) (hv : fs[15]? = some v) (kk : V p l e R s m args below meth c Q D base nL pic lv (pc + 3) (v :: st) cells slots) : V p l e R s m args below meth c Q D base nL pic lv (pc) (.ref a :: st) cells slots := v_get K (C := RX6) (T := TX6) (N := 24) (k := 15) rfl in_wsX60 (by decide) gw_73 rfl d he hv kk
theorem pf_X6_42 (K : KX p m c cc nL s args cw RX6 D cA) {r a : Nat} {fs : List Value} {x : Nat} (hin : meth.name = "<init>") (d : decode cc pc = .ok (.putfield 42, 3)) (he : pic r = some (a, .inr (9, fs))) (hl9 : 15 < fs.length) (kk : ∀ pic1 : PIC, pic1 r = some (a, .inr (9, fs.set 15 (.ref x))) → (∀ q, q ≠ r → pic1 q = pic q) → V p l e R s m args below meth c Q D base nL pic1 lv (pc + 3) (st) cells slots) : V p l e R s m args below meth c Q D base nL pic lv (pc) (.ref x :: .ref a :: st) cells slots := v_putF K (C := RX6) (T := TX6) (N := 24) (k := 15) (ty := .array .boolean) tyX6 tyX6_ok nmX6 rfl in_wsX60 (by decide) gw_73 rfl rfl hin rfl (by decide +kernel) d he rfl rfl hl9 kk
theorem gf_X6_45 (K : KX p m c cc nL s args cw RX6 D cA) {r a : Nat} {fs : List Value} {v : Value} (d : decode cc pc = .ok (.getfield 45, 3)) (he : pic r = some (a, .inr (9, fs))) (hv : fs[16]? = some v) (kk : V p l e R s m args below meth c Q D base nL pic lv (pc + 3) (v :: st) cells slots) : V p l e R s m args below meth c Q D base nL pic lv (pc) (.ref a :: st) cells slots := v_get K (C := RX6) (T := TX6) (N := 24) (k := 16) rfl in_wsX60 (by decide) gw_74 rfl d he hv kk
theorem pf_X6_45 (K : KX p m c cc nL s args cw RX6 D cA) {r a : Nat} {fs : List Value} {x : Nat} (hin : meth.name = "<init>") (d : decode cc pc = .ok (.putfield 45, 3)) (he : pic r = some (a, .inr (9, fs))) (hl9 : 16 < fs.length) (kk : ∀ pic1 : PIC, pic1 r = some (a, .inr (9, fs.set 16 (.ref x))) → (∀ q, q ≠ r → pic1 q = pic q) → V p l e R s m args below meth c Q D base nL pic1 lv (pc + 3) (st) cells slots) : V p l e R s m args below meth c Q D base nL pic lv (pc) (.ref x :: .ref a :: st) cells slots := v_putF K (C := RX6) (T := TX6) (N := 24) (k := 16) (ty := .array .int) tyX6 tyX6_ok nmX6 rfl in_wsX60 (by decide) gw_74 rfl rfl hin rfl (by decide +kernel) d he rfl rfl hl9 kk
theorem gf_X6_48 (K : KX p m c cc nL s args cw RX6 D cA) {r a : Nat} {fs : List Value} {v : Value} (d : decode cc pc = .ok (.getfield 48, 3)) (he : pic r = some (a, .inr (9, fs))) (hv : fs[17]? = some v) (kk : V p l e R s m args below meth c Q D base nL pic lv (pc + 3) (v :: st) cells slots) : V p l e R s m args below meth c Q D base nL pic lv (pc) (.ref a :: st) cells slots := v_get K (C := RX6) (T := TX6) (N := 24) (k := 17) rfl in_wsX60 (by decide) gw_75 rfl d he hv kk
theorem pf_X6_48 (K : KX p m c cc nL s args cw RX6 D cA) {r a : Nat} {fs : List Value} {x : Nat} (hin : meth.name = "<init>") (d : decode cc pc = .ok (.putfield 48, 3)) (he : pic r = some (a, .inr (9, fs))) (hl9 : 17 < fs.length) (kk : ∀ pic1 : PIC, pic1 r = some (a, .inr (9, fs.set 17 (.ref x))) → (∀ q, q ≠ r → pic1 q = pic q) → V p l e R s m args below meth c Q D base nL pic1 lv (pc + 3) (st) cells slots) : V p l e R s m args below meth c Q D base nL pic lv (pc) (.ref x :: .ref a :: st) cells slots := v_putF K (C := RX6) (T := TX6) (N := 24) (k := 17) (ty := .array .long) tyX6 tyX6_ok nmX6 rfl in_wsX60 (by decide) gw_75 rfl rfl hin rfl (by decide +kernel) d he rfl rfl hl9 kk
theorem gf_X6_51 (K : KX p m c cc nL s args cw RX6 D cA) {r a : Nat} {fs : List Value} {v : Value} (d : decode cc pc = .ok (.getfield 51, 3)) (he : pic r = some (a, .inr (9, fs))) (hv : fs[20]? = some v) (kk : V p l e R s m args below meth c Q D base nL pic lv (pc + 3) (v :: st) cells slots) : V p l e R s m args below meth c Q D base nL pic lv (pc) (.ref a :: st) cells slots := v_get K (C := RX6) (T := TX6) (N := 24) (k := 20) rfl in_wsX60 (by decide) gw_76 rfl d he hv kk
theorem pf_X6_51 (K : KX p m c cc nL s args cw RX6 D cA) {r a : Nat} {fs : List Value} {x : Nat} (hin : meth.name = "<init>") (d : decode cc pc = .ok (.putfield 51, 3)) (he : pic r = some (a, .inr (9, fs))) (hl9 : 20 < fs.length) (kk : ∀ pic1 : PIC, pic1 r = some (a, .inr (9, fs.set 20 (.ref x))) → (∀ q, q ≠ r → pic1 q = pic q) → V p l e R s m args below meth c Q D base nL pic1 lv (pc + 3) (st) cells slots) : V p l e R s m args below meth c Q D base nL pic lv (pc) (.ref x :: .ref a :: st) cells slots := v_putF K (C := RX6) (T := TX6) (N := 24) (k := 20) (ty := .array .int) tyX6 tyX6_ok nmX6 rfl in_wsX60 (by decide) gw_76 rfl rfl hin rfl (by decide +kernel) d he rfl rfl hl9 kk
theorem gf_X6_54 (K : KX p m c cc nL s args cw RX6 D cA) {r a : Nat} {fs : List Value} {v : Value} (d : decode cc pc = .ok (.getfield 54, 3)) (he : pic r = some (a, .inr (9, fs))) (hv : fs[21]? = some v) (kk : V p l e R s m args below meth c Q D base nL pic lv (pc + 3) (v :: st) cells slots) : V p l e R s m args below meth c Q D base nL pic lv (pc) (.ref a :: st) cells slots := v_get K (C := RX6) (T := TX6) (N := 24) (k := 21) rfl in_wsX60 (by decide) gw_77 rfl d he hv kk
theorem pf_X6_54 (K : KX p m c cc nL s args cw RX6 D cA) {r a : Nat} {fs : List Value} {x : Nat} (hin : meth.name = "<init>") (d : decode cc pc = .ok (.putfield 54, 3)) (he : pic r = some (a, .inr (9, fs))) (hl9 : 21 < fs.length) (kk : ∀ pic1 : PIC, pic1 r = some (a, .inr (9, fs.set 21 (.ref x))) → (∀ q, q ≠ r → pic1 q = pic q) → V p l e R s m args below meth c Q D base nL pic1 lv (pc + 3) (st) cells slots) : V p l e R s m args below meth c Q D base nL pic lv (pc) (.ref x :: .ref a :: st) cells slots := v_putF K (C := RX6) (T := TX6) (N := 24) (k := 21) (ty := .array .int) tyX6 tyX6_ok nmX6 rfl in_wsX60 (by decide) gw_77 rfl rfl hin rfl (by decide +kernel) d he rfl rfl hl9 kk
theorem gf_X6_57 (K : KX p m c cc nL s args cw RX6 D cA) {r a : Nat} {fs : List Value} {v : Value} (d : decode cc pc = .ok (.getfield 57, 3)) (he : pic r = some (a, .inr (9, fs))) (hv : fs[22]? = some v) (kk : V p l e R s m args below meth c Q D base nL pic lv (pc + 3) (v :: st) cells slots) : V p l e R s m args below meth c Q D base nL pic lv (pc) (.ref a :: st) cells slots := v_get K (C := RX6) (T := TX6) (N := 24) (k := 22) rfl in_wsX60 (by decide) gw_78 rfl d he hv kk
theorem pf_X6_57 (K : KX p m c cc nL s args cw RX6 D cA) {r a : Nat} {fs : List Value} {x : Nat} (hin : meth.name = "<init>") (d : decode cc pc = .ok (.putfield 57, 3)) (he : pic r = some (a, .inr (9, fs))) (hl9 : 22 < fs.length) (kk : ∀ pic1 : PIC, pic1 r = some (a, .inr (9, fs.set 22 (.ref x))) → (∀ q, q ≠ r → pic1 q = pic q) → V p l e R s m args below meth c Q D base nL pic1 lv (pc + 3) (st) cells slots) : V p l e R s m args below meth c Q D base nL pic lv (pc) (.ref x :: .ref a :: st) cells slots := v_putF K (C := RX6) (T := TX6) (N := 24) (k := 22) (ty := .array .int) tyX6 tyX6_ok nmX6 rfl in_wsX60 (by decide) gw_78 rfl rfl hin rfl (by decide +kernel) d he rfl rfl hl9 kk
theorem gf_X6_60 (K : KX p m c cc nL s args cw RX6 D cA) {r a : Nat} {fs : List Value} {v : Value} (d : decode cc pc = .ok (.getfield 60, 3)) (he : pic r = some (a, .inr (9, fs))) (hv : fs[23]? = some v) (kk : V p l e R s m args below meth c Q D base nL pic lv (pc + 3) (v :: st) cells slots) : V p l e R s m args below meth c Q D base nL pic lv (pc) (.ref a :: st) cells slots := v_get K (C := RX6) (T := TX6) (N := 24) (k := 23) rfl in_wsX60 (by decide) gw_79 rfl d he hv kk
theorem pf_X6_60 (K : KX p m c cc nL s args cw RX6 D cA) {r a : Nat} {fs : List Value} {x : Nat} (hin : meth.name = "<init>") (d : decode cc pc = .ok (.putfield 60, 3)) (he : pic r = some (a, .inr (9, fs))) (hl9 : 23 < fs.length) (kk : ∀ pic1 : PIC, pic1 r = some (a, .inr (9, fs.set 23 (.ref x))) → (∀ q, q ≠ r → pic1 q = pic q) → V p l e R s m args below meth c Q D base nL pic1 lv (pc + 3) (st) cells slots) : V p l e R s m args below meth c Q D base nL pic lv (pc) (.ref x :: .ref a :: st) cells slots := v_putF K (C := RX6) (T := TX6) (N := 24) (k := 23) (ty := .array .long) tyX6 tyX6_ok nmX6 rfl in_wsX60 (by decide) gw_79 rfl rfl hin rfl (by decide +kernel) d he rfl rfl hl9 kk
theorem gf_X5_47 (K : KX p m c cc nL s args cw RX5 D cA) {r a : Nat} {fs : List Value} {v : Value} (d : decode cc pc = .ok (.getfield 47, 3)) (he : pic r = some (a, .inr (4, fs))) (hv : fs[4]? = some v) (kk : V p l e R s m args below meth c Q D base nL pic lv (pc + 3) (v :: st) cells slots) : V p l e R s m args below meth c Q D base nL pic lv (pc) (.ref a :: st) cells slots := v_get K (C := RX1) (T := TX1) (N := 5) (k := 4) rfl in_wsX10 (by decide) gw_84 rfl d he hv kk
theorem pf_X5_47 (K : KX p m c cc nL s args cw RX5 D cA) {r a : Nat} {fs : List Value} {x : Int32} (d : decode cc pc = .ok (.putfield 47, 3)) (he : pic r = some (a, .inr (4, fs))) (hl9 : 4 < fs.length) (kk : ∀ pic1 : PIC, pic1 r = some (a, .inr (4, fs.set 4 (.int x))) → (∀ q, q ≠ r → pic1 q = pic q) → V p l e R s m args below meth c Q D base nL pic1 lv (pc + 3) (st) cells slots) : V p l e R s m args below meth c Q D base nL pic lv (pc) (.int x :: .ref a :: st) cells slots := v_put K (C := RX1) (T := TX1) (N := 5) (k := 4) (ty := .int) tyX1 tyX1_ok nmX1 rfl in_wsX10 (by decide) gw_84 rfl rfl (by decide +kernel) d he rfl rfl hl9 kk
theorem gf_X5_59 (K : KX p m c cc nL s args cw RX5 D cA) {r a : Nat} {fs : List Value} {v : Value} (d : decode cc pc = .ok (.getfield 59, 3)) (he : pic r = some (a, .inr (3, fs))) (hv : fs[5]? = some v) (kk : V p l e R s m args below meth c Q D base nL pic lv (pc + 3) (v :: st) cells slots) : V p l e R s m args below meth c Q D base nL pic lv (pc) (.ref a :: st) cells slots := v_get K (C := RX0) (T := TX0) (N := 10) (k := 5) rfl in_wsX00 (by decide) gw_85 rfl d he hv kk
theorem pf_X5_59 (K : KX p m c cc nL s args cw RX5 D cA) {r a : Nat} {fs : List Value} {x : Int32} (d : decode cc pc = .ok (.putfield 59, 3)) (he : pic r = some (a, .inr (3, fs))) (hl9 : 5 < fs.length) (kk : ∀ pic1 : PIC, pic1 r = some (a, .inr (3, fs.set 5 (.int x))) → (∀ q, q ≠ r → pic1 q = pic q) → V p l e R s m args below meth c Q D base nL pic1 lv (pc + 3) (st) cells slots) : V p l e R s m args below meth c Q D base nL pic lv (pc) (.int x :: .ref a :: st) cells slots := v_put K (C := RX0) (T := TX0) (N := 10) (k := 5) (ty := .int) tyX0 tyX0_ok nmX0 rfl in_wsX00 (by decide) gw_85 rfl rfl (by decide +kernel) d he rfl rfl hl9 kk
theorem gf_X1_25 (K : KX p m c cc nL s args cw RX1 D cA) {r a : Nat} {fs : List Value} {v : Value} (d : decode cc pc = .ok (.getfield 25, 3)) (he : pic r = some (a, .inr (4, fs))) (hv : fs[4]? = some v) (kk : V p l e R s m args below meth c Q D base nL pic lv (pc + 3) (v :: st) cells slots) : V p l e R s m args below meth c Q D base nL pic lv (pc) (.ref a :: st) cells slots := v_get K (C := RX1) (T := TX1) (N := 5) (k := 4) rfl in_wsX10 (by decide) gw_90 rfl d he hv kk
theorem pf_X1_25 (K : KX p m c cc nL s args cw RX1 D cA) {r a : Nat} {fs : List Value} {x : Int32} (d : decode cc pc = .ok (.putfield 25, 3)) (he : pic r = some (a, .inr (4, fs))) (hl9 : 4 < fs.length) (kk : ∀ pic1 : PIC, pic1 r = some (a, .inr (4, fs.set 4 (.int x))) → (∀ q, q ≠ r → pic1 q = pic q) → V p l e R s m args below meth c Q D base nL pic1 lv (pc + 3) (st) cells slots) : V p l e R s m args below meth c Q D base nL pic lv (pc) (.int x :: .ref a :: st) cells slots := v_put K (C := RX1) (T := TX1) (N := 5) (k := 4) (ty := .int) tyX1 tyX1_ok nmX1 rfl in_wsX10 (by decide) gw_90 rfl rfl (by decide +kernel) d he rfl rfl hl9 kk
theorem gf_X1_39 (K : KX p m c cc nL s args cw RX1 D cA) {r a : Nat} {fs : List Value} {v : Value} (d : decode cc pc = .ok (.getfield 39, 3)) (he : pic r = some (a, .inr (3, fs))) (hv : fs[5]? = some v) (kk : V p l e R s m args below meth c Q D base nL pic lv (pc + 3) (v :: st) cells slots) : V p l e R s m args below meth c Q D base nL pic lv (pc) (.ref a :: st) cells slots := v_get K (C := RX0) (T := TX0) (N := 10) (k := 5) rfl in_wsX00 (by decide) gw_103 rfl d he hv kk
theorem pf_X1_39 (K : KX p m c cc nL s args cw RX1 D cA) {r a : Nat} {fs : List Value} {x : Int32} (d : decode cc pc = .ok (.putfield 39, 3)) (he : pic r = some (a, .inr (3, fs))) (hl9 : 5 < fs.length) (kk : ∀ pic1 : PIC, pic1 r = some (a, .inr (3, fs.set 5 (.int x))) → (∀ q, q ≠ r → pic1 q = pic q) → V p l e R s m args below meth c Q D base nL pic1 lv (pc + 3) (st) cells slots) : V p l e R s m args below meth c Q D base nL pic lv (pc) (.int x :: .ref a :: st) cells slots := v_put K (C := RX0) (T := TX0) (N := 10) (k := 5) (ty := .int) tyX0 tyX0_ok nmX0 rfl in_wsX00 (by decide) gw_103 rfl rfl (by decide +kernel) d he rfl rfl hl9 kk
theorem gf_X6_74 (K : KX p m c cc nL s args cw RX6 D cA) {r a : Nat} {fs : List Value} {v : Value} (d : decode cc pc = .ok (.getfield 74, 3)) (he : pic r = some (a, .inr (9, fs))) (hv : fs[12]? = some v) (kk : V p l e R s m args below meth c Q D base nL pic lv (pc + 3) (v :: st) cells slots) : V p l e R s m args below meth c Q D base nL pic lv (pc) (.ref a :: st) cells slots := v_get K (C := RX6) (T := TX6) (N := 24) (k := 12) rfl in_wsX60 (by decide) gw_121 rfl d he hv kk
theorem pf_X6_74 (K : KX p m c cc nL s args cw RX6 D cA) {r a : Nat} {fs : List Value} {x : Int32} (d : decode cc pc = .ok (.putfield 74, 3)) (he : pic r = some (a, .inr (9, fs))) (hl9 : 12 < fs.length) (kk : ∀ pic1 : PIC, pic1 r = some (a, .inr (9, fs.set 12 (.int x))) → (∀ q, q ≠ r → pic1 q = pic q) → V p l e R s m args below meth c Q D base nL pic1 lv (pc + 3) (st) cells slots) : V p l e R s m args below meth c Q D base nL pic lv (pc) (.int x :: .ref a :: st) cells slots := v_put K (C := RX6) (T := TX6) (N := 24) (k := 12) (ty := .int) tyX6 tyX6_ok nmX6 rfl in_wsX60 (by decide) gw_121 rfl rfl (by decide +kernel) d he rfl rfl hl9 kk
theorem gf_X6_77 (K : KX p m c cc nL s args cw RX6 D cA) {r a : Nat} {fs : List Value} {v : Value} (d : decode cc pc = .ok (.getfield 77, 3)) (he : pic r = some (a, .inr (9, fs))) (hv : fs[11]? = some v) (kk : V p l e R s m args below meth c Q D base nL pic lv (pc + 3) (v :: st) cells slots) : V p l e R s m args below meth c Q D base nL pic lv (pc) (.ref a :: st) cells slots := v_get K (C := RX6) (T := TX6) (N := 24) (k := 11) rfl in_wsX60 (by decide) gw_122 rfl d he hv kk
theorem pf_X6_77 (K : KX p m c cc nL s args cw RX6 D cA) {r a : Nat} {fs : List Value} {x : Int32} (d : decode cc pc = .ok (.putfield 77, 3)) (he : pic r = some (a, .inr (9, fs))) (hl9 : 11 < fs.length) (kk : ∀ pic1 : PIC, pic1 r = some (a, .inr (9, fs.set 11 (.int x))) → (∀ q, q ≠ r → pic1 q = pic q) → V p l e R s m args below meth c Q D base nL pic1 lv (pc + 3) (st) cells slots) : V p l e R s m args below meth c Q D base nL pic lv (pc) (.int x :: .ref a :: st) cells slots := v_put K (C := RX6) (T := TX6) (N := 24) (k := 11) (ty := .int) tyX6 tyX6_ok nmX6 rfl in_wsX60 (by decide) gw_122 rfl rfl (by decide +kernel) d he rfl rfl hl9 kk
theorem gf_X0_32 (K : KX p m c cc nL s args cw RX0 D cA) {r a : Nat} {fs : List Value} {v : Value} (d : decode cc pc = .ok (.getfield 32, 3)) (he : pic r = some (a, .inr (3, fs))) (hv : fs[5]? = some v) (kk : V p l e R s m args below meth c Q D base nL pic lv (pc + 3) (v :: st) cells slots) : V p l e R s m args below meth c Q D base nL pic lv (pc) (.ref a :: st) cells slots := v_get K (C := RX0) (T := TX0) (N := 10) (k := 5) rfl in_wsX00 (by decide) gw_158 rfl d he hv kk
theorem pf_X0_32 (K : KX p m c cc nL s args cw RX0 D cA) {r a : Nat} {fs : List Value} {x : Int32} (d : decode cc pc = .ok (.putfield 32, 3)) (he : pic r = some (a, .inr (3, fs))) (hl9 : 5 < fs.length) (kk : ∀ pic1 : PIC, pic1 r = some (a, .inr (3, fs.set 5 (.int x))) → (∀ q, q ≠ r → pic1 q = pic q) → V p l e R s m args below meth c Q D base nL pic1 lv (pc + 3) (st) cells slots) : V p l e R s m args below meth c Q D base nL pic lv (pc) (.int x :: .ref a :: st) cells slots := v_put K (C := RX0) (T := TX0) (N := 10) (k := 5) (ty := .int) tyX0 tyX0_ok nmX0 rfl in_wsX00 (by decide) gw_158 rfl rfl (by decide +kernel) d he rfl rfl hl9 kk
theorem gf_X6_102 (K : KX p m c cc nL s args cw RX6 D cA) {r a : Nat} {fs : List Value} {v : Value} (d : decode cc pc = .ok (.getfield 102, 3)) (he : pic r = some (a, .inr (9, fs))) (hv : fs[10]? = some v) (kk : V p l e R s m args below meth c Q D base nL pic lv (pc + 3) (v :: st) cells slots) : V p l e R s m args below meth c Q D base nL pic lv (pc) (.ref a :: st) cells slots := v_get K (C := RX6) (T := TX6) (N := 24) (k := 10) rfl in_wsX60 (by decide) gw_163 rfl d he hv kk
theorem pf_X6_102 (K : KX p m c cc nL s args cw RX6 D cA) {r a : Nat} {fs : List Value} {x : Int32} (d : decode cc pc = .ok (.putfield 102, 3)) (he : pic r = some (a, .inr (9, fs))) (hl9 : 10 < fs.length) (kk : ∀ pic1 : PIC, pic1 r = some (a, .inr (9, fs.set 10 (.int x))) → (∀ q, q ≠ r → pic1 q = pic q) → V p l e R s m args below meth c Q D base nL pic1 lv (pc + 3) (st) cells slots) : V p l e R s m args below meth c Q D base nL pic lv (pc) (.int x :: .ref a :: st) cells slots := v_put K (C := RX6) (T := TX6) (N := 24) (k := 10) (ty := .int) tyX6 tyX6_ok nmX6 rfl in_wsX60 (by decide) gw_163 rfl rfl (by decide +kernel) d he rfl rfl hl9 kk
theorem gf_X5_87 (K : KX p m c cc nL s args cw RX5 D cA) {r a : Nat} {fs : List Value} {v : Value} (d : decode cc pc = .ok (.getfield 87, 3)) (he : pic r = some (a, .inr (8, fs))) (hv : fs[8]? = some v) (kk : V p l e R s m args below meth c Q D base nL pic lv (pc + 3) (v :: st) cells slots) : V p l e R s m args below meth c Q D base nL pic lv (pc) (.ref a :: st) cells slots := v_get K (C := RX5) (T := TX5) (N := 9) (k := 8) rfl in_wsX50 (by decide) gw_183 rfl d he hv kk
theorem pf_X5_87 (K : KX p m c cc nL s args cw RX5 D cA) {r a : Nat} {fs : List Value} {x : Int32} (d : decode cc pc = .ok (.putfield 87, 3)) (he : pic r = some (a, .inr (8, fs))) (hl9 : 8 < fs.length) (kk : ∀ pic1 : PIC, pic1 r = some (a, .inr (8, fs.set 8 (.int x))) → (∀ q, q ≠ r → pic1 q = pic q) → V p l e R s m args below meth c Q D base nL pic1 lv (pc + 3) (st) cells slots) : V p l e R s m args below meth c Q D base nL pic lv (pc) (.int x :: .ref a :: st) cells slots := v_put K (C := RX5) (T := TX5) (N := 9) (k := 8) (ty := .int) tyX5 tyX5_ok nmX5 rfl in_wsX50 (by decide) gw_183 rfl rfl (by decide +kernel) d he rfl rfl hl9 kk
theorem gf_X5_90 (K : KX p m c cc nL s args cw RX5 D cA) {r a : Nat} {fs : List Value} {v : Value} (d : decode cc pc = .ok (.getfield 90, 3)) (he : pic r = some (a, .inr (8, fs))) (hv : fs[6]? = some v) (kk : V p l e R s m args below meth c Q D base nL pic lv (pc + 3) (v :: st) cells slots) : V p l e R s m args below meth c Q D base nL pic lv (pc) (.ref a :: st) cells slots := v_get K (C := RX5) (T := TX5) (N := 9) (k := 6) rfl in_wsX50 (by decide) gw_184 rfl d he hv kk
theorem pf_X5_90 (K : KX p m c cc nL s args cw RX5 D cA) {r a : Nat} {fs : List Value} {x : Int32} (d : decode cc pc = .ok (.putfield 90, 3)) (he : pic r = some (a, .inr (8, fs))) (hl9 : 6 < fs.length) (kk : ∀ pic1 : PIC, pic1 r = some (a, .inr (8, fs.set 6 (.int x))) → (∀ q, q ≠ r → pic1 q = pic q) → V p l e R s m args below meth c Q D base nL pic1 lv (pc + 3) (st) cells slots) : V p l e R s m args below meth c Q D base nL pic lv (pc) (.int x :: .ref a :: st) cells slots := v_put K (C := RX5) (T := TX5) (N := 9) (k := 6) (ty := .int) tyX5 tyX5_ok nmX5 rfl in_wsX50 (by decide) gw_184 rfl rfl (by decide +kernel) d he rfl rfl hl9 kk
theorem gf_X5_93 (K : KX p m c cc nL s args cw RX5 D cA) {r a : Nat} {fs : List Value} {v : Value} (d : decode cc pc = .ok (.getfield 93, 3)) (he : pic r = some (a, .inr (8, fs))) (hv : fs[7]? = some v) (kk : V p l e R s m args below meth c Q D base nL pic lv (pc + 3) (v :: st) cells slots) : V p l e R s m args below meth c Q D base nL pic lv (pc) (.ref a :: st) cells slots := v_get K (C := RX5) (T := TX5) (N := 9) (k := 7) rfl in_wsX50 (by decide) gw_185 rfl d he hv kk
theorem pf_X5_93 (K : KX p m c cc nL s args cw RX5 D cA) {r a : Nat} {fs : List Value} {x : Int32} (d : decode cc pc = .ok (.putfield 93, 3)) (he : pic r = some (a, .inr (8, fs))) (hl9 : 7 < fs.length) (kk : ∀ pic1 : PIC, pic1 r = some (a, .inr (8, fs.set 7 (.int x))) → (∀ q, q ≠ r → pic1 q = pic q) → V p l e R s m args below meth c Q D base nL pic1 lv (pc + 3) (st) cells slots) : V p l e R s m args below meth c Q D base nL pic lv (pc) (.int x :: .ref a :: st) cells slots := v_put K (C := RX5) (T := TX5) (N := 9) (k := 7) (ty := .int) tyX5 tyX5_ok nmX5 rfl in_wsX50 (by decide) gw_185 rfl rfl (by decide +kernel) d he rfl rfl hl9 kk
theorem gf_X6_67 (K : KX p m c cc nL s args cw RX6 D cA) {r a : Nat} {fs : List Value} {v : Value} (d : decode cc pc = .ok (.getfield 67, 3)) (he : pic r = some (a, .inr (9, fs))) (hv : fs[9]? = some v) (kk : V p l e R s m args below meth c Q D base nL pic lv (pc + 3) (v :: st) cells slots) : V p l e R s m args below meth c Q D base nL pic lv (pc) (.ref a :: st) cells slots := v_get K (C := RX6) (T := TX6) (N := 24) (k := 9) rfl in_wsX60 (by decide) gw_195 rfl d he hv kk
theorem pf_X6_67 (K : KX p m c cc nL s args cw RX6 D cA) {r a : Nat} {fs : List Value} {x : Int32} (d : decode cc pc = .ok (.putfield 67, 3)) (he : pic r = some (a, .inr (9, fs))) (hl9 : 9 < fs.length) (kk : ∀ pic1 : PIC, pic1 r = some (a, .inr (9, fs.set 9 (.int x))) → (∀ q, q ≠ r → pic1 q = pic q) → V p l e R s m args below meth c Q D base nL pic1 lv (pc + 3) (st) cells slots) : V p l e R s m args below meth c Q D base nL pic lv (pc) (.int x :: .ref a :: st) cells slots := v_put K (C := RX6) (T := TX6) (N := 24) (k := 9) (ty := .int) tyX6 tyX6_ok nmX6 rfl in_wsX60 (by decide) gw_195 rfl rfl (by decide +kernel) d he rfl rfl hl9 kk
theorem gf_X6_105 (K : KX p m c cc nL s args cw RX6 D cA) {r a : Nat} {fs : List Value} {v : Value} (d : decode cc pc = .ok (.getfield 105, 3)) (he : pic r = some (a, .inr (9, fs))) (hv : fs[19]? = some v) (kk : V p l e R s m args below meth c Q D base nL pic lv (pc + 3) (v :: st) cells slots) : V p l e R s m args below meth c Q D base nL pic lv (pc) (.ref a :: st) cells slots := v_get K (C := RX6) (T := TX6) (N := 24) (k := 19) rfl in_wsX60 (by decide) gw_196 rfl d he hv kk
theorem pf_X6_105 (K : KX p m c cc nL s args cw RX6 D cA) {r a : Nat} {fs : List Value} {x : Int32} (d : decode cc pc = .ok (.putfield 105, 3)) (he : pic r = some (a, .inr (9, fs))) (hl9 : 19 < fs.length) (kk : ∀ pic1 : PIC, pic1 r = some (a, .inr (9, fs.set 19 (.int x))) → (∀ q, q ≠ r → pic1 q = pic q) → V p l e R s m args below meth c Q D base nL pic1 lv (pc + 3) (st) cells slots) : V p l e R s m args below meth c Q D base nL pic lv (pc) (.int x :: .ref a :: st) cells slots := v_put K (C := RX6) (T := TX6) (N := 24) (k := 19) (ty := .int) tyX6 tyX6_ok nmX6 rfl in_wsX60 (by decide) gw_196 rfl rfl (by decide +kernel) d he rfl rfl hl9 kk
theorem gf_X4_21 (K : KX p m c cc nL s args cw RX4 D cA) {r a : Nat} {fs : List Value} {v : Value} (d : decode cc pc = .ok (.getfield 21, 3)) (he : pic r = some (a, .inr (7, fs))) (hv : fs[1]? = some v) (kk : V p l e R s m args below meth c Q D base nL pic lv (pc + 3) (v :: st) cells slots) : V p l e R s m args below meth c Q D base nL pic lv (pc) (.ref a :: st) cells slots := v_get K (C := RX4) (T := TX4) (N := 2) (k := 1) rfl in_wsX40 (by decide) gw_205 rfl d he hv kk
theorem pf_X4_21 (K : KX p m c cc nL s args cw RX4 D cA) {r a : Nat} {fs : List Value} {x : Int32} (d : decode cc pc = .ok (.putfield 21, 3)) (he : pic r = some (a, .inr (7, fs))) (hl9 : 1 < fs.length) (kk : ∀ pic1 : PIC, pic1 r = some (a, .inr (7, fs.set 1 (.int x))) → (∀ q, q ≠ r → pic1 q = pic q) → V p l e R s m args below meth c Q D base nL pic1 lv (pc + 3) (st) cells slots) : V p l e R s m args below meth c Q D base nL pic lv (pc) (.int x :: .ref a :: st) cells slots := v_put K (C := RX4) (T := TX4) (N := 2) (k := 1) (ty := .int) tyX4 tyX4_ok nmX4 rfl in_wsX40 (by decide) gw_205 rfl rfl (by decide +kernel) d he rfl rfl hl9 kk
theorem gf_X4_15 (K : KX p m c cc nL s args cw RX4 D cA) {r a : Nat} {fs : List Value} {v : Value} (d : decode cc pc = .ok (.getfield 15, 3)) (he : pic r = some (a, .inr (3, fs))) (hv : fs[5]? = some v) (kk : V p l e R s m args below meth c Q D base nL pic lv (pc + 3) (v :: st) cells slots) : V p l e R s m args below meth c Q D base nL pic lv (pc) (.ref a :: st) cells slots := v_get K (C := RX0) (T := TX0) (N := 10) (k := 5) rfl in_wsX00 (by decide) gw_210 rfl d he hv kk
theorem pf_X4_15 (K : KX p m c cc nL s args cw RX4 D cA) {r a : Nat} {fs : List Value} {x : Int32} (d : decode cc pc = .ok (.putfield 15, 3)) (he : pic r = some (a, .inr (3, fs))) (hl9 : 5 < fs.length) (kk : ∀ pic1 : PIC, pic1 r = some (a, .inr (3, fs.set 5 (.int x))) → (∀ q, q ≠ r → pic1 q = pic q) → V p l e R s m args below meth c Q D base nL pic1 lv (pc + 3) (st) cells slots) : V p l e R s m args below meth c Q D base nL pic lv (pc) (.int x :: .ref a :: st) cells slots := v_put K (C := RX0) (T := TX0) (N := 10) (k := 5) (ty := .int) tyX0 tyX0_ok nmX0 rfl in_wsX00 (by decide) gw_210 rfl rfl (by decide +kernel) d he rfl rfl hl9 kk
theorem gf_X0_36 (K : KX p m c cc nL s args cw RX0 D cA) {r a : Nat} {fs : List Value} {v : Value} (d : decode cc pc = .ok (.getfield 36, 3)) (he : pic r = some (a, .inr (3, fs))) (hv : fs[7]? = some v) (kk : V p l e R s m args below meth c Q D base nL pic lv (pc + 3) (v :: st) cells slots) : V p l e R s m args below meth c Q D base nL pic lv (pc) (.ref a :: st) cells slots := v_get K (C := RX0) (T := TX0) (N := 10) (k := 7) rfl in_wsX00 (by decide) gw_231 rfl d he hv kk
theorem pf_X0_36 (K : KX p m c cc nL s args cw RX0 D cA) {r a : Nat} {fs : List Value} {x : Int32} (d : decode cc pc = .ok (.putfield 36, 3)) (he : pic r = some (a, .inr (3, fs))) (hl9 : 7 < fs.length) (kk : ∀ pic1 : PIC, pic1 r = some (a, .inr (3, fs.set 7 (.int x))) → (∀ q, q ≠ r → pic1 q = pic q) → V p l e R s m args below meth c Q D base nL pic1 lv (pc + 3) (st) cells slots) : V p l e R s m args below meth c Q D base nL pic lv (pc) (.int x :: .ref a :: st) cells slots := v_put K (C := RX0) (T := TX0) (N := 10) (k := 7) (ty := .int) tyX0 tyX0_ok nmX0 rfl in_wsX00 (by decide) gw_231 rfl rfl (by decide +kernel) d he rfl rfl hl9 kk
theorem gf_X0_39 (K : KX p m c cc nL s args cw RX0 D cA) {r a : Nat} {fs : List Value} {v : Value} (d : decode cc pc = .ok (.getfield 39, 3)) (he : pic r = some (a, .inr (3, fs))) (hv : fs[8]? = some v) (kk : V p l e R s m args below meth c Q D base nL pic lv (pc + 3) (v :: st) cells slots) : V p l e R s m args below meth c Q D base nL pic lv (pc) (.ref a :: st) cells slots := v_get K (C := RX0) (T := TX0) (N := 10) (k := 8) rfl in_wsX00 (by decide) gw_232 rfl d he hv kk
theorem pf_X0_39 (K : KX p m c cc nL s args cw RX0 D cA) {r a : Nat} {fs : List Value} {x : Int64} (d : decode cc pc = .ok (.putfield 39, 3)) (he : pic r = some (a, .inr (3, fs))) (hl9 : 8 < fs.length) (kk : ∀ pic1 : PIC, pic1 r = some (a, .inr (3, fs.set 8 (.long x))) → (∀ q, q ≠ r → pic1 q = pic q) → V p l e R s m args below meth c Q D base nL pic1 lv (pc + 3) (st) cells slots) : V p l e R s m args below meth c Q D base nL pic lv (pc) (.long x :: .ref a :: st) cells slots := v_put K (C := RX0) (T := TX0) (N := 10) (k := 8) (ty := .long) tyX0 tyX0_ok nmX0 rfl in_wsX00 (by decide) gw_232 rfl rfl (by decide +kernel) d he rfl rfl hl9 kk
theorem gf_X0_43 (K : KX p m c cc nL s args cw RX0 D cA) {r a : Nat} {fs : List Value} {v : Value} (d : decode cc pc = .ok (.getfield 43, 3)) (he : pic r = some (a, .inr (3, fs))) (hv : fs[9]? = some v) (kk : V p l e R s m args below meth c Q D base nL pic lv (pc + 3) (v :: st) cells slots) : V p l e R s m args below meth c Q D base nL pic lv (pc) (.ref a :: st) cells slots := v_get K (C := RX0) (T := TX0) (N := 10) (k := 9) rfl in_wsX00 (by decide) gw_233 rfl d he hv kk
theorem pf_X0_43 (K : KX p m c cc nL s args cw RX0 D cA) {r a : Nat} {fs : List Value} {x : Int64} (d : decode cc pc = .ok (.putfield 43, 3)) (he : pic r = some (a, .inr (3, fs))) (hl9 : 9 < fs.length) (kk : ∀ pic1 : PIC, pic1 r = some (a, .inr (3, fs.set 9 (.long x))) → (∀ q, q ≠ r → pic1 q = pic q) → V p l e R s m args below meth c Q D base nL pic1 lv (pc + 3) (st) cells slots) : V p l e R s m args below meth c Q D base nL pic lv (pc) (.long x :: .ref a :: st) cells slots := v_put K (C := RX0) (T := TX0) (N := 10) (k := 9) (ty := .long) tyX0 tyX0_ok nmX0 rfl in_wsX00 (by decide) gw_233 rfl rfl (by decide +kernel) d he rfl rfl hl9 kk
theorem gf_X5_118 (K : KX p m c cc nL s args cw RX5 D cA) {r a : Nat} {fs : List Value} {v : Value} (d : decode cc pc = .ok (.getfield 118, 3)) (he : pic r = some (a, .inr (3, fs))) (hv : fs[6]? = some v) (kk : V p l e R s m args below meth c Q D base nL pic lv (pc + 3) (v :: st) cells slots) : V p l e R s m args below meth c Q D base nL pic lv (pc) (.ref a :: st) cells slots := v_get K (C := RX0) (T := TX0) (N := 10) (k := 6) rfl in_wsX00 (by decide) gw_276 rfl d he hv kk
theorem pf_X5_118 (K : KX p m c cc nL s args cw RX5 D cA) {r a : Nat} {fs : List Value} {x : Int32} (d : decode cc pc = .ok (.putfield 118, 3)) (he : pic r = some (a, .inr (3, fs))) (hz : isB x) (hl9 : 6 < fs.length) (kk : ∀ pic1 : PIC, pic1 r = some (a, .inr (3, fs.set 6 (.int x))) → (∀ q, q ≠ r → pic1 q = pic q) → V p l e R s m args below meth c Q D base nL pic1 lv (pc + 3) (st) cells slots) : V p l e R s m args below meth c Q D base nL pic lv (pc) (.int x :: .ref a :: st) cells slots := v_put K (C := RX0) (T := TX0) (N := 10) (k := 6) (ty := .boolean) tyX0 tyX0_ok nmX0 rfl in_wsX00 (by decide) gw_276 rfl rfl (by decide +kernel) d he (narB hz) (fitB hz) hl9 kk
theorem gf_X5_198 (K : KX p m c cc nL s args cw RX5 D cA) {r a : Nat} {fs : List Value} {v : Value} (d : decode cc pc = .ok (.getfield 198, 3)) (he : pic r = some (a, .inr (6, fs))) (hv : fs[1]? = some v) (kk : V p l e R s m args below meth c Q D base nL pic lv (pc + 3) (v :: st) cells slots) : V p l e R s m args below meth c Q D base nL pic lv (pc) (.ref a :: st) cells slots := v_get K (C := RX3) (T := TX3) (N := 3) (k := 1) rfl in_wsX30 (by decide) gw_285 rfl d he hv kk
theorem pf_X5_198 (K : KX p m c cc nL s args cw RX5 D cA) {r a : Nat} {fs : List Value} {x : Int32} (d : decode cc pc = .ok (.putfield 198, 3)) (he : pic r = some (a, .inr (6, fs))) (hl9 : 1 < fs.length) (kk : ∀ pic1 : PIC, pic1 r = some (a, .inr (6, fs.set 1 (.int x))) → (∀ q, q ≠ r → pic1 q = pic q) → V p l e R s m args below meth c Q D base nL pic1 lv (pc + 3) (st) cells slots) : V p l e R s m args below meth c Q D base nL pic lv (pc) (.int x :: .ref a :: st) cells slots := v_put K (C := RX3) (T := TX3) (N := 3) (k := 1) (ty := .int) tyX3 tyX3_ok nmX3 rfl in_wsX30 (by decide) gw_285 rfl rfl (by decide +kernel) d he rfl rfl hl9 kk
theorem gf_X3_13 (K : KX p m c cc nL s args cw RX3 D cA) {r a : Nat} {fs : List Value} {v : Value} (d : decode cc pc = .ok (.getfield 13, 3)) (he : pic r = some (a, .inr (6, fs))) (hv : fs[1]? = some v) (kk : V p l e R s m args below meth c Q D base nL pic lv (pc + 3) (v :: st) cells slots) : V p l e R s m args below meth c Q D base nL pic lv (pc) (.ref a :: st) cells slots := v_get K (C := RX3) (T := TX3) (N := 3) (k := 1) rfl in_wsX30 (by decide) gw_295 rfl d he hv kk
theorem pf_X3_13 (K : KX p m c cc nL s args cw RX3 D cA) {r a : Nat} {fs : List Value} {x : Int32} (d : decode cc pc = .ok (.putfield 13, 3)) (he : pic r = some (a, .inr (6, fs))) (hl9 : 1 < fs.length) (kk : ∀ pic1 : PIC, pic1 r = some (a, .inr (6, fs.set 1 (.int x))) → (∀ q, q ≠ r → pic1 q = pic q) → V p l e R s m args below meth c Q D base nL pic1 lv (pc + 3) (st) cells slots) : V p l e R s m args below meth c Q D base nL pic lv (pc) (.int x :: .ref a :: st) cells slots := v_put K (C := RX3) (T := TX3) (N := 3) (k := 1) (ty := .int) tyX3 tyX3_ok nmX3 rfl in_wsX30 (by decide) gw_295 rfl rfl (by decide +kernel) d he rfl rfl hl9 kk
theorem gf_X3_16 (K : KX p m c cc nL s args cw RX3 D cA) {r a : Nat} {fs : List Value} {v : Value} (d : decode cc pc = .ok (.getfield 16, 3)) (he : pic r = some (a, .inr (6, fs))) (hv : fs[2]? = some v) (kk : V p l e R s m args below meth c Q D base nL pic lv (pc + 3) (v :: st) cells slots) : V p l e R s m args below meth c Q D base nL pic lv (pc) (.ref a :: st) cells slots := v_get K (C := RX3) (T := TX3) (N := 3) (k := 2) rfl in_wsX30 (by decide) gw_296 rfl d he hv kk
theorem pf_X3_16 (K : KX p m c cc nL s args cw RX3 D cA) {r a : Nat} {fs : List Value} {x : Int32} (d : decode cc pc = .ok (.putfield 16, 3)) (he : pic r = some (a, .inr (6, fs))) (hl9 : 2 < fs.length) (kk : ∀ pic1 : PIC, pic1 r = some (a, .inr (6, fs.set 2 (.int x))) → (∀ q, q ≠ r → pic1 q = pic q) → V p l e R s m args below meth c Q D base nL pic1 lv (pc + 3) (st) cells slots) : V p l e R s m args below meth c Q D base nL pic lv (pc) (.int x :: .ref a :: st) cells slots := v_put K (C := RX3) (T := TX3) (N := 3) (k := 2) (ty := .int) tyX3 tyX3_ok nmX3 rfl in_wsX30 (by decide) gw_296 rfl rfl (by decide +kernel) d he rfl rfl hl9 kk
theorem gf_X5_143 (K : KX p m c cc nL s args cw RX5 D cA) {r a : Nat} {fs : List Value} {v : Value} (d : decode cc pc = .ok (.getfield 143, 3)) (he : pic r = some (a, .inr (3, fs))) (hv : fs[4]? = some v) (kk : V p l e R s m args below meth c Q D base nL pic lv (pc + 3) (v :: st) cells slots) : V p l e R s m args below meth c Q D base nL pic lv (pc) (.ref a :: st) cells slots := v_get K (C := RX0) (T := TX0) (N := 10) (k := 4) rfl in_wsX00 (by decide) gw_361 rfl d he hv kk
theorem gf_X6_63 (K : KX p m c cc nL s args cw RX6 D cA) {r a : Nat} {fs : List Value} {v : Value} (d : decode cc pc = .ok (.getfield 63, 3)) (he : pic r = some (a, .inr (9, fs))) (hv : fs[0]? = some v) (kk : V p l e R s m args below meth c Q D base nL pic lv (pc + 3) (v :: st) cells slots) : V p l e R s m args below meth c Q D base nL pic lv (pc) (.ref a :: st) cells slots := v_get K (C := RX6) (T := TX6) (N := 24) (k := 0) rfl in_wsX60 (by decide) gw_370 rfl d he hv kk
theorem pf_X6_63 (K : KX p m c cc nL s args cw RX6 D cA) {r a : Nat} {fs : List Value} {x : Int32} (d : decode cc pc = .ok (.putfield 63, 3)) (he : pic r = some (a, .inr (9, fs))) (hl9 : 0 < fs.length) (kk : ∀ pic1 : PIC, pic1 r = some (a, .inr (9, fs.set 0 (.int x))) → (∀ q, q ≠ r → pic1 q = pic q) → V p l e R s m args below meth c Q D base nL pic1 lv (pc + 3) (st) cells slots) : V p l e R s m args below meth c Q D base nL pic lv (pc) (.int x :: .ref a :: st) cells slots := v_put K (C := RX6) (T := TX6) (N := 24) (k := 0) (ty := .int) tyX6 tyX6_ok nmX6 rfl in_wsX60 (by decide) gw_370 rfl rfl (by decide +kernel) d he rfl rfl hl9 kk
theorem gf_X5_147 (K : KX p m c cc nL s args cw RX5 D cA) {r a : Nat} {fs : List Value} {v : Value} (d : decode cc pc = .ok (.getfield 147, 3)) (he : pic r = some (a, .inr (3, fs))) (hv : fs[8]? = some v) (kk : V p l e R s m args below meth c Q D base nL pic lv (pc + 3) (v :: st) cells slots) : V p l e R s m args below meth c Q D base nL pic lv (pc) (.ref a :: st) cells slots := v_get K (C := RX0) (T := TX0) (N := 10) (k := 8) rfl in_wsX00 (by decide) gw_382 rfl d he hv kk
theorem pf_X5_147 (K : KX p m c cc nL s args cw RX5 D cA) {r a : Nat} {fs : List Value} {x : Int64} (d : decode cc pc = .ok (.putfield 147, 3)) (he : pic r = some (a, .inr (3, fs))) (hl9 : 8 < fs.length) (kk : ∀ pic1 : PIC, pic1 r = some (a, .inr (3, fs.set 8 (.long x))) → (∀ q, q ≠ r → pic1 q = pic q) → V p l e R s m args below meth c Q D base nL pic1 lv (pc + 3) (st) cells slots) : V p l e R s m args below meth c Q D base nL pic lv (pc) (.long x :: .ref a :: st) cells slots := v_put K (C := RX0) (T := TX0) (N := 10) (k := 8) (ty := .long) tyX0 tyX0_ok nmX0 rfl in_wsX00 (by decide) gw_382 rfl rfl (by decide +kernel) d he rfl rfl hl9 kk
theorem gf_X5_151 (K : KX p m c cc nL s args cw RX5 D cA) {r a : Nat} {fs : List Value} {v : Value} (d : decode cc pc = .ok (.getfield 151, 3)) (he : pic r = some (a, .inr (3, fs))) (hv : fs[9]? = some v) (kk : V p l e R s m args below meth c Q D base nL pic lv (pc + 3) (v :: st) cells slots) : V p l e R s m args below meth c Q D base nL pic lv (pc) (.ref a :: st) cells slots := v_get K (C := RX0) (T := TX0) (N := 10) (k := 9) rfl in_wsX00 (by decide) gw_394 rfl d he hv kk
theorem pf_X5_151 (K : KX p m c cc nL s args cw RX5 D cA) {r a : Nat} {fs : List Value} {x : Int64} (d : decode cc pc = .ok (.putfield 151, 3)) (he : pic r = some (a, .inr (3, fs))) (hl9 : 9 < fs.length) (kk : ∀ pic1 : PIC, pic1 r = some (a, .inr (3, fs.set 9 (.long x))) → (∀ q, q ≠ r → pic1 q = pic q) → V p l e R s m args below meth c Q D base nL pic1 lv (pc + 3) (st) cells slots) : V p l e R s m args below meth c Q D base nL pic lv (pc) (.long x :: .ref a :: st) cells slots := v_put K (C := RX0) (T := TX0) (N := 10) (k := 9) (ty := .long) tyX0 tyX0_ok nmX0 rfl in_wsX00 (by decide) gw_394 rfl rfl (by decide +kernel) d he rfl rfl hl9 kk
theorem gf_X5_168 (K : KX p m c cc nL s args cw RX5 D cA) {r a : Nat} {fs : List Value} {v : Value} (d : decode cc pc = .ok (.getfield 168, 3)) (he : pic r = some (a, .inr (5, fs))) (hv : fs[1]? = some v) (kk : V p l e R s m args below meth c Q D base nL pic lv (pc + 3) (v :: st) cells slots) : V p l e R s m args below meth c Q D base nL pic lv (pc) (.ref a :: st) cells slots := v_get K (C := RX2) (T := TX2) (N := 2) (k := 1) rfl in_wsX20 (by decide) gw_432 rfl d he hv kk
theorem pf_X5_168 (K : KX p m c cc nL s args cw RX5 D cA) {r a : Nat} {fs : List Value} {x : Int32} (d : decode cc pc = .ok (.putfield 168, 3)) (he : pic r = some (a, .inr (5, fs))) (hl9 : 1 < fs.length) (kk : ∀ pic1 : PIC, pic1 r = some (a, .inr (5, fs.set 1 (.int x))) → (∀ q, q ≠ r → pic1 q = pic q) → V p l e R s m args below meth c Q D base nL pic1 lv (pc + 3) (st) cells slots) : V p l e R s m args below meth c Q D base nL pic lv (pc) (.int x :: .ref a :: st) cells slots := v_put K (C := RX2) (T := TX2) (N := 2) (k := 1) (ty := .int) tyX2 tyX2_ok nmX2 rfl in_wsX20 (by decide) gw_432 rfl rfl (by decide +kernel) d he rfl rfl hl9 kk
theorem gf_X4_39 (K : KX p m c cc nL s args cw RX4 D cA) {r a : Nat} {fs : List Value} {v : Value} (d : decode cc pc = .ok (.getfield 39, 3)) (he : pic r = some (a, .inr (5, fs))) (hv : fs[1]? = some v) (kk : V p l e R s m args below meth c Q D base nL pic lv (pc + 3) (v :: st) cells slots) : V p l e R s m args below meth c Q D base nL pic lv (pc) (.ref a :: st) cells slots := v_get K (C := RX2) (T := TX2) (N := 2) (k := 1) rfl in_wsX20 (by decide) gw_437 rfl d he hv kk
theorem pf_X4_39 (K : KX p m c cc nL s args cw RX4 D cA) {r a : Nat} {fs : List Value} {x : Int32} (d : decode cc pc = .ok (.putfield 39, 3)) (he : pic r = some (a, .inr (5, fs))) (hl9 : 1 < fs.length) (kk : ∀ pic1 : PIC, pic1 r = some (a, .inr (5, fs.set 1 (.int x))) → (∀ q, q ≠ r → pic1 q = pic q) → V p l e R s m args below meth c Q D base nL pic1 lv (pc + 3) (st) cells slots) : V p l e R s m args below meth c Q D base nL pic lv (pc) (.int x :: .ref a :: st) cells slots := v_put K (C := RX2) (T := TX2) (N := 2) (k := 1) (ty := .int) tyX2 tyX2_ok nmX2 rfl in_wsX20 (by decide) gw_437 rfl rfl (by decide +kernel) d he rfl rfl hl9 kk
theorem gf_X2_15 (K : KX p m c cc nL s args cw RX2 D cA) {r a : Nat} {fs : List Value} {v : Value} (d : decode cc pc = .ok (.getfield 15, 3)) (he : pic r = some (a, .inr (5, fs))) (hv : fs[1]? = some v) (kk : V p l e R s m args below meth c Q D base nL pic lv (pc + 3) (v :: st) cells slots) : V p l e R s m args below meth c Q D base nL pic lv (pc) (.ref a :: st) cells slots := v_get K (C := RX2) (T := TX2) (N := 2) (k := 1) rfl in_wsX20 (by decide) gw_442 rfl d he hv kk
theorem pf_X2_15 (K : KX p m c cc nL s args cw RX2 D cA) {r a : Nat} {fs : List Value} {x : Int32} (d : decode cc pc = .ok (.putfield 15, 3)) (he : pic r = some (a, .inr (5, fs))) (hl9 : 1 < fs.length) (kk : ∀ pic1 : PIC, pic1 r = some (a, .inr (5, fs.set 1 (.int x))) → (∀ q, q ≠ r → pic1 q = pic q) → V p l e R s m args below meth c Q D base nL pic1 lv (pc + 3) (st) cells slots) : V p l e R s m args below meth c Q D base nL pic lv (pc) (.int x :: .ref a :: st) cells slots := v_put K (C := RX2) (T := TX2) (N := 2) (k := 1) (ty := .int) tyX2 tyX2_ok nmX2 rfl in_wsX20 (by decide) gw_442 rfl rfl (by decide +kernel) d he rfl rfl hl9 kk
theorem gf_X6_147 (K : KX p m c cc nL s args cw RX6 D cA) {r a : Nat} {fs : List Value} {v : Value} (d : decode cc pc = .ok (.getfield 147, 3)) (he : pic r = some (a, .inr (9, fs))) (hv : fs[18]? = some v) (kk : V p l e R s m args below meth c Q D base nL pic lv (pc + 3) (v :: st) cells slots) : V p l e R s m args below meth c Q D base nL pic lv (pc) (.ref a :: st) cells slots := v_get K (C := RX6) (T := TX6) (N := 24) (k := 18) rfl in_wsX60 (by decide) gw_447 rfl d he hv kk
theorem pf_X6_147 (K : KX p m c cc nL s args cw RX6 D cA) {r a : Nat} {fs : List Value} {x : Int32} (d : decode cc pc = .ok (.putfield 147, 3)) (he : pic r = some (a, .inr (9, fs))) (hl9 : 18 < fs.length) (kk : ∀ pic1 : PIC, pic1 r = some (a, .inr (9, fs.set 18 (.int x))) → (∀ q, q ≠ r → pic1 q = pic q) → V p l e R s m args below meth c Q D base nL pic1 lv (pc + 3) (st) cells slots) : V p l e R s m args below meth c Q D base nL pic lv (pc) (.int x :: .ref a :: st) cells slots := v_put K (C := RX6) (T := TX6) (N := 24) (k := 18) (ty := .int) tyX6 tyX6_ok nmX6 rfl in_wsX60 (by decide) gw_447 rfl rfl (by decide +kernel) d he rfl rfl hl9 kk
theorem gf_X5_171 (K : KX p m c cc nL s args cw RX5 D cA) {r a : Nat} {fs : List Value} {v : Value} (d : decode cc pc = .ok (.getfield 171, 3)) (he : pic r = some (a, .inr (5, fs))) (hv : fs[0]? = some v) (kk : V p l e R s m args below meth c Q D base nL pic lv (pc + 3) (v :: st) cells slots) : V p l e R s m args below meth c Q D base nL pic lv (pc) (.ref a :: st) cells slots := v_get K (C := RX2) (T := TX2) (N := 2) (k := 0) rfl in_wsX20 (by decide) gw_455 rfl d he hv kk
theorem gf_X3_7 (K : KX p m c cc nL s args cw RX3 D cA) {r a : Nat} {fs : List Value} {v : Value} (d : decode cc pc = .ok (.getfield 7, 3)) (he : pic r = some (a, .inr (6, fs))) (hv : fs[0]? = some v) (kk : V p l e R s m args below meth c Q D base nL pic lv (pc + 3) (v :: st) cells slots) : V p l e R s m args below meth c Q D base nL pic lv (pc) (.ref a :: st) cells slots := v_get K (C := RX3) (T := TX3) (N := 3) (k := 0) rfl in_wsX30 (by decide) gw_499 rfl d he hv kk
theorem pf_X3_7 (K : KX p m c cc nL s args cw RX3 D cA) {r a : Nat} {fs : List Value} {x : Int32} (hin : meth.name = "<init>") (d : decode cc pc = .ok (.putfield 7, 3)) (he : pic r = some (a, .inr (6, fs))) (hl9 : 0 < fs.length) (kk : ∀ pic1 : PIC, pic1 r = some (a, .inr (6, fs.set 0 (.int x))) → (∀ q, q ≠ r → pic1 q = pic q) → V p l e R s m args below meth c Q D base nL pic1 lv (pc + 3) (st) cells slots) : V p l e R s m args below meth c Q D base nL pic lv (pc) (.int x :: .ref a :: st) cells slots := v_putF K (C := RX3) (T := TX3) (N := 3) (k := 0) (ty := .int) tyX3 tyX3_ok nmX3 rfl in_wsX30 (by decide) gw_499 rfl rfl hin rfl (by decide +kernel) d he rfl rfl hl9 kk
theorem gf_X5_195 (K : KX p m c cc nL s args cw RX5 D cA) {r a : Nat} {fs : List Value} {v : Value} (d : decode cc pc = .ok (.getfield 195, 3)) (he : pic r = some (a, .inr (6, fs))) (hv : fs[2]? = some v) (kk : V p l e R s m args below meth c Q D base nL pic lv (pc + 3) (v :: st) cells slots) : V p l e R s m args below meth c Q D base nL pic lv (pc) (.ref a :: st) cells slots := v_get K (C := RX3) (T := TX3) (N := 3) (k := 2) rfl in_wsX30 (by decide) gw_508 rfl d he hv kk
theorem pf_X5_195 (K : KX p m c cc nL s args cw RX5 D cA) {r a : Nat} {fs : List Value} {x : Int32} (d : decode cc pc = .ok (.putfield 195, 3)) (he : pic r = some (a, .inr (6, fs))) (hl9 : 2 < fs.length) (kk : ∀ pic1 : PIC, pic1 r = some (a, .inr (6, fs.set 2 (.int x))) → (∀ q, q ≠ r → pic1 q = pic q) → V p l e R s m args below meth c Q D base nL pic1 lv (pc + 3) (st) cells slots) : V p l e R s m args below meth c Q D base nL pic lv (pc) (.int x :: .ref a :: st) cells slots := v_put K (C := RX3) (T := TX3) (N := 3) (k := 2) (ty := .int) tyX3 tyX3_ok nmX3 rfl in_wsX30 (by decide) gw_508 rfl rfl (by decide +kernel) d he rfl rfl hl9 kk
theorem gf_X5_201 (K : KX p m c cc nL s args cw RX5 D cA) {r a : Nat} {fs : List Value} {v : Value} (d : decode cc pc = .ok (.getfield 201, 3)) (he : pic r = some (a, .inr (6, fs))) (hv : fs[0]? = some v) (kk : V p l e R s m args below meth c Q D base nL pic lv (pc + 3) (v :: st) cells slots) : V p l e R s m args below meth c Q D base nL pic lv (pc) (.ref a :: st) cells slots := v_get K (C := RX3) (T := TX3) (N := 3) (k := 0) rfl in_wsX30 (by decide) gw_509 rfl d he hv kk
theorem cl_L_7 (K : KX p m c cc nL s args cw RL D cA) {mc ms r b : Nat} {fs : List Value} {rm : Room} {x0 x1 : Value} {post : Int64 → PIC → Prop} (d : decode cc pc = .ok (.invokevirtual 7, 3)) (he : pic r = some (b, .inr (8, fs))) (hM : CL l yX5_value cX5_value 4 ((some .long)) rm mc ms D cA base pic (.ref b :: [x0, x1]) post) (hrc : rm.cells = mc) (hrs : rm.slots = ms) (hrm : rm.frames + 1 ≤ R.frames ∧ 8 + (4 + 11) + rm.locals ≤ R.locals) (hcat : (st.map fun v => v.category).sum ≤ 8) (hcs : cells + mc ≤ R.cells ∧ slots + ms ≤ R.slots) (kk : ∀ (x : Int64) (pic1 : PIC), post x pic1 → V p l e R s m args below meth c Q D base nL pic1 lv (pc + 3) (.long x :: st) (cells + mc) (slots + ms)) : V p l e R s m args below meth c Q D base nL pic lv (pc) (x1 :: x0 :: .ref b :: st) cells slots := v_callVL K (As := [x0, x1]) (C := RX5) (T := TX5) (N := 9) gw_351 gw_352 gw_353 gw_2 gw_354 rfl ⟨rfl, by decide, by decide, (by decide +kernel : (parseMethodDescriptor yX5_value.desc).map (fun d => d.parameters.length) = some 2)⟩ d he hM hrc hrs hrm rfl hcat hcs kk
theorem cl_L_17 (K : KX p m c cc nL s args cw RL D cA) {mc ms r b : Nat} {fs : List Value} {rm : Room} {x0 : Value} {post : Int64 → PIC → Prop} (d : decode cc pc = .ok (.invokevirtual 17, 3)) (he : pic r = some (b, .inr (8, fs))) (hM : CL l yX5_root cX5_root 2 ((some .long)) rm mc ms D cA base pic (.ref b :: [x0]) post) (hrc : rm.cells = mc) (hrs : rm.slots = ms) (hrm : rm.frames + 1 ≤ R.frames ∧ 8 + (2 + 11) + rm.locals ≤ R.locals) (hcat : (st.map fun v => v.category).sum ≤ 8) (hcs : cells + mc ≤ R.cells ∧ slots + ms ≤ R.slots) (kk : ∀ (x : Int64) (pic1 : PIC), post x pic1 → V p l e R s m args below meth c Q D base nL pic1 lv (pc + 3) (.long x :: st) (cells + mc) (slots + ms)) : V p l e R s m args below meth c Q D base nL pic lv (pc) (x0 :: .ref b :: st) cells slots := v_callVL K (As := [x0]) (C := RX5) (T := TX5) (N := 9) gw_378 gw_379 gw_380 gw_2 gw_381 rfl ⟨rfl, by decide, by decide, (by decide +kernel : (parseMethodDescriptor yX5_root.desc).map (fun d => d.parameters.length) = some 1)⟩ d he hM hrc hrs hrm rfl hcat hcs kk
theorem cl_L_21 (K : KX p m c cc nL s args cw RL D cA) {mc ms r b : Nat} {fs : List Value} {rm : Room} {x0 : Value} {post : Int64 → PIC → Prop} (d : decode cc pc = .ok (.invokevirtual 21, 3)) (he : pic r = some (b, .inr (8, fs))) (hM : CL l yX5_filter cX5_filter 2 ((some .long)) rm mc ms D cA base pic (.ref b :: [x0]) post) (hrc : rm.cells = mc) (hrs : rm.slots = ms) (hrm : rm.frames + 1 ≤ R.frames ∧ 8 + (2 + 11) + rm.locals ≤ R.locals) (hcat : (st.map fun v => v.category).sum ≤ 8) (hcs : cells + mc ≤ R.cells ∧ slots + ms ≤ R.slots) (kk : ∀ (x : Int64) (pic1 : PIC), post x pic1 → V p l e R s m args below meth c Q D base nL pic1 lv (pc + 3) (.long x :: st) (cells + mc) (slots + ms)) : V p l e R s m args below meth c Q D base nL pic lv (pc) (x0 :: .ref b :: st) cells slots := v_callVL K (As := [x0]) (C := RX5) (T := TX5) (N := 9) gw_390 gw_391 gw_392 gw_2 gw_393 rfl ⟨rfl, by decide, by decide, (by decide +kernel : (parseMethodDescriptor yX5_filter.desc).map (fun d => d.parameters.length) = some 1)⟩ d he hM hrc hrs hrm rfl hcat hcs kk
theorem cl_L_24 (K : KX p m c cc nL s args cw RL D cA) {mc ms r b : Nat} {fs : List Value} {rm : Room} {x0 : Value} {post : Int64 → PIC → Prop} (d : decode cc pc = .ok (.invokevirtual 24, 3)) (he : pic r = some (b, .inr (8, fs))) (hM : CL l yX5_out cX5_out 2 ((some .long)) rm mc ms D cA base pic (.ref b :: [x0]) post) (hrc : rm.cells = mc) (hrs : rm.slots = ms) (hrm : rm.frames + 1 ≤ R.frames ∧ 8 + (2 + 11) + rm.locals ≤ R.locals) (hcat : (st.map fun v => v.category).sum ≤ 8) (hcs : cells + mc ≤ R.cells ∧ slots + ms ≤ R.slots) (kk : ∀ (x : Int64) (pic1 : PIC), post x pic1 → V p l e R s m args below meth c Q D base nL pic1 lv (pc + 3) (.long x :: st) (cells + mc) (slots + ms)) : V p l e R s m args below meth c Q D base nL pic lv (pc) (x0 :: .ref b :: st) cells slots := v_callVL K (As := [x0]) (C := RX5) (T := TX5) (N := 9) gw_451 gw_452 gw_453 gw_2 gw_454 rfl ⟨rfl, by decide, by decide, (by decide +kernel : (parseMethodDescriptor yX5_out.desc).map (fun d => d.parameters.length) = some 1)⟩ d he hM hrc hrs hrm rfl hcat hcs kk
theorem cl_L_27 (K : KX p m c cc nL s args cw RL D cA) {mc ms b : Nat} {rm : Room} {post : PIC → Prop} (d : decode cc pc = .ok (.invokespecial 27, 3)) (hM : CV l yX5_init cX5_init 1 none rm mc ms D cA base pic (.ref b :: []) post) (hrc : rm.cells = mc) (hrs : rm.slots = ms) (hrm : rm.frames + 1 ≤ R.frames ∧ 8 + (1 + 11) + rm.locals ≤ R.locals) (hcat : (st.map fun v => v.category).sum ≤ 8) (hcs : cells + mc ≤ R.cells ∧ slots + ms ≤ R.slots) (kk : ∀ pic1 : PIC, post pic1 → V p l e R s m args below meth c Q D base nL pic1 lv (pc + 3) (st) (cells + mc) (slots + ms)) : V p l e R s m args below meth c Q D base nL pic lv (pc) (.ref b :: st) cells slots := v_callIV K (As := []) gw_8 gw_9 gw_2 gw_10 rfl rfl ⟨by decide, by decide, (by decide +kernel : (parseMethodDescriptor yX5_init.desc).map (fun d => d.parameters.length) = some 0)⟩ d hM hrc hrs hrm rfl hcat hcs kk
theorem cl_L_30 (K : KX p m c cc nL s args cw RL D cA) {mc ms b : Nat} {rm : Room} {post : PIC → Prop} (d : decode cc pc = .ok (.invokespecial 30, 3)) (hM : CV l yX6_init cX6_init 1 none rm mc ms D cA base pic (.ref b :: []) post) (hrc : rm.cells = mc) (hrs : rm.slots = ms) (hrm : rm.frames + 1 ≤ R.frames ∧ 8 + (1 + 11) + rm.locals ≤ R.locals) (hcat : (st.map fun v => v.category).sum ≤ 8) (hcs : cells + mc ≤ R.cells ∧ slots + ms ≤ R.slots) (kk : ∀ pic1 : PIC, post pic1 → V p l e R s m args below meth c Q D base nL pic1 lv (pc + 3) (st) (cells + mc) (slots + ms)) : V p l e R s m args below meth c Q D base nL pic lv (pc) (.ref b :: st) cells slots := v_callIV K (As := []) gw_59 gw_60 gw_5 gw_61 rfl rfl ⟨by decide, by decide, (by decide +kernel : (parseMethodDescriptor yX6_init.desc).map (fun d => d.parameters.length) = some 0)⟩ d hM hrc hrs hrm rfl hcat hcs kk
theorem cl_L_31 (K : KX p m c cc nL s args cw RL D cA) {mc ms r b : Nat} {fs : List Value} {rm : Room} {x0 x1 : Value} {post : Int32 → PIC → Prop} (d : decode cc pc = .ok (.invokevirtual 31, 3)) (he : pic r = some (b, .inr (8, fs))) (hM : CI l yX5_begin cX5_begin 3 ((some .int)) rm mc ms D cA base pic (.ref b :: [x0, x1]) post) (hrc : rm.cells = mc) (hrs : rm.slots = ms) (hrm : rm.frames + 1 ≤ R.frames ∧ 8 + (3 + 11) + rm.locals ≤ R.locals) (hcat : (st.map fun v => v.category).sum ≤ 8) (hcs : cells + mc ≤ R.cells ∧ slots + ms ≤ R.slots) (kk : ∀ (x : Int32) (pic1 : PIC), post x pic1 → V p l e R s m args below meth c Q D base nL pic1 lv (pc + 3) (.int x :: st) (cells + mc) (slots + ms)) : V p l e R s m args below meth c Q D base nL pic lv (pc) (x1 :: x0 :: .ref b :: st) cells slots := v_callVI K (As := [x0, x1]) (C := RX5) (T := TX5) (N := 9) gw_80 gw_81 gw_82 gw_2 gw_83 rfl ⟨rfl, by decide, by decide, (by decide +kernel : (parseMethodDescriptor yX5_begin.desc).map (fun d => d.parameters.length) = some 2)⟩ d he hM hrc hrs hrm rfl hcat hcs kk
theorem cl_L_35 (K : KX p m c cc nL s args cw RL D cA) {mc ms r b : Nat} {fs : List Value} {rm : Room} {x0 x1 : Value} {post : Int32 → PIC → Prop} (d : decode cc pc = .ok (.invokevirtual 35, 3)) (he : pic r = some (b, .inr (9, fs))) (hM : CI l yX6_begin cX6_begin 4 ((some .int)) rm mc ms D cA base pic (.ref b :: [x0, x1]) post) (hrc : rm.cells = mc) (hrs : rm.slots = ms) (hrm : rm.frames + 1 ≤ R.frames ∧ 8 + (4 + 11) + rm.locals ≤ R.locals) (hcat : (st.map fun v => v.category).sum ≤ 8) (hcs : cells + mc ≤ R.cells ∧ slots + ms ≤ R.slots) (kk : ∀ (x : Int32) (pic1 : PIC), post x pic1 → V p l e R s m args below meth c Q D base nL pic1 lv (pc + 3) (.int x :: st) (cells + mc) (slots + ms)) : V p l e R s m args below meth c Q D base nL pic lv (pc) (x1 :: x0 :: .ref b :: st) cells slots := v_callVI K (As := [x0, x1]) (C := RX6) (T := TX6) (N := 24) gw_116 gw_117 gw_118 gw_5 gw_119 rfl ⟨rfl, by decide, by decide, (by decide +kernel : (parseMethodDescriptor yX6_begin.desc).map (fun d => d.parameters.length) = some 2)⟩ d he hM hrc hrs hrm rfl hcat hcs kk
theorem cl_L_38 (K : KX p m c cc nL s args cw RL D cA) {mc ms r b : Nat} {fs : List Value} {rm : Room} {x0 x1 x2 x3 x4 : Value} {post : Int32 → PIC → Prop} (d : decode cc pc = .ok (.invokevirtual 38, 3)) (he : pic r = some (b, .inr (8, fs))) (hM : CI l yX5_tell cX5_tell 7 ((some .int)) rm mc ms D cA base pic (.ref b :: [x0, x1, x2, x3, x4]) post) (hrc : rm.cells = mc) (hrs : rm.slots = ms) (hrm : rm.frames + 1 ≤ R.frames ∧ 8 + (7 + 11) + rm.locals ≤ R.locals) (hcat : (st.map fun v => v.category).sum ≤ 8) (hcs : cells + mc ≤ R.cells ∧ slots + ms ≤ R.slots) (kk : ∀ (x : Int32) (pic1 : PIC), post x pic1 → V p l e R s m args below meth c Q D base nL pic1 lv (pc + 3) (.int x :: st) (cells + mc) (slots + ms)) : V p l e R s m args below meth c Q D base nL pic lv (pc) (x4 :: x3 :: x2 :: x1 :: x0 :: .ref b :: st) cells slots := v_callVI K (As := [x0, x1, x2, x3, x4]) (C := RX5) (T := TX5) (N := 9) gw_138 gw_139 gw_140 gw_2 gw_141 rfl ⟨rfl, by decide, by decide, (by decide +kernel : (parseMethodDescriptor yX5_tell.desc).map (fun d => d.parameters.length) = some 5)⟩ d he hM hrc hrs hrm rfl hcat hcs kk
theorem cl_L_42 (K : KX p m c cc nL s args cw RL D cA) {mc ms r b : Nat} {fs : List Value} {rm : Room} {x0 x1 x2 x3 x4 : Value} {post : Int32 → PIC → Prop} (d : decode cc pc = .ok (.invokevirtual 42, 3)) (he : pic r = some (b, .inr (9, fs))) (hM : CI l yX6_tell cX6_tell 9 ((some .int)) rm mc ms D cA base pic (.ref b :: [x0, x1, x2, x3, x4]) post) (hrc : rm.cells = mc) (hrs : rm.slots = ms) (hrm : rm.frames + 1 ≤ R.frames ∧ 8 + (9 + 11) + rm.locals ≤ R.locals) (hcat : (st.map fun v => v.category).sum ≤ 8) (hcs : cells + mc ≤ R.cells ∧ slots + ms ≤ R.slots) (kk : ∀ (x : Int32) (pic1 : PIC), post x pic1 → V p l e R s m args below meth c Q D base nL pic1 lv (pc + 3) (.int x :: st) (cells + mc) (slots + ms)) : V p l e R s m args below meth c Q D base nL pic lv (pc) (x4 :: x3 :: x2 :: x1 :: x0 :: .ref b :: st) cells slots := v_callVI K (As := [x0, x1, x2, x3, x4]) (C := RX6) (T := TX6) (N := 24) gw_159 gw_160 gw_161 gw_5 gw_162 rfl ⟨rfl, by decide, by decide, (by decide +kernel : (parseMethodDescriptor yX6_tell.desc).map (fun d => d.parameters.length) = some 5)⟩ d he hM hrc hrs hrm rfl hcat hcs kk
theorem cl_L_43 (K : KX p m c cc nL s args cw RL D cA) {mc ms r b : Nat} {fs : List Value} {rm : Room} {x0 : Value} {post : Int32 → PIC → Prop} (d : decode cc pc = .ok (.invokevirtual 43, 3)) (he : pic r = some (b, .inr (8, fs))) (hM : CI l yX5_end cX5_end 2 ((some .int)) rm mc ms D cA base pic (.ref b :: [x0]) post) (hrc : rm.cells = mc) (hrs : rm.slots = ms) (hrm : rm.frames + 1 ≤ R.frames ∧ 8 + (2 + 11) + rm.locals ≤ R.locals) (hcat : (st.map fun v => v.category).sum ≤ 8) (hcs : cells + mc ≤ R.cells ∧ slots + ms ≤ R.slots) (kk : ∀ (x : Int32) (pic1 : PIC), post x pic1 → V p l e R s m args below meth c Q D base nL pic1 lv (pc + 3) (.int x :: st) (cells + mc) (slots + ms)) : V p l e R s m args below meth c Q D base nL pic lv (pc) (x0 :: .ref b :: st) cells slots := v_callVI K (As := [x0]) (C := RX5) (T := TX5) (N := 9) gw_170 gw_171 gw_172 gw_2 gw_173 rfl ⟨rfl, by decide, by decide, (by decide +kernel : (parseMethodDescriptor yX5_end.desc).map (fun d => d.parameters.length) = some 1)⟩ d he hM hrc hrs hrm rfl hcat hcs kk
theorem cl_L_47 (K : KX p m c cc nL s args cw RL D cA) {mc ms r b : Nat} {fs : List Value} {rm : Room} {x0 : Value} {post : Int32 → PIC → Prop} (d : decode cc pc = .ok (.invokevirtual 47, 3)) (he : pic r = some (b, .inr (9, fs))) (hM : CI l yX6_end cX6_end 3 ((some .int)) rm mc ms D cA base pic (.ref b :: [x0]) post) (hrc : rm.cells = mc) (hrs : rm.slots = ms) (hrm : rm.frames + 1 ≤ R.frames ∧ 8 + (3 + 11) + rm.locals ≤ R.locals) (hcat : (st.map fun v => v.category).sum ≤ 8) (hcs : cells + mc ≤ R.cells ∧ slots + ms ≤ R.slots) (kk : ∀ (x : Int32) (pic1 : PIC), post x pic1 → V p l e R s m args below meth c Q D base nL pic1 lv (pc + 3) (.int x :: st) (cells + mc) (slots + ms)) : V p l e R s m args below meth c Q D base nL pic lv (pc) (x0 :: .ref b :: st) cells slots := v_callVI K (As := [x0]) (C := RX6) (T := TX6) (N := 24) gw_175 gw_176 gw_177 gw_5 gw_178 rfl ⟨rfl, by decide, by decide, (by decide +kernel : (parseMethodDescriptor yX6_end.desc).map (fun d => d.parameters.length) = some 1)⟩ d he hM hrc hrs hrm rfl hcat hcs kk
theorem cl_L_48 (K : KX p m c cc nL s args cw RL D cA) {mc ms r b : Nat} {fs : List Value} {rm : Room} {x0 : Value} {post : Int32 → PIC → Prop} (d : decode cc pc = .ok (.invokevirtual 48, 3)) (he : pic r = some (b, .inr (8, fs))) (hM : CI l yX5_told cX5_told 2 ((some .int)) rm mc ms D cA base pic (.ref b :: [x0]) post) (hrc : rm.cells = mc) (hrs : rm.slots = ms) (hrm : rm.frames + 1 ≤ R.frames ∧ 8 + (2 + 11) + rm.locals ≤ R.locals) (hcat : (st.map fun v => v.category).sum ≤ 8) (hcs : cells + mc ≤ R.cells ∧ slots + ms ≤ R.slots) (kk : ∀ (x : Int32) (pic1 : PIC), post x pic1 → V p l e R s m args below meth c Q D base nL pic1 lv (pc + 3) (.int x :: st) (cells + mc) (slots + ms)) : V p l e R s m args below meth c Q D base nL pic lv (pc) (x0 :: .ref b :: st) cells slots := v_callVI K (As := [x0]) (C := RX5) (T := TX5) (N := 9) gw_179 gw_180 gw_181 gw_2 gw_182 rfl ⟨rfl, by decide, by decide, (by decide +kernel : (parseMethodDescriptor yX5_told.desc).map (fun d => d.parameters.length) = some 1)⟩ d he hM hrc hrs hrm rfl hcat hcs kk
theorem cl_L_52 (K : KX p m c cc nL s args cw RL D cA) {mc ms r b : Nat} {fs : List Value} {rm : Room} {x0 : Value} {post : Int32 → PIC → Prop} (d : decode cc pc = .ok (.invokevirtual 52, 3)) (he : pic r = some (b, .inr (9, fs))) (hM : CI l yX6_told cX6_told 2 ((some .int)) rm mc ms D cA base pic (.ref b :: [x0]) post) (hrc : rm.cells = mc) (hrs : rm.slots = ms) (hrm : rm.frames + 1 ≤ R.frames ∧ 8 + (2 + 11) + rm.locals ≤ R.locals) (hcat : (st.map fun v => v.category).sum ≤ 8) (hcs : cells + mc ≤ R.cells ∧ slots + ms ≤ R.slots) (kk : ∀ (x : Int32) (pic1 : PIC), post x pic1 → V p l e R s m args below meth c Q D base nL pic1 lv (pc + 3) (.int x :: st) (cells + mc) (slots + ms)) : V p l e R s m args below meth c Q D base nL pic lv (pc) (x0 :: .ref b :: st) cells slots := v_callVI K (As := [x0]) (C := RX6) (T := TX6) (N := 24) gw_191 gw_192 gw_193 gw_5 gw_194 rfl ⟨rfl, by decide, by decide, (by decide +kernel : (parseMethodDescriptor yX6_told.desc).map (fun d => d.parameters.length) = some 1)⟩ d he hM hrc hrs hrm rfl hcat hcs kk
theorem cl_L_53 (K : KX p m c cc nL s args cw RL D cA) {mc ms r b : Nat} {fs : List Value} {rm : Room} {post : Int32 → PIC → Prop} (d : decode cc pc = .ok (.invokevirtual 53, 3)) (he : pic r = some (b, .inr (8, fs))) (hM : CI l yX5_close cX5_close 2 ((some .int)) rm mc ms D cA base pic (.ref b :: []) post) (hrc : rm.cells = mc) (hrs : rm.slots = ms) (hrm : rm.frames + 1 ≤ R.frames ∧ 8 + (2 + 11) + rm.locals ≤ R.locals) (hcat : (st.map fun v => v.category).sum ≤ 8) (hcs : cells + mc ≤ R.cells ∧ slots + ms ≤ R.slots) (kk : ∀ (x : Int32) (pic1 : PIC), post x pic1 → V p l e R s m args below meth c Q D base nL pic1 lv (pc + 3) (.int x :: st) (cells + mc) (slots + ms)) : V p l e R s m args below meth c Q D base nL pic lv (pc) (.ref b :: st) cells slots := v_callVI K (As := []) (C := RX5) (T := TX5) (N := 9) gw_197 gw_198 gw_199 gw_2 gw_200 rfl ⟨rfl, by decide, by decide, (by decide +kernel : (parseMethodDescriptor yX5_close.desc).map (fun d => d.parameters.length) = some 0)⟩ d he hM hrc hrs hrm rfl hcat hcs kk
theorem cl_L_57 (K : KX p m c cc nL s args cw RL D cA) {mc ms r b : Nat} {fs : List Value} {rm : Room} {post : Int32 → PIC → Prop} (d : decode cc pc = .ok (.invokevirtual 57, 3)) (he : pic r = some (b, .inr (9, fs))) (hM : CI l yX6_close cX6_close 7 ((some .int)) rm mc ms D cA base pic (.ref b :: []) post) (hrc : rm.cells = mc) (hrs : rm.slots = ms) (hrm : rm.frames + 1 ≤ R.frames ∧ 8 + (7 + 11) + rm.locals ≤ R.locals) (hcat : (st.map fun v => v.category).sum ≤ 8) (hcs : cells + mc ≤ R.cells ∧ slots + ms ≤ R.slots) (kk : ∀ (x : Int32) (pic1 : PIC), post x pic1 → V p l e R s m args below meth c Q D base nL pic1 lv (pc + 3) (.int x :: st) (cells + mc) (slots + ms)) : V p l e R s m args below meth c Q D base nL pic lv (pc) (.ref b :: st) cells slots := v_callVI K (As := []) (C := RX6) (T := TX6) (N := 24) gw_244 gw_245 gw_246 gw_5 gw_247 rfl ⟨rfl, by decide, by decide, (by decide +kernel : (parseMethodDescriptor yX6_close.desc).map (fun d => d.parameters.length) = some 0)⟩ d he hM hrc hrs hrm rfl hcat hcs kk
theorem cl_L_58 (K : KX p m c cc nL s args cw RL D cA) {mc ms r b : Nat} {fs : List Value} {rm : Room} {x0 : Value} {post : Int32 → PIC → Prop} (d : decode cc pc = .ok (.invokevirtual 58, 3)) (he : pic r = some (b, .inr (8, fs))) (hM : CI l yX5_back cX5_back 4 ((some .int)) rm mc ms D cA base pic (.ref b :: [x0]) post) (hrc : rm.cells = mc) (hrs : rm.slots = ms) (hrm : rm.frames + 1 ≤ R.frames ∧ 8 + (4 + 11) + rm.locals ≤ R.locals) (hcat : (st.map fun v => v.category).sum ≤ 8) (hcs : cells + mc ≤ R.cells ∧ slots + ms ≤ R.slots) (kk : ∀ (x : Int32) (pic1 : PIC), post x pic1 → V p l e R s m args below meth c Q D base nL pic1 lv (pc + 3) (.int x :: st) (cells + mc) (slots + ms)) : V p l e R s m args below meth c Q D base nL pic lv (pc) (x0 :: .ref b :: st) cells slots := v_callVI K (As := [x0]) (C := RX5) (T := TX5) (N := 9) gw_268 gw_269 gw_270 gw_2 gw_271 rfl ⟨rfl, by decide, by decide, (by decide +kernel : (parseMethodDescriptor yX5_back.desc).map (fun d => d.parameters.length) = some 1)⟩ d he hM hrc hrs hrm rfl hcat hcs kk
theorem cl_L_61 (K : KX p m c cc nL s args cw RL D cA) {mc ms r b : Nat} {fs : List Value} {rm : Room} {x0 : Value} {post : Int32 → PIC → Prop} (d : decode cc pc = .ok (.invokevirtual 61, 3)) (he : pic r = some (b, .inr (9, fs))) (hM : CI l yX6_back cX6_back 4 ((some .int)) rm mc ms D cA base pic (.ref b :: [x0]) post) (hrc : rm.cells = mc) (hrs : rm.slots = ms) (hrm : rm.frames + 1 ≤ R.frames ∧ 8 + (4 + 11) + rm.locals ≤ R.locals) (hcat : (st.map fun v => v.category).sum ≤ 8) (hcs : cells + mc ≤ R.cells ∧ slots + ms ≤ R.slots) (kk : ∀ (x : Int32) (pic1 : PIC), post x pic1 → V p l e R s m args below meth c Q D base nL pic1 lv (pc + 3) (.int x :: st) (cells + mc) (slots + ms)) : V p l e R s m args below meth c Q D base nL pic lv (pc) (x0 :: .ref b :: st) cells slots := v_callVI K (As := [x0]) (C := RX6) (T := TX6) (N := 24) gw_297 gw_298 gw_299 gw_5 gw_300 rfl ⟨rfl, by decide, by decide, (by decide +kernel : (parseMethodDescriptor yX6_back.desc).map (fun d => d.parameters.length) = some 1)⟩ d he hM hrc hrs hrm rfl hcat hcs kk
theorem cl_L_62 (K : KX p m c cc nL s args cw RL D cA) {mc ms r b : Nat} {fs : List Value} {rm : Room} {x0 : Value} {post : Int32 → PIC → Prop} (d : decode cc pc = .ok (.invokevirtual 62, 3)) (he : pic r = some (b, .inr (8, fs))) (hM : CI l yX5_prune cX5_prune 4 ((some .int)) rm mc ms D cA base pic (.ref b :: [x0]) post) (hrc : rm.cells = mc) (hrs : rm.slots = ms) (hrm : rm.frames + 1 ≤ R.frames ∧ 8 + (4 + 11) + rm.locals ≤ R.locals) (hcat : (st.map fun v => v.category).sum ≤ 8) (hcs : cells + mc ≤ R.cells ∧ slots + ms ≤ R.slots) (kk : ∀ (x : Int32) (pic1 : PIC), post x pic1 → V p l e R s m args below meth c Q D base nL pic1 lv (pc + 3) (.int x :: st) (cells + mc) (slots + ms)) : V p l e R s m args below meth c Q D base nL pic lv (pc) (x0 :: .ref b :: st) cells slots := v_callVI K (As := [x0]) (C := RX5) (T := TX5) (N := 9) gw_301 gw_302 gw_303 gw_2 gw_304 rfl ⟨rfl, by decide, by decide, (by decide +kernel : (parseMethodDescriptor yX5_prune.desc).map (fun d => d.parameters.length) = some 1)⟩ d he hM hrc hrs hrm rfl hcat hcs kk
theorem cl_L_65 (K : KX p m c cc nL s args cw RL D cA) {mc ms r b : Nat} {fs : List Value} {rm : Room} {x0 : Value} {post : Int32 → PIC → Prop} (d : decode cc pc = .ok (.invokevirtual 65, 3)) (he : pic r = some (b, .inr (9, fs))) (hM : CI l yX6_prune cX6_prune 3 ((some .int)) rm mc ms D cA base pic (.ref b :: [x0]) post) (hrc : rm.cells = mc) (hrs : rm.slots = ms) (hrm : rm.frames + 1 ≤ R.frames ∧ 8 + (3 + 11) + rm.locals ≤ R.locals) (hcat : (st.map fun v => v.category).sum ≤ 8) (hcs : cells + mc ≤ R.cells ∧ slots + ms ≤ R.slots) (kk : ∀ (x : Int32) (pic1 : PIC), post x pic1 → V p l e R s m args below meth c Q D base nL pic1 lv (pc + 3) (.int x :: st) (cells + mc) (slots + ms)) : V p l e R s m args below meth c Q D base nL pic lv (pc) (x0 :: .ref b :: st) cells slots := v_callVI K (As := [x0]) (C := RX6) (T := TX6) (N := 24) gw_305 gw_306 gw_307 gw_5 gw_308 rfl ⟨rfl, by decide, by decide, (by decide +kernel : (parseMethodDescriptor yX6_prune.desc).map (fun d => d.parameters.length) = some 1)⟩ d he hM hrc hrs hrm rfl hcat hcs kk
theorem cl_L_66 (K : KX p m c cc nL s args cw RL D cA) {mc ms r b : Nat} {fs : List Value} {rm : Room} {x0 x1 : Value} {post : Int32 → PIC → Prop} (d : decode cc pc = .ok (.invokevirtual 66, 3)) (he : pic r = some (b, .inr (8, fs))) (hM : CI l yX5_size cX5_size 4 ((some .int)) rm mc ms D cA base pic (.ref b :: [x0, x1]) post) (hrc : rm.cells = mc) (hrs : rm.slots = ms) (hrm : rm.frames + 1 ≤ R.frames ∧ 8 + (4 + 11) + rm.locals ≤ R.locals) (hcat : (st.map fun v => v.category).sum ≤ 8) (hcs : cells + mc ≤ R.cells ∧ slots + ms ≤ R.slots) (kk : ∀ (x : Int32) (pic1 : PIC), post x pic1 → V p l e R s m args below meth c Q D base nL pic1 lv (pc + 3) (.int x :: st) (cells + mc) (slots + ms)) : V p l e R s m args below meth c Q D base nL pic lv (pc) (x1 :: x0 :: .ref b :: st) cells slots := v_callVI K (As := [x0, x1]) (C := RX5) (T := TX5) (N := 9) gw_313 gw_314 gw_315 gw_2 gw_316 rfl ⟨rfl, by decide, by decide, (by decide +kernel : (parseMethodDescriptor yX5_size.desc).map (fun d => d.parameters.length) = some 2)⟩ d he hM hrc hrs hrm rfl hcat hcs kk
theorem cl_L_70 (K : KX p m c cc nL s args cw RL D cA) {mc ms r b : Nat} {fs : List Value} {rm : Room} {x0 x1 : Value} {post : Int32 → PIC → Prop} (d : decode cc pc = .ok (.invokevirtual 70, 3)) (he : pic r = some (b, .inr (9, fs))) (hM : CI l yX6_size cX6_size 3 ((some .int)) rm mc ms D cA base pic (.ref b :: [x0, x1]) post) (hrc : rm.cells = mc) (hrs : rm.slots = ms) (hrm : rm.frames + 1 ≤ R.frames ∧ 8 + (3 + 11) + rm.locals ≤ R.locals) (hcat : (st.map fun v => v.category).sum ≤ 8) (hcs : cells + mc ≤ R.cells ∧ slots + ms ≤ R.slots) (kk : ∀ (x : Int32) (pic1 : PIC), post x pic1 → V p l e R s m args below meth c Q D base nL pic1 lv (pc + 3) (.int x :: st) (cells + mc) (slots + ms)) : V p l e R s m args below meth c Q D base nL pic lv (pc) (x1 :: x0 :: .ref b :: st) cells slots := v_callVI K (As := [x0, x1]) (C := RX6) (T := TX6) (N := 24) gw_317 gw_318 gw_319 gw_5 gw_320 rfl ⟨rfl, by decide, by decide, (by decide +kernel : (parseMethodDescriptor yX6_size.desc).map (fun d => d.parameters.length) = some 2)⟩ d he hM hrc hrs hrm rfl hcat hcs kk
theorem cl_L_71 (K : KX p m c cc nL s args cw RL D cA) {mc ms r b : Nat} {fs : List Value} {rm : Room} {x0 x1 x2 : Value} {post : Int32 → PIC → Prop} (d : decode cc pc = .ok (.invokevirtual 71, 3)) (he : pic r = some (b, .inr (8, fs))) (hM : CI l yX5_event cX5_event 5 ((some .int)) rm mc ms D cA base pic (.ref b :: [x0, x1, x2]) post) (hrc : rm.cells = mc) (hrs : rm.slots = ms) (hrm : rm.frames + 1 ≤ R.frames ∧ 8 + (5 + 11) + rm.locals ≤ R.locals) (hcat : (st.map fun v => v.category).sum ≤ 8) (hcs : cells + mc ≤ R.cells ∧ slots + ms ≤ R.slots) (kk : ∀ (x : Int32) (pic1 : PIC), post x pic1 → V p l e R s m args below meth c Q D base nL pic1 lv (pc + 3) (.int x :: st) (cells + mc) (slots + ms)) : V p l e R s m args below meth c Q D base nL pic lv (pc) (x2 :: x1 :: x0 :: .ref b :: st) cells slots := v_callVI K (As := [x0, x1, x2]) (C := RX5) (T := TX5) (N := 9) gw_321 gw_322 gw_323 gw_2 gw_324 rfl ⟨rfl, by decide, by decide, (by decide +kernel : (parseMethodDescriptor yX5_event.desc).map (fun d => d.parameters.length) = some 3)⟩ d he hM hrc hrs hrm rfl hcat hcs kk
theorem cl_L_75 (K : KX p m c cc nL s args cw RL D cA) {mc ms r b : Nat} {fs : List Value} {rm : Room} {x0 x1 x2 : Value} {post : Int32 → PIC → Prop} (d : decode cc pc = .ok (.invokevirtual 75, 3)) (he : pic r = some (b, .inr (9, fs))) (hM : CI l yX6_event cX6_event 5 ((some .int)) rm mc ms D cA base pic (.ref b :: [x0, x1, x2]) post) (hrc : rm.cells = mc) (hrs : rm.slots = ms) (hrm : rm.frames + 1 ≤ R.frames ∧ 8 + (5 + 11) + rm.locals ≤ R.locals) (hcat : (st.map fun v => v.category).sum ≤ 8) (hcs : cells + mc ≤ R.cells ∧ slots + ms ≤ R.slots) (kk : ∀ (x : Int32) (pic1 : PIC), post x pic1 → V p l e R s m args below meth c Q D base nL pic1 lv (pc + 3) (.int x :: st) (cells + mc) (slots + ms)) : V p l e R s m args below meth c Q D base nL pic lv (pc) (x2 :: x1 :: x0 :: .ref b :: st) cells slots := v_callVI K (As := [x0, x1, x2]) (C := RX6) (T := TX6) (N := 24) gw_336 gw_337 gw_338 gw_5 gw_339 rfl ⟨rfl, by decide, by decide, (by decide +kernel : (parseMethodDescriptor yX6_event.desc).map (fun d => d.parameters.length) = some 3)⟩ d he hM hrc hrs hrm rfl hcat hcs kk
theorem cl_L_81 (K : KX p m c cc nL s args cw RL D cA) {mc ms r b : Nat} {fs : List Value} {rm : Room} {x0 x1 : Value} {post : Int64 → PIC → Prop} (d : decode cc pc = .ok (.invokevirtual 81, 3)) (he : pic r = some (b, .inr (9, fs))) (hM : CL l yX6_value cX6_value 3 ((some .long)) rm mc ms D cA base pic (.ref b :: [x0, x1]) post) (hrc : rm.cells = mc) (hrs : rm.slots = ms) (hrm : rm.frames + 1 ≤ R.frames ∧ 8 + (3 + 11) + rm.locals ≤ R.locals) (hcat : (st.map fun v => v.category).sum ≤ 8) (hcs : cells + mc ≤ R.cells ∧ slots + ms ≤ R.slots) (kk : ∀ (x : Int64) (pic1 : PIC), post x pic1 → V p l e R s m args below meth c Q D base nL pic1 lv (pc + 3) (.long x :: st) (cells + mc) (slots + ms)) : V p l e R s m args below meth c Q D base nL pic lv (pc) (x1 :: x0 :: .ref b :: st) cells slots := v_callVL K (As := [x0, x1]) (C := RX6) (T := TX6) (N := 24) gw_366 gw_367 gw_368 gw_5 gw_369 rfl ⟨rfl, by decide, by decide, (by decide +kernel : (parseMethodDescriptor yX6_value.desc).map (fun d => d.parameters.length) = some 2)⟩ d he hM hrc hrs hrm rfl hcat hcs kk
theorem cl_L_82 (K : KX p m c cc nL s args cw RL D cA) {mc ms r b : Nat} {fs : List Value} {rm : Room} {post : Int32 → PIC → Prop} (d : decode cc pc = .ok (.invokevirtual 82, 3)) (he : pic r = some (b, .inr (9, fs))) (hM : CI l yX6_thrown cX6_thrown 1 ((some .int)) rm mc ms D cA base pic (.ref b :: []) post) (hrc : rm.cells = mc) (hrs : rm.slots = ms) (hrm : rm.frames + 1 ≤ R.frames ∧ 8 + (1 + 11) + rm.locals ≤ R.locals) (hcat : (st.map fun v => v.category).sum ≤ 8) (hcs : cells + mc ≤ R.cells ∧ slots + ms ≤ R.slots) (kk : ∀ (x : Int32) (pic1 : PIC), post x pic1 → V p l e R s m args below meth c Q D base nL pic1 lv (pc + 3) (.int x :: st) (cells + mc) (slots + ms)) : V p l e R s m args below meth c Q D base nL pic lv (pc) (.ref b :: st) cells slots := v_callVI K (As := []) (C := RX6) (T := TX6) (N := 24) gw_371 gw_372 gw_373 gw_5 gw_374 rfl ⟨rfl, by decide, by decide, (by decide +kernel : (parseMethodDescriptor yX6_thrown.desc).map (fun d => d.parameters.length) = some 0)⟩ d he hM hrc hrs hrm rfl hcat hcs kk
theorem cl_L_88 (K : KX p m c cc nL s args cw RL D cA) {mc ms r b : Nat} {fs : List Value} {rm : Room} {x0 : Value} {post : Int64 → PIC → Prop} (d : decode cc pc = .ok (.invokevirtual 88, 3)) (he : pic r = some (b, .inr (9, fs))) (hM : CL l yX6_root cX6_root 2 ((some .long)) rm mc ms D cA base pic (.ref b :: [x0]) post) (hrc : rm.cells = mc) (hrs : rm.slots = ms) (hrm : rm.frames + 1 ≤ R.frames ∧ 8 + (2 + 11) + rm.locals ≤ R.locals) (hcat : (st.map fun v => v.category).sum ≤ 8) (hcs : cells + mc ≤ R.cells ∧ slots + ms ≤ R.slots) (kk : ∀ (x : Int64) (pic1 : PIC), post x pic1 → V p l e R s m args below meth c Q D base nL pic1 lv (pc + 3) (.long x :: st) (cells + mc) (slots + ms)) : V p l e R s m args below meth c Q D base nL pic lv (pc) (x0 :: .ref b :: st) cells slots := v_callVL K (As := [x0]) (C := RX6) (T := TX6) (N := 24) gw_383 gw_384 gw_385 gw_5 gw_386 rfl ⟨rfl, by decide, by decide, (by decide +kernel : (parseMethodDescriptor yX6_root.desc).map (fun d => d.parameters.length) = some 1)⟩ d he hM hrc hrs hrm rfl hcat hcs kk
theorem cl_L_91 (K : KX p m c cc nL s args cw RL D cA) {mc ms r b : Nat} {fs : List Value} {rm : Room} {x0 : Value} {post : Int64 → PIC → Prop} (d : decode cc pc = .ok (.invokevirtual 91, 3)) (he : pic r = some (b, .inr (9, fs))) (hM : CL l yX6_filter cX6_filter 2 ((some .long)) rm mc ms D cA base pic (.ref b :: [x0]) post) (hrc : rm.cells = mc) (hrs : rm.slots = ms) (hrm : rm.frames + 1 ≤ R.frames ∧ 8 + (2 + 11) + rm.locals ≤ R.locals) (hcat : (st.map fun v => v.category).sum ≤ 8) (hcs : cells + mc ≤ R.cells ∧ slots + ms ≤ R.slots) (kk : ∀ (x : Int64) (pic1 : PIC), post x pic1 → V p l e R s m args below meth c Q D base nL pic1 lv (pc + 3) (.long x :: st) (cells + mc) (slots + ms)) : V p l e R s m args below meth c Q D base nL pic lv (pc) (x0 :: .ref b :: st) cells slots := v_callVL K (As := [x0]) (C := RX6) (T := TX6) (N := 24) gw_395 gw_396 gw_397 gw_5 gw_398 rfl ⟨rfl, by decide, by decide, (by decide +kernel : (parseMethodDescriptor yX6_filter.desc).map (fun d => d.parameters.length) = some 1)⟩ d he hM hrc hrs hrm rfl hcat hcs kk
theorem cl_L_92 (K : KX p m c cc nL s args cw RL D cA) {mc ms r b : Nat} {fs : List Value} {rm : Room} {x0 x1 : Value} {post : Int32 → PIC → Prop} (d : decode cc pc = .ok (.invokevirtual 92, 3)) (he : pic r = some (b, .inr (8, fs))) (hM : CI l yX5_may cX5_may 6 ((some .int)) rm mc ms D cA base pic (.ref b :: [x0, x1]) post) (hrc : rm.cells = mc) (hrs : rm.slots = ms) (hrm : rm.frames + 1 ≤ R.frames ∧ 8 + (6 + 11) + rm.locals ≤ R.locals) (hcat : (st.map fun v => v.category).sum ≤ 8) (hcs : cells + mc ≤ R.cells ∧ slots + ms ≤ R.slots) (kk : ∀ (x : Int32) (pic1 : PIC), post x pic1 → V p l e R s m args below meth c Q D base nL pic1 lv (pc + 3) (.int x :: st) (cells + mc) (slots + ms)) : V p l e R s m args below meth c Q D base nL pic lv (pc) (x1 :: x0 :: .ref b :: st) cells slots := v_callVI K (As := [x0, x1]) (C := RX5) (T := TX5) (N := 9) gw_399 gw_400 gw_401 gw_2 gw_402 rfl ⟨rfl, by decide, by decide, (by decide +kernel : (parseMethodDescriptor yX5_may.desc).map (fun d => d.parameters.length) = some 2)⟩ d he hM hrc hrs hrm rfl hcat hcs kk
theorem cl_L_95 (K : KX p m c cc nL s args cw RL D cA) {mc ms r b : Nat} {fs : List Value} {rm : Room} {x0 x1 : Value} {post : Int32 → PIC → Prop} (d : decode cc pc = .ok (.invokevirtual 95, 3)) (he : pic r = some (b, .inr (9, fs))) (hM : CI l yX6_may cX6_may 3 ((some .int)) rm mc ms D cA base pic (.ref b :: [x0, x1]) post) (hrc : rm.cells = mc) (hrs : rm.slots = ms) (hrm : rm.frames + 1 ≤ R.frames ∧ 8 + (3 + 11) + rm.locals ≤ R.locals) (hcat : (st.map fun v => v.category).sum ≤ 8) (hcs : cells + mc ≤ R.cells ∧ slots + ms ≤ R.slots) (kk : ∀ (x : Int32) (pic1 : PIC), post x pic1 → V p l e R s m args below meth c Q D base nL pic1 lv (pc + 3) (.int x :: st) (cells + mc) (slots + ms)) : V p l e R s m args below meth c Q D base nL pic lv (pc) (x1 :: x0 :: .ref b :: st) cells slots := v_callVI K (As := [x0, x1]) (C := RX6) (T := TX6) (N := 24) gw_404 gw_405 gw_406 gw_5 gw_407 rfl ⟨rfl, by decide, by decide, (by decide +kernel : (parseMethodDescriptor yX6_may.desc).map (fun d => d.parameters.length) = some 2)⟩ d he hM hrc hrs hrm rfl hcat hcs kk
theorem cl_L_96 (K : KX p m c cc nL s args cw RL D cA) {mc ms r b : Nat} {fs : List Value} {rm : Room} {x0 x1 x2 : Value} {post : Int32 → PIC → Prop} (d : decode cc pc = .ok (.invokevirtual 96, 3)) (he : pic r = some (b, .inr (8, fs))) (hM : CI l yX5_find cX5_find 5 ((some .int)) rm mc ms D cA base pic (.ref b :: [x0, x1, x2]) post) (hrc : rm.cells = mc) (hrs : rm.slots = ms) (hrm : rm.frames + 1 ≤ R.frames ∧ 8 + (5 + 11) + rm.locals ≤ R.locals) (hcat : (st.map fun v => v.category).sum ≤ 8) (hcs : cells + mc ≤ R.cells ∧ slots + ms ≤ R.slots) (kk : ∀ (x : Int32) (pic1 : PIC), post x pic1 → V p l e R s m args below meth c Q D base nL pic1 lv (pc + 3) (.int x :: st) (cells + mc) (slots + ms)) : V p l e R s m args below meth c Q D base nL pic lv (pc) (x2 :: x1 :: x0 :: .ref b :: st) cells slots := v_callVI K (As := [x0, x1, x2]) (C := RX5) (T := TX5) (N := 9) gw_408 gw_409 gw_410 gw_2 gw_411 rfl ⟨rfl, by decide, by decide, (by decide +kernel : (parseMethodDescriptor yX5_find.desc).map (fun d => d.parameters.length) = some 3)⟩ d he hM hrc hrs hrm rfl hcat hcs kk
theorem cl_L_99 (K : KX p m c cc nL s args cw RL D cA) {mc ms r b : Nat} {fs : List Value} {rm : Room} {x0 x1 x2 : Value} {post : Int32 → PIC → Prop} (d : decode cc pc = .ok (.invokevirtual 99, 3)) (he : pic r = some (b, .inr (9, fs))) (hM : CI l yX6_find cX6_find 5 ((some .int)) rm mc ms D cA base pic (.ref b :: [x0, x1, x2]) post) (hrc : rm.cells = mc) (hrs : rm.slots = ms) (hrm : rm.frames + 1 ≤ R.frames ∧ 8 + (5 + 11) + rm.locals ≤ R.locals) (hcat : (st.map fun v => v.category).sum ≤ 8) (hcs : cells + mc ≤ R.cells ∧ slots + ms ≤ R.slots) (kk : ∀ (x : Int32) (pic1 : PIC), post x pic1 → V p l e R s m args below meth c Q D base nL pic1 lv (pc + 3) (.int x :: st) (cells + mc) (slots + ms)) : V p l e R s m args below meth c Q D base nL pic lv (pc) (x2 :: x1 :: x0 :: .ref b :: st) cells slots := v_callVI K (As := [x0, x1, x2]) (C := RX6) (T := TX6) (N := 24) gw_420 gw_421 gw_422 gw_5 gw_423 rfl ⟨rfl, by decide, by decide, (by decide +kernel : (parseMethodDescriptor yX6_find.desc).map (fun d => d.parameters.length) = some 3)⟩ d he hM hrc hrs hrm rfl hcat hcs kk
theorem cl_L_100 (K : KX p m c cc nL s args cw RL D cA) {mc ms r b : Nat} {fs : List Value} {rm : Room} {x0 x1 : Value} {post : Int32 → PIC → Prop} (d : decode cc pc = .ok (.invokevirtual 100, 3)) (he : pic r = some (b, .inr (8, fs))) (hM : CI l yX5_path cX5_path 4 ((some .int)) rm mc ms D cA base pic (.ref b :: [x0, x1]) post) (hrc : rm.cells = mc) (hrs : rm.slots = ms) (hrm : rm.frames + 1 ≤ R.frames ∧ 8 + (4 + 11) + rm.locals ≤ R.locals) (hcat : (st.map fun v => v.category).sum ≤ 8) (hcs : cells + mc ≤ R.cells ∧ slots + ms ≤ R.slots) (kk : ∀ (x : Int32) (pic1 : PIC), post x pic1 → V p l e R s m args below meth c Q D base nL pic1 lv (pc + 3) (.int x :: st) (cells + mc) (slots + ms)) : V p l e R s m args below meth c Q D base nL pic lv (pc) (x1 :: x0 :: .ref b :: st) cells slots := v_callVI K (As := [x0, x1]) (C := RX5) (T := TX5) (N := 9) gw_428 gw_429 gw_430 gw_2 gw_431 rfl ⟨rfl, by decide, by decide, (by decide +kernel : (parseMethodDescriptor yX5_path.desc).map (fun d => d.parameters.length) = some 2)⟩ d he hM hrc hrs hrm rfl hcat hcs kk
theorem cl_L_103 (K : KX p m c cc nL s args cw RL D cA) {mc ms r b : Nat} {fs : List Value} {rm : Room} {x0 x1 : Value} {post : Int32 → PIC → Prop} (d : decode cc pc = .ok (.invokevirtual 103, 3)) (he : pic r = some (b, .inr (9, fs))) (hM : CI l yX6_path cX6_path 6 ((some .int)) rm mc ms D cA base pic (.ref b :: [x0, x1]) post) (hrc : rm.cells = mc) (hrs : rm.slots = ms) (hrm : rm.frames + 1 ≤ R.frames ∧ 8 + (6 + 11) + rm.locals ≤ R.locals) (hcat : (st.map fun v => v.category).sum ≤ 8) (hcs : cells + mc ≤ R.cells ∧ slots + ms ≤ R.slots) (kk : ∀ (x : Int32) (pic1 : PIC), post x pic1 → V p l e R s m args below meth c Q D base nL pic1 lv (pc + 3) (.int x :: st) (cells + mc) (slots + ms)) : V p l e R s m args below meth c Q D base nL pic lv (pc) (x1 :: x0 :: .ref b :: st) cells slots := v_callVI K (As := [x0, x1]) (C := RX6) (T := TX6) (N := 24) gw_443 gw_444 gw_445 gw_5 gw_446 rfl ⟨rfl, by decide, by decide, (by decide +kernel : (parseMethodDescriptor yX6_path.desc).map (fun d => d.parameters.length) = some 2)⟩ d he hM hrc hrs hrm rfl hcat hcs kk
theorem cl_L_106 (K : KX p m c cc nL s args cw RL D cA) {mc ms r b : Nat} {fs : List Value} {rm : Room} {x0 : Value} {post : Int64 → PIC → Prop} (d : decode cc pc = .ok (.invokevirtual 106, 3)) (he : pic r = some (b, .inr (9, fs))) (hM : CL l yX6_out cX6_out 2 ((some .long)) rm mc ms D cA base pic (.ref b :: [x0]) post) (hrc : rm.cells = mc) (hrs : rm.slots = ms) (hrm : rm.frames + 1 ≤ R.frames ∧ 8 + (2 + 11) + rm.locals ≤ R.locals) (hcat : (st.map fun v => v.category).sum ≤ 8) (hcs : cells + mc ≤ R.cells ∧ slots + ms ≤ R.slots) (kk : ∀ (x : Int64) (pic1 : PIC), post x pic1 → V p l e R s m args below meth c Q D base nL pic1 lv (pc + 3) (.long x :: st) (cells + mc) (slots + ms)) : V p l e R s m args below meth c Q D base nL pic lv (pc) (x0 :: .ref b :: st) cells slots := v_callVL K (As := [x0]) (C := RX6) (T := TX6) (N := 24) gw_456 gw_457 gw_458 gw_5 gw_459 rfl ⟨rfl, by decide, by decide, (by decide +kernel : (parseMethodDescriptor yX6_out.desc).map (fun d => d.parameters.length) = some 1)⟩ d he hM hrc hrs hrm rfl hcat hcs kk
theorem cl_L_107 (K : KX p m c cc nL s args cw RL D cA) {mc ms r b : Nat} {fs : List Value} {rm : Room} {x0 : Value} {post : Int32 → PIC → Prop} (d : decode cc pc = .ok (.invokevirtual 107, 3)) (he : pic r = some (b, .inr (8, fs))) (hM : CI l yX5_lay cX5_lay 3 ((some .int)) rm mc ms D cA base pic (.ref b :: [x0]) post) (hrc : rm.cells = mc) (hrs : rm.slots = ms) (hrm : rm.frames + 1 ≤ R.frames ∧ 8 + (3 + 11) + rm.locals ≤ R.locals) (hcat : (st.map fun v => v.category).sum ≤ 8) (hcs : cells + mc ≤ R.cells ∧ slots + ms ≤ R.slots) (kk : ∀ (x : Int32) (pic1 : PIC), post x pic1 → V p l e R s m args below meth c Q D base nL pic1 lv (pc + 3) (.int x :: st) (cells + mc) (slots + ms)) : V p l e R s m args below meth c Q D base nL pic lv (pc) (x0 :: .ref b :: st) cells slots := v_callVI K (As := [x0]) (C := RX5) (T := TX5) (N := 9) gw_460 gw_461 gw_462 gw_2 gw_463 rfl ⟨rfl, by decide, by decide, (by decide +kernel : (parseMethodDescriptor yX5_lay.desc).map (fun d => d.parameters.length) = some 1)⟩ d he hM hrc hrs hrm rfl hcat hcs kk
theorem cl_L_111 (K : KX p m c cc nL s args cw RL D cA) {mc ms r b : Nat} {fs : List Value} {rm : Room} {x0 : Value} {post : Int32 → PIC → Prop} (d : decode cc pc = .ok (.invokevirtual 111, 3)) (he : pic r = some (b, .inr (9, fs))) (hM : CI l yX6_lay cX6_lay 3 ((some .int)) rm mc ms D cA base pic (.ref b :: [x0]) post) (hrc : rm.cells = mc) (hrs : rm.slots = ms) (hrm : rm.frames + 1 ≤ R.frames ∧ 8 + (3 + 11) + rm.locals ≤ R.locals) (hcat : (st.map fun v => v.category).sum ≤ 8) (hcs : cells + mc ≤ R.cells ∧ slots + ms ≤ R.slots) (kk : ∀ (x : Int32) (pic1 : PIC), post x pic1 → V p l e R s m args below meth c Q D base nL pic1 lv (pc + 3) (.int x :: st) (cells + mc) (slots + ms)) : V p l e R s m args below meth c Q D base nL pic lv (pc) (x0 :: .ref b :: st) cells slots := v_callVI K (As := [x0]) (C := RX6) (T := TX6) (N := 24) gw_465 gw_466 gw_467 gw_5 gw_468 rfl ⟨rfl, by decide, by decide, (by decide +kernel : (parseMethodDescriptor yX6_lay.desc).map (fun d => d.parameters.length) = some 1)⟩ d he hM hrc hrs hrm rfl hcat hcs kk
theorem cl_L_112 (K : KX p m c cc nL s args cw RL D cA) {mc ms r b : Nat} {fs : List Value} {rm : Room} {post : Int32 → PIC → Prop} (d : decode cc pc = .ok (.invokevirtual 112, 3)) (he : pic r = some (b, .inr (8, fs))) (hM : CI l yX5_wipe cX5_wipe 2 ((some .int)) rm mc ms D cA base pic (.ref b :: []) post) (hrc : rm.cells = mc) (hrs : rm.slots = ms) (hrm : rm.frames + 1 ≤ R.frames ∧ 8 + (2 + 11) + rm.locals ≤ R.locals) (hcat : (st.map fun v => v.category).sum ≤ 8) (hcs : cells + mc ≤ R.cells ∧ slots + ms ≤ R.slots) (kk : ∀ (x : Int32) (pic1 : PIC), post x pic1 → V p l e R s m args below meth c Q D base nL pic1 lv (pc + 3) (.int x :: st) (cells + mc) (slots + ms)) : V p l e R s m args below meth c Q D base nL pic lv (pc) (.ref b :: st) cells slots := v_callVI K (As := []) (C := RX5) (T := TX5) (N := 9) gw_469 gw_470 gw_471 gw_2 gw_472 rfl ⟨rfl, by decide, by decide, (by decide +kernel : (parseMethodDescriptor yX5_wipe.desc).map (fun d => d.parameters.length) = some 0)⟩ d he hM hrc hrs hrm rfl hcat hcs kk
theorem cl_L_115 (K : KX p m c cc nL s args cw RL D cA) {mc ms r b : Nat} {fs : List Value} {rm : Room} {post : Int32 → PIC → Prop} (d : decode cc pc = .ok (.invokevirtual 115, 3)) (he : pic r = some (b, .inr (9, fs))) (hM : CI l yX6_wipe cX6_wipe 2 ((some .int)) rm mc ms D cA base pic (.ref b :: []) post) (hrc : rm.cells = mc) (hrs : rm.slots = ms) (hrm : rm.frames + 1 ≤ R.frames ∧ 8 + (2 + 11) + rm.locals ≤ R.locals) (hcat : (st.map fun v => v.category).sum ≤ 8) (hcs : cells + mc ≤ R.cells ∧ slots + ms ≤ R.slots) (kk : ∀ (x : Int32) (pic1 : PIC), post x pic1 → V p l e R s m args below meth c Q D base nL pic1 lv (pc + 3) (.int x :: st) (cells + mc) (slots + ms)) : V p l e R s m args below meth c Q D base nL pic lv (pc) (.ref b :: st) cells slots := v_callVI K (As := []) (C := RX6) (T := TX6) (N := 24) gw_473 gw_474 gw_475 gw_5 gw_476 rfl ⟨rfl, by decide, by decide, (by decide +kernel : (parseMethodDescriptor yX6_wipe.desc).map (fun d => d.parameters.length) = some 0)⟩ d he hM hrc hrs hrm rfl hcat hcs kk
theorem cl_L_116 (K : KX p m c cc nL s args cw RL D cA) {mc ms r b : Nat} {fs : List Value} {rm : Room} {x0 x1 x2 x3 x4 x5 x6 : Value} {post : Int32 → PIC → Prop} (d : decode cc pc = .ok (.invokevirtual 116, 3)) (he : pic r = some (b, .inr (8, fs))) (hM : CI l yX5_proved cX5_proved 12 ((some .int)) rm mc ms D cA base pic (.ref b :: [x0, x1, x2, x3, x4, x5, x6]) post) (hrc : rm.cells = mc) (hrs : rm.slots = ms) (hrm : rm.frames + 1 ≤ R.frames ∧ 8 + (12 + 11) + rm.locals ≤ R.locals) (hcat : (st.map fun v => v.category).sum ≤ 8) (hcs : cells + mc ≤ R.cells ∧ slots + ms ≤ R.slots) (kk : ∀ (x : Int32) (pic1 : PIC), post x pic1 → V p l e R s m args below meth c Q D base nL pic1 lv (pc + 3) (.int x :: st) (cells + mc) (slots + ms)) : V p l e R s m args below meth c Q D base nL pic lv (pc) (x6 :: x5 :: x4 :: x3 :: x2 :: x1 :: x0 :: .ref b :: st) cells slots := v_callVI K (As := [x0, x1, x2, x3, x4, x5, x6]) (C := RX5) (T := TX5) (N := 9) gw_477 gw_478 gw_479 gw_2 gw_480 rfl ⟨rfl, by decide, by decide, (by decide +kernel : (parseMethodDescriptor yX5_proved.desc).map (fun d => d.parameters.length) = some 7)⟩ d he hM hrc hrs hrm rfl hcat hcs kk
theorem cl_L_120 (K : KX p m c cc nL s args cw RL D cA) {mc ms r b : Nat} {fs : List Value} {rm : Room} {x0 x1 x2 x3 x4 x5 x6 : Value} {post : Int32 → PIC → Prop} (d : decode cc pc = .ok (.invokevirtual 120, 3)) (he : pic r = some (b, .inr (9, fs))) (hM : CI l yX6_proved cX6_proved 18 ((some .int)) rm mc ms D cA base pic (.ref b :: [x0, x1, x2, x3, x4, x5, x6]) post) (hrc : rm.cells = mc) (hrs : rm.slots = ms) (hrm : rm.frames + 1 ≤ R.frames ∧ 8 + (18 + 11) + rm.locals ≤ R.locals) (hcat : (st.map fun v => v.category).sum ≤ 8) (hcs : cells + mc ≤ R.cells ∧ slots + ms ≤ R.slots) (kk : ∀ (x : Int32) (pic1 : PIC), post x pic1 → V p l e R s m args below meth c Q D base nL pic1 lv (pc + 3) (.int x :: st) (cells + mc) (slots + ms)) : V p l e R s m args below meth c Q D base nL pic lv (pc) (x6 :: x5 :: x4 :: x3 :: x2 :: x1 :: x0 :: .ref b :: st) cells slots := v_callVI K (As := [x0, x1, x2, x3, x4, x5, x6]) (C := RX6) (T := TX6) (N := 24) gw_486 gw_487 gw_488 gw_5 gw_489 rfl ⟨rfl, by decide, by decide, (by decide +kernel : (parseMethodDescriptor yX6_proved.desc).map (fun d => d.parameters.length) = some 7)⟩ d he hM hrc hrs hrm rfl hcat hcs kk
theorem cl_L_121 (K : KX p m c cc nL s args cw RL D cA) {mc ms r b : Nat} {fs : List Value} {rm : Room} {x0 x1 : Value} {post : Int32 → PIC → Prop} (d : decode cc pc = .ok (.invokevirtual 121, 3)) (he : pic r = some (b, .inr (8, fs))) (hM : CI l yX5_subscribe cX5_subscribe 3 ((some .int)) rm mc ms D cA base pic (.ref b :: [x0, x1]) post) (hrc : rm.cells = mc) (hrs : rm.slots = ms) (hrm : rm.frames + 1 ≤ R.frames ∧ 8 + (3 + 11) + rm.locals ≤ R.locals) (hcat : (st.map fun v => v.category).sum ≤ 8) (hcs : cells + mc ≤ R.cells ∧ slots + ms ≤ R.slots) (kk : ∀ (x : Int32) (pic1 : PIC), post x pic1 → V p l e R s m args below meth c Q D base nL pic1 lv (pc + 3) (.int x :: st) (cells + mc) (slots + ms)) : V p l e R s m args below meth c Q D base nL pic lv (pc) (x1 :: x0 :: .ref b :: st) cells slots := v_callVI K (As := [x0, x1]) (C := RX5) (T := TX5) (N := 9) gw_490 gw_491 gw_492 gw_2 gw_493 rfl ⟨rfl, by decide, by decide, (by decide +kernel : (parseMethodDescriptor yX5_subscribe.desc).map (fun d => d.parameters.length) = some 2)⟩ d he hM hrc hrs hrm rfl hcat hcs kk
theorem cl_L_124 (K : KX p m c cc nL s args cw RL D cA) {mc ms r b : Nat} {fs : List Value} {rm : Room} {x0 x1 : Value} {post : Int32 → PIC → Prop} (d : decode cc pc = .ok (.invokevirtual 124, 3)) (he : pic r = some (b, .inr (9, fs))) (hM : CI l yX6_subscribe cX6_subscribe 3 ((some .int)) rm mc ms D cA base pic (.ref b :: [x0, x1]) post) (hrc : rm.cells = mc) (hrs : rm.slots = ms) (hrm : rm.frames + 1 ≤ R.frames ∧ 8 + (3 + 11) + rm.locals ≤ R.locals) (hcat : (st.map fun v => v.category).sum ≤ 8) (hcs : cells + mc ≤ R.cells ∧ slots + ms ≤ R.slots) (kk : ∀ (x : Int32) (pic1 : PIC), post x pic1 → V p l e R s m args below meth c Q D base nL pic1 lv (pc + 3) (.int x :: st) (cells + mc) (slots + ms)) : V p l e R s m args below meth c Q D base nL pic lv (pc) (x1 :: x0 :: .ref b :: st) cells slots := v_callVI K (As := [x0, x1]) (C := RX6) (T := TX6) (N := 24) gw_500 gw_501 gw_502 gw_5 gw_503 rfl ⟨rfl, by decide, by decide, (by decide +kernel : (parseMethodDescriptor yX6_subscribe.desc).map (fun d => d.parameters.length) = some 2)⟩ d he hM hrc hrs hrm rfl hcat hcs kk
theorem cl_L_125 (K : KX p m c cc nL s args cw RL D cA) {mc ms r b : Nat} {fs : List Value} {rm : Room} {x0 : Value} {post : Int32 → PIC → Prop} (d : decode cc pc = .ok (.invokevirtual 125, 3)) (he : pic r = some (b, .inr (8, fs))) (hM : CI l yX5_next cX5_next 6 ((some .int)) rm mc ms D cA base pic (.ref b :: [x0]) post) (hrc : rm.cells = mc) (hrs : rm.slots = ms) (hrm : rm.frames + 1 ≤ R.frames ∧ 8 + (6 + 11) + rm.locals ≤ R.locals) (hcat : (st.map fun v => v.category).sum ≤ 8) (hcs : cells + mc ≤ R.cells ∧ slots + ms ≤ R.slots) (kk : ∀ (x : Int32) (pic1 : PIC), post x pic1 → V p l e R s m args below meth c Q D base nL pic1 lv (pc + 3) (.int x :: st) (cells + mc) (slots + ms)) : V p l e R s m args below meth c Q D base nL pic lv (pc) (x0 :: .ref b :: st) cells slots := v_callVI K (As := [x0]) (C := RX5) (T := TX5) (N := 9) gw_504 gw_505 gw_506 gw_2 gw_507 rfl ⟨rfl, by decide, by decide, (by decide +kernel : (parseMethodDescriptor yX5_next.desc).map (fun d => d.parameters.length) = some 1)⟩ d he hM hrc hrs hrm rfl hcat hcs kk
theorem cl_L_128 (K : KX p m c cc nL s args cw RL D cA) {mc ms r b : Nat} {fs : List Value} {rm : Room} {x0 : Value} {post : Int32 → PIC → Prop} (d : decode cc pc = .ok (.invokevirtual 128, 3)) (he : pic r = some (b, .inr (9, fs))) (hM : CI l yX6_next cX6_next 4 ((some .int)) rm mc ms D cA base pic (.ref b :: [x0]) post) (hrc : rm.cells = mc) (hrs : rm.slots = ms) (hrm : rm.frames + 1 ≤ R.frames ∧ 8 + (4 + 11) + rm.locals ≤ R.locals) (hcat : (st.map fun v => v.category).sum ≤ 8) (hcs : cells + mc ≤ R.cells ∧ slots + ms ≤ R.slots) (kk : ∀ (x : Int32) (pic1 : PIC), post x pic1 → V p l e R s m args below meth c Q D base nL pic1 lv (pc + 3) (.int x :: st) (cells + mc) (slots + ms)) : V p l e R s m args below meth c Q D base nL pic lv (pc) (x0 :: .ref b :: st) cells slots := v_callVI K (As := [x0]) (C := RX6) (T := TX6) (N := 24) gw_514 gw_515 gw_516 gw_5 gw_517 rfl ⟨rfl, by decide, by decide, (by decide +kernel : (parseMethodDescriptor yX6_next.desc).map (fun d => d.parameters.length) = some 1)⟩ d he hM hrc hrs hrm rfl hcat hcs kk
theorem cl_L_129 (K : KX p m c cc nL s args cw RL D cA) {mc ms r b : Nat} {fs : List Value} {rm : Room} {x0 : Value} {post : Int32 → PIC → Prop} (d : decode cc pc = .ok (.invokevirtual 129, 3)) (he : pic r = some (b, .inr (8, fs))) (hM : CI l yX5_place cX5_place 3 ((some .int)) rm mc ms D cA base pic (.ref b :: [x0]) post) (hrc : rm.cells = mc) (hrs : rm.slots = ms) (hrm : rm.frames + 1 ≤ R.frames ∧ 8 + (3 + 11) + rm.locals ≤ R.locals) (hcat : (st.map fun v => v.category).sum ≤ 8) (hcs : cells + mc ≤ R.cells ∧ slots + ms ≤ R.slots) (kk : ∀ (x : Int32) (pic1 : PIC), post x pic1 → V p l e R s m args below meth c Q D base nL pic1 lv (pc + 3) (.int x :: st) (cells + mc) (slots + ms)) : V p l e R s m args below meth c Q D base nL pic lv (pc) (x0 :: .ref b :: st) cells slots := v_callVI K (As := [x0]) (C := RX5) (T := TX5) (N := 9) gw_518 gw_519 gw_520 gw_2 gw_521 rfl ⟨rfl, by decide, by decide, (by decide +kernel : (parseMethodDescriptor yX5_place.desc).map (fun d => d.parameters.length) = some 1)⟩ d he hM hrc hrs hrm rfl hcat hcs kk
theorem cl_L_132 (K : KX p m c cc nL s args cw RL D cA) {mc ms r b : Nat} {fs : List Value} {rm : Room} {x0 : Value} {post : Int32 → PIC → Prop} (d : decode cc pc = .ok (.invokevirtual 132, 3)) (he : pic r = some (b, .inr (9, fs))) (hM : CI l yX6_place cX6_place 2 ((some .int)) rm mc ms D cA base pic (.ref b :: [x0]) post) (hrc : rm.cells = mc) (hrs : rm.slots = ms) (hrm : rm.frames + 1 ≤ R.frames ∧ 8 + (2 + 11) + rm.locals ≤ R.locals) (hcat : (st.map fun v => v.category).sum ≤ 8) (hcs : cells + mc ≤ R.cells ∧ slots + ms ≤ R.slots) (kk : ∀ (x : Int32) (pic1 : PIC), post x pic1 → V p l e R s m args below meth c Q D base nL pic1 lv (pc + 3) (.int x :: st) (cells + mc) (slots + ms)) : V p l e R s m args below meth c Q D base nL pic lv (pc) (x0 :: .ref b :: st) cells slots := v_callVI K (As := [x0]) (C := RX6) (T := TX6) (N := 24) gw_522 gw_523 gw_524 gw_5 gw_525 rfl ⟨rfl, by decide, by decide, (by decide +kernel : (parseMethodDescriptor yX6_place.desc).map (fun d => d.parameters.length) = some 1)⟩ d he hM hrc hrs hrm rfl hcat hcs kk
theorem cl_X0_46 (K : KX p m c cc nL s args cw RX0 D cA) {mc ms r b : Nat} {fs : List Value} {rm : Room} {x0 : Value} {post : Int64 → PIC → Prop} (d : decode cc pc = .ok (.invokevirtual 46, 3)) (he : pic r = some (b, .inr (3, fs))) (hM : CL l yX0_topicBits cX0_topicBits 4 ((some .long)) rm mc ms D cA base pic (.ref b :: [x0]) post) (hrc : rm.cells = mc) (hrs : rm.slots = ms) (hrm : rm.frames + 1 ≤ R.frames ∧ 8 + (4 + 11) + rm.locals ≤ R.locals) (hcat : (st.map fun v => v.category).sum ≤ 8) (hcs : cells + mc ≤ R.cells ∧ slots + ms ≤ R.slots) (kk : ∀ (x : Int64) (pic1 : PIC), post x pic1 → V p l e R s m args below meth c Q D base nL pic1 lv (pc + 3) (.long x :: st) (cells + mc) (slots + ms)) : V p l e R s m args below meth c Q D base nL pic lv (pc) (x0 :: .ref b :: st) cells slots := v_callVL K (As := [x0]) (C := RX0) (T := TX0) (N := 10) gw_234 gw_235 gw_236 gw_31 gw_237 rfl ⟨rfl, by decide, by decide, (by decide +kernel : (parseMethodDescriptor yX0_topicBits.desc).map (fun d => d.parameters.length) = some 1)⟩ d he hM hrc hrs hrm rfl hcat hcs kk
theorem cl_X0_50 (K : KX p m c cc nL s args cw RX0 D cA) {mc ms : Nat} {rm : Room} {x0 : Value} {post : Int64 → PIC → Prop} (d : decode cc pc = .ok (.invokestatic 50, 3)) (hM : CL l yX5_bitsOf cX5_bitsOf 1 ((some .long)) rm mc ms D cA base pic [x0] post) (hrc : rm.cells = mc) (hrs : rm.slots = ms) (hrm : rm.frames + 1 ≤ R.frames ∧ 8 + (1 + 11) + rm.locals ≤ R.locals) (hcat : (st.map fun v => v.category).sum ≤ 8) (hcs : cells + mc ≤ R.cells ∧ slots + ms ≤ R.slots) (kk : ∀ (x : Int64) (pic1 : PIC), post x pic1 → V p l e R s m args below meth c Q D base nL pic1 lv (pc + 3) (.long x :: st) (cells + mc) (slots + ms)) : V p l e R s m args below meth c Q D base nL pic lv (pc) (x0 :: st) cells slots := v_callSNL K (As := [x0]) (List.mem_of_getElem? (i := 6) rfl) gw_238 gw_2 gw_239 ⟨by decide, by decide, (by decide +kernel : (parseMethodDescriptor yX5_bitsOf.desc).map (fun d => d.parameters.length) = some 1)⟩ d hM hrc hrs hrm rfl hcat hcs kk
theorem cl_X0_53 (K : KX p m c cc nL s args cw RX0 D cA) {mc ms : Nat} {rm : Room} {x0 x1 : Value} {post : Int32 → PIC → Prop} (d : decode cc pc = .ok (.invokestatic 53, 3)) (hM : CI l yX5_topicCount cX5_topicCount 2 ((some .int)) rm mc ms D cA base pic [x0, x1] post) (hrc : rm.cells = mc) (hrs : rm.slots = ms) (hrm : rm.frames + 1 ≤ R.frames ∧ 8 + (2 + 11) + rm.locals ≤ R.locals) (hcat : (st.map fun v => v.category).sum ≤ 8) (hcs : cells + mc ≤ R.cells ∧ slots + ms ≤ R.slots) (kk : ∀ (x : Int32) (pic1 : PIC), post x pic1 → V p l e R s m args below meth c Q D base nL pic1 lv (pc + 3) (.int x :: st) (cells + mc) (slots + ms)) : V p l e R s m args below meth c Q D base nL pic lv (pc) (x1 :: x0 :: st) cells slots := v_callSNI K (As := [x0, x1]) (List.mem_of_getElem? (i := 7) rfl) gw_152 gw_2 gw_153 ⟨by decide, by decide, (by decide +kernel : (parseMethodDescriptor yX5_topicCount.desc).map (fun d => d.parameters.length) = some 2)⟩ d hM hrc hrs hrm rfl hcat hcs kk
theorem cl_X0_57 (K : KX p m c cc nL s args cw RX0 D cA) {mc ms : Nat} {rm : Room} {x0 : Value} {post : Int32 → PIC → Prop} (d : decode cc pc = .ok (.invokestatic 57, 3)) (hM : CI l yX0_topicOrNone cX0_topicOrNone 1 ((some .int)) rm mc ms D cA base pic [x0] post) (hrc : rm.cells = mc) (hrs : rm.slots = ms) (hrm : rm.frames + 1 ≤ R.frames ∧ 8 + (1 + 11) + rm.locals ≤ R.locals) (hcat : (st.map fun v => v.category).sum ≤ 8) (hcs : cells + mc ≤ R.cells ∧ slots + ms ≤ R.slots) (kk : ∀ (x : Int32) (pic1 : PIC), post x pic1 → V p l e R s m args below meth c Q D base nL pic1 lv (pc + 3) (.int x :: st) (cells + mc) (slots + ms)) : V p l e R s m args below meth c Q D base nL pic lv (pc) (x0 :: st) cells slots := v_callSI K (As := [x0]) gw_333 gw_334 gw_31 gw_335 ⟨by decide, by decide, (by decide +kernel : (parseMethodDescriptor yX0_topicOrNone.desc).map (fun d => d.parameters.length) = some 1)⟩ d hM hrc hrs hrm rfl hcat hcs kk
theorem cl_X0_61 (K : KX p m c cc nL s args cw RX0 D cA) {mc ms r b : Nat} {fs : List Value} {rm : Room} {x0 x1 : Value} {post : Int32 → PIC → Prop} (d : decode cc pc = .ok (.invokevirtual 61, 3)) (he : pic r = some (b, .inr (3, fs))) (hM : CI l yX0_hasTopic cX0_hasTopic 3 ((some .boolean)) rm mc ms D cA base pic (.ref b :: [x0, x1]) post) (hrc : rm.cells = mc) (hrs : rm.slots = ms) (hrm : rm.frames + 1 ≤ R.frames ∧ 8 + (3 + 11) + rm.locals ≤ R.locals) (hcat : (st.map fun v => v.category).sum ≤ 8) (hcs : cells + mc ≤ R.cells ∧ slots + ms ≤ R.slots) (kk : ∀ (x : Int32) (pic1 : PIC), post x pic1 → V p l e R s m args below meth c Q D base nL pic1 lv (pc + 3) (.int x :: st) (cells + mc) (slots + ms)) : V p l e R s m args below meth c Q D base nL pic lv (pc) (x1 :: x0 :: .ref b :: st) cells slots := v_callVI K (As := [x0, x1]) (C := RX0) (T := TX0) (N := 10) gw_416 gw_417 gw_418 gw_31 gw_419 rfl ⟨rfl, by decide, by decide, (by decide +kernel : (parseMethodDescriptor yX0_hasTopic.desc).map (fun d => d.parameters.length) = some 2)⟩ d he hM hrc hrs hrm rfl hcat hcs kk
theorem cl_X0_65 (K : KX p m c cc nL s args cw RX0 D cA) {mc ms : Nat} {rm : Room} {x0 x1 x2 x3 x4 x5 : Value} {post : Int64 → PIC → Prop} (d : decode cc pc = .ok (.invokestatic 65, 3)) (hM : CL l yX5_leafOf cX5_leafOf 9 ((some .long)) rm mc ms D cA base pic [x0, x1, x2, x3, x4, x5] post) (hrc : rm.cells = mc) (hrs : rm.slots = ms) (hrm : rm.frames + 1 ≤ R.frames ∧ 8 + (9 + 11) + rm.locals ≤ R.locals) (hcat : (st.map fun v => v.category).sum ≤ 8) (hcs : cells + mc ≤ R.cells ∧ slots + ms ≤ R.slots) (kk : ∀ (x : Int64) (pic1 : PIC), post x pic1 → V p l e R s m args below meth c Q D base nL pic1 lv (pc + 3) (.long x :: st) (cells + mc) (slots + ms)) : V p l e R s m args below meth c Q D base nL pic lv (pc) (x5 :: x4 :: x3 :: x2 :: x1 :: x0 :: st) cells slots := v_callSNL K (As := [x0, x1, x2, x3, x4, x5]) (List.mem_of_getElem? (i := 4) rfl) gw_215 gw_2 gw_216 ⟨by decide, by decide, (by decide +kernel : (parseMethodDescriptor yX5_leafOf.desc).map (fun d => d.parameters.length) = some 6)⟩ d hM hrc hrs hrm rfl hcat hcs kk
theorem cl_X1_29 (K : KX p m c cc nL s args cw RX1 D cA) {mc ms r b : Nat} {fs : List Value} {rm : Room} {post : Int32 → PIC → Prop} (d : decode cc pc = .ok (.invokevirtual 29, 3)) (he : pic r = some (b, .inr (4, fs))) (hM : CI l yX1_leftOfInnermost cX1_leftOfInnermost 1 ((some .int)) rm mc ms D cA base pic (.ref b :: []) post) (hrc : rm.cells = mc) (hrs : rm.slots = ms) (hrm : rm.frames + 1 ≤ R.frames ∧ 8 + (1 + 11) + rm.locals ≤ R.locals) (hcat : (st.map fun v => v.category).sum ≤ 8) (hcs : cells + mc ≤ R.cells ∧ slots + ms ≤ R.slots) (kk : ∀ (x : Int32) (pic1 : PIC), post x pic1 → V p l e R s m args below meth c Q D base nL pic1 lv (pc + 3) (.int x :: st) (cells + mc) (slots + ms)) : V p l e R s m args below meth c Q D base nL pic lv (pc) (.ref b :: st) cells slots := v_callVI K (As := []) (C := RX1) (T := TX1) (N := 5) gw_91 gw_92 gw_93 gw_16 gw_94 rfl ⟨rfl, by decide, by decide, (by decide +kernel : (parseMethodDescriptor yX1_leftOfInnermost.desc).map (fun d => d.parameters.length) = some 0)⟩ d he hM hrc hrs hrm rfl hcat hcs kk
theorem cl_X1_44 (K : KX p m c cc nL s args cw RX1 D cA) {mc ms r b : Nat} {fs : List Value} {rm : Room} {post : Int32 → PIC → Prop} (d : decode cc pc = .ok (.invokevirtual 44, 3)) (he : pic r = some (b, .inr (4, fs))) (hM : CI l yX1_pop cX1_pop 2 ((some .int)) rm mc ms D cA base pic (.ref b :: []) post) (hrc : rm.cells = mc) (hrs : rm.slots = ms) (hrm : rm.frames + 1 ≤ R.frames ∧ 8 + (2 + 11) + rm.locals ≤ R.locals) (hcat : (st.map fun v => v.category).sum ≤ 8) (hcs : cells + mc ≤ R.cells ∧ slots + ms ≤ R.slots) (kk : ∀ (x : Int32) (pic1 : PIC), post x pic1 → V p l e R s m args below meth c Q D base nL pic1 lv (pc + 3) (.int x :: st) (cells + mc) (slots + ms)) : V p l e R s m args below meth c Q D base nL pic lv (pc) (.ref b :: st) cells slots := v_callVI K (As := []) (C := RX1) (T := TX1) (N := 5) gw_104 gw_105 gw_106 gw_16 gw_107 rfl ⟨rfl, by decide, by decide, (by decide +kernel : (parseMethodDescriptor yX1_pop.desc).map (fun d => d.parameters.length) = some 0)⟩ d he hM hrc hrs hrm rfl hcat hcs kk
theorem cl_X2_19 (K : KX p m c cc nL s args cw RX2 D cA) {mc ms : Nat} {rm : Room} {x0 x1 : Value} {post : Int64 → PIC → Prop} (d : decode cc pc = .ok (.invokestatic 19, 3)) (hM : CL l yX5_mix cX5_mix 6 ((some .long)) rm mc ms D cA base pic [x0, x1] post) (hrc : rm.cells = mc) (hrs : rm.slots = ms) (hrm : rm.frames + 1 ≤ R.frames ∧ 8 + (6 + 11) + rm.locals ≤ R.locals) (hcat : (st.map fun v => v.category).sum ≤ 8) (hcs : cells + mc ≤ R.cells ∧ slots + ms ≤ R.slots) (kk : ∀ (x : Int64) (pic1 : PIC), post x pic1 → V p l e R s m args below meth c Q D base nL pic1 lv (pc + 3) (.long x :: st) (cells + mc) (slots + ms)) : V p l e R s m args below meth c Q D base nL pic lv (pc) (x1 :: x0 :: st) cells slots := v_callSNL K (As := [x0, x1]) (List.mem_of_getElem? (i := 8) rfl) gw_218 gw_2 gw_219 ⟨by decide, by decide, (by decide +kernel : (parseMethodDescriptor yX5_mix.desc).map (fun d => d.parameters.length) = some 2)⟩ d hM hrc hrs hrm rfl hcat hcs kk
theorem cl_X4_24 (K : KX p m c cc nL s args cw RX4 D cA) {mc ms r b : Nat} {fs : List Value} {rm : Room} {x0 : Value} {post : Int64 → PIC → Prop} (d : decode cc pc = .ok (.invokevirtual 24, 3)) (he : pic r = some (b, .inr (3, fs))) (hM : CL l yX0_leaf cX0_leaf 2 ((some .long)) rm mc ms D cA base pic (.ref b :: [x0]) post) (hrc : rm.cells = mc) (hrs : rm.slots = ms) (hrm : rm.frames + 1 ≤ R.frames ∧ 8 + (2 + 11) + rm.locals ≤ R.locals) (hcat : (st.map fun v => v.category).sum ≤ 8) (hcs : cells + mc ≤ R.cells ∧ slots + ms ≤ R.slots) (kk : ∀ (x : Int64) (pic1 : PIC), post x pic1 → V p l e R s m args below meth c Q D base nL pic1 lv (pc + 3) (.long x :: st) (cells + mc) (slots + ms)) : V p l e R s m args below meth c Q D base nL pic lv (pc) (x0 :: .ref b :: st) cells slots := v_callVL K (As := [x0]) (C := RX0) (T := TX0) (N := 10) gw_211 gw_212 gw_213 gw_31 gw_214 rfl ⟨rfl, by decide, by decide, (by decide +kernel : (parseMethodDescriptor yX0_leaf.desc).map (fun d => d.parameters.length) = some 1)⟩ d he hM hrc hrs hrm rfl hcat hcs kk
theorem cl_X4_28 (K : KX p m c cc nL s args cw RX4 D cA) {mc ms : Nat} {rm : Room} {x0 x1 : Value} {post : Int64 → PIC → Prop} (d : decode cc pc = .ok (.invokestatic 28, 3)) (hM : CL l yX5_mix cX5_mix 6 ((some .long)) rm mc ms D cA base pic [x0, x1] post) (hrc : rm.cells = mc) (hrs : rm.slots = ms) (hrm : rm.frames + 1 ≤ R.frames ∧ 8 + (6 + 11) + rm.locals ≤ R.locals) (hcat : (st.map fun v => v.category).sum ≤ 8) (hcs : cells + mc ≤ R.cells ∧ slots + ms ≤ R.slots) (kk : ∀ (x : Int64) (pic1 : PIC), post x pic1 → V p l e R s m args below meth c Q D base nL pic1 lv (pc + 3) (.long x :: st) (cells + mc) (slots + ms)) : V p l e R s m args below meth c Q D base nL pic lv (pc) (x1 :: x0 :: st) cells slots := v_callSNL K (As := [x0, x1]) (List.mem_of_getElem? (i := 5) rfl) gw_218 gw_2 gw_219 ⟨by decide, by decide, (by decide +kernel : (parseMethodDescriptor yX5_mix.desc).map (fun d => d.parameters.length) = some 2)⟩ d hM hrc hrs hrm rfl hcat hcs kk
theorem cl_X4_32 (K : KX p m c cc nL s args cw RX4 D cA) {mc ms r b : Nat} {fs : List Value} {rm : Room} {x0 : Value} {post : PIC → Prop} (d : decode cc pc = .ok (.invokevirtual 32, 3)) (he : pic r = some (b, .inr (7, fs))) (hM : CV l yX4_plant cX4_plant 3 (none) rm mc ms D cA base pic (.ref b :: [x0]) post) (hrc : rm.cells = mc) (hrs : rm.slots = ms) (hrm : rm.frames + 1 ≤ R.frames ∧ 8 + (3 + 11) + rm.locals ≤ R.locals) (hcat : (st.map fun v => v.category).sum ≤ 8) (hcs : cells + mc ≤ R.cells ∧ slots + ms ≤ R.slots) (kk : ∀ pic1 : PIC, post pic1 → V p l e R s m args below meth c Q D base nL pic1 lv (pc + 3) (st) (cells + mc) (slots + ms)) : V p l e R s m args below meth c Q D base nL pic lv (pc) (x0 :: .ref b :: st) cells slots := v_callVV K (As := [x0]) (C := RX4) (T := TX4) (N := 2) gw_206 gw_207 gw_208 gw_22 gw_209 rfl ⟨rfl, by decide, by decide, (by decide +kernel : (parseMethodDescriptor yX4_plant.desc).map (fun d => d.parameters.length) = some 1)⟩ d he hM hrc hrs hrm rfl hcat hcs kk
theorem cl_X4_36 (K : KX p m c cc nL s args cw RX4 D cA) {mc ms r b : Nat} {fs : List Value} {rm : Room} {post : PIC → Prop} (d : decode cc pc = .ok (.invokevirtual 36, 3)) (he : pic r = some (b, .inr (7, fs))) (hM : CV l yX4_rise cX4_rise 3 (none) rm mc ms D cA base pic (.ref b :: []) post) (hrc : rm.cells = mc) (hrs : rm.slots = ms) (hrm : rm.frames + 1 ≤ R.frames ∧ 8 + (3 + 11) + rm.locals ≤ R.locals) (hcat : (st.map fun v => v.category).sum ≤ 8) (hcs : cells + mc ≤ R.cells ∧ slots + ms ≤ R.slots) (kk : ∀ pic1 : PIC, post pic1 → V p l e R s m args below meth c Q D base nL pic1 lv (pc + 3) (st) (cells + mc) (slots + ms)) : V p l e R s m args below meth c Q D base nL pic lv (pc) (.ref b :: st) cells slots := v_callVV K (As := []) (C := RX4) (T := TX4) (N := 2) gw_223 gw_224 gw_225 gw_22 gw_226 rfl ⟨rfl, by decide, by decide, (by decide +kernel : (parseMethodDescriptor yX4_rise.desc).map (fun d => d.parameters.length) = some 0)⟩ d he hM hrc hrs hrm rfl hcat hcs kk
theorem cl_X4_42 (K : KX p m c cc nL s args cw RX4 D cA) {mc ms r b : Nat} {fs : List Value} {rm : Room} {x0 : Value} {post : Int32 → PIC → Prop} (d : decode cc pc = .ok (.invokevirtual 42, 3)) (he : pic r = some (b, .inr (5, fs))) (hM : CI l yX2_add cX2_add 3 ((some .boolean)) rm mc ms D cA base pic (.ref b :: [x0]) post) (hrc : rm.cells = mc) (hrs : rm.slots = ms) (hrm : rm.frames + 1 ≤ R.frames ∧ 8 + (3 + 11) + rm.locals ≤ R.locals) (hcat : (st.map fun v => v.category).sum ≤ 8) (hcs : cells + mc ≤ R.cells ∧ slots + ms ≤ R.slots) (kk : ∀ (x : Int32) (pic1 : PIC), post x pic1 → V p l e R s m args below meth c Q D base nL pic1 lv (pc + 3) (.int x :: st) (cells + mc) (slots + ms)) : V p l e R s m args below meth c Q D base nL pic lv (pc) (x0 :: .ref b :: st) cells slots := v_callVI K (As := [x0]) (C := RX2) (T := TX2) (N := 2) gw_438 gw_439 gw_440 gw_26 gw_441 rfl ⟨rfl, by decide, by decide, (by decide +kernel : (parseMethodDescriptor yX2_add.desc).map (fun d => d.parameters.length) = some 1)⟩ d he hM hrc hrs hrm rfl hcat hcs kk
theorem cl_X5_9 (K : KX p m c cc nL s args cw RX5 D cA) {mc ms b : Nat} {rm : Room} {post : PIC → Prop} (d : decode cc pc = .ok (.invokespecial 9, 3)) (hM : CV l yX1_init cX1_init 1 none rm mc ms D cA base pic (.ref b :: []) post) (hrc : rm.cells = mc) (hrs : rm.slots = ms) (hrm : rm.frames + 1 ≤ R.frames ∧ 8 + (1 + 11) + rm.locals ≤ R.locals) (hcat : (st.map fun v => v.category).sum ≤ 8) (hcs : cells + mc ≤ R.cells ∧ slots + ms ≤ R.slots) (kk : ∀ pic1 : PIC, post pic1 → V p l e R s m args below meth c Q D base nL pic1 lv (pc + 3) (st) (cells + mc) (slots + ms)) : V p l e R s m args below meth c Q D base nL pic lv (pc) (.ref b :: st) cells slots := v_callINV K (As := []) (List.mem_of_getElem? (i := 0) rfl) gw_33 gw_16 gw_34 rfl rfl ⟨by decide, by decide, (by decide +kernel : (parseMethodDescriptor yX1_init.desc).map (fun d => d.parameters.length) = some 0)⟩ d hM hrc hrs hrm rfl hcat hcs kk
theorem cl_X5_24 (K : KX p m c cc nL s args cw RX5 D cA) {mc ms b : Nat} {rm : Room} {post : PIC → Prop} (d : decode cc pc = .ok (.invokespecial 24, 3)) (hM : CV l yX4_init cX4_init 1 none rm mc ms D cA base pic (.ref b :: []) post) (hrc : rm.cells = mc) (hrs : rm.slots = ms) (hrm : rm.frames + 1 ≤ R.frames ∧ 8 + (1 + 11) + rm.locals ≤ R.locals) (hcat : (st.map fun v => v.category).sum ≤ 8) (hcs : cells + mc ≤ R.cells ∧ slots + ms ≤ R.slots) (kk : ∀ pic1 : PIC, post pic1 → V p l e R s m args below meth c Q D base nL pic1 lv (pc + 3) (st) (cells + mc) (slots + ms)) : V p l e R s m args below meth c Q D base nL pic lv (pc) (.ref b :: st) cells slots := v_callINV K (As := []) (List.mem_of_getElem? (i := 1) rfl) gw_42 gw_22 gw_43 rfl rfl ⟨by decide, by decide, (by decide +kernel : (parseMethodDescriptor yX4_init.desc).map (fun d => d.parameters.length) = some 0)⟩ d hM hrc hrs hrm rfl hcat hcs kk
theorem cl_X5_31 (K : KX p m c cc nL s args cw RX5 D cA) {mc ms b : Nat} {rm : Room} {post : PIC → Prop} (d : decode cc pc = .ok (.invokespecial 31, 3)) (hM : CV l yX2_init cX2_init 1 none rm mc ms D cA base pic (.ref b :: []) post) (hrc : rm.cells = mc) (hrs : rm.slots = ms) (hrm : rm.frames + 1 ≤ R.frames ∧ 8 + (1 + 11) + rm.locals ≤ R.locals) (hcat : (st.map fun v => v.category).sum ≤ 8) (hcs : cells + mc ≤ R.cells ∧ slots + ms ≤ R.slots) (kk : ∀ pic1 : PIC, post pic1 → V p l e R s m args below meth c Q D base nL pic1 lv (pc + 3) (st) (cells + mc) (slots + ms)) : V p l e R s m args below meth c Q D base nL pic lv (pc) (.ref b :: st) cells slots := v_callINV K (As := []) (List.mem_of_getElem? (i := 2) rfl) gw_46 gw_26 gw_47 rfl rfl ⟨by decide, by decide, (by decide +kernel : (parseMethodDescriptor yX2_init.desc).map (fun d => d.parameters.length) = some 0)⟩ d hM hrc hrs hrm rfl hcat hcs kk
theorem cl_X5_42 (K : KX p m c cc nL s args cw RX5 D cA) {mc ms b : Nat} {rm : Room} {post : PIC → Prop} (d : decode cc pc = .ok (.invokespecial 42, 3)) (hM : CV l yX0_init cX0_init 1 none rm mc ms D cA base pic (.ref b :: []) post) (hrc : rm.cells = mc) (hrs : rm.slots = ms) (hrm : rm.frames + 1 ≤ R.frames ∧ 8 + (1 + 11) + rm.locals ≤ R.locals) (hcat : (st.map fun v => v.category).sum ≤ 8) (hcs : cells + mc ≤ R.cells ∧ slots + ms ≤ R.slots) (kk : ∀ pic1 : PIC, post pic1 → V p l e R s m args below meth c Q D base nL pic1 lv (pc + 3) (st) (cells + mc) (slots + ms)) : V p l e R s m args below meth c Q D base nL pic lv (pc) (.ref b :: st) cells slots := v_callINV K (As := []) (List.mem_of_getElem? (i := 3) rfl) gw_50 gw_31 gw_51 rfl rfl ⟨by decide, by decide, (by decide +kernel : (parseMethodDescriptor yX0_init.desc).map (fun d => d.parameters.length) = some 0)⟩ d hM hrc hrs hrm rfl hcat hcs kk
theorem cl_X5_51 (K : KX p m c cc nL s args cw RX5 D cA) {mc ms r b : Nat} {fs : List Value} {rm : Room} {x0 : Value} {post : Int32 → PIC → Prop} (d : decode cc pc = .ok (.invokevirtual 51, 3)) (he : pic r = some (b, .inr (4, fs))) (hM : CI l yX1_pay cX1_pay 2 ((some .boolean)) rm mc ms D cA base pic (.ref b :: [x0]) post) (hrc : rm.cells = mc) (hrs : rm.slots = ms) (hrm : rm.frames + 1 ≤ R.frames ∧ 8 + (2 + 11) + rm.locals ≤ R.locals) (hcat : (st.map fun v => v.category).sum ≤ 8) (hcs : cells + mc ≤ R.cells ∧ slots + ms ≤ R.slots) (kk : ∀ (x : Int32) (pic1 : PIC), post x pic1 → V p l e R s m args below meth c Q D base nL pic1 lv (pc + 3) (.int x :: st) (cells + mc) (slots + ms)) : V p l e R s m args below meth c Q D base nL pic lv (pc) (x0 :: .ref b :: st) cells slots := v_callVI K (As := [x0]) (C := RX1) (T := TX1) (N := 5) gw_86 gw_87 gw_88 gw_16 gw_89 rfl ⟨rfl, by decide, by decide, (by decide +kernel : (parseMethodDescriptor yX1_pay.desc).map (fun d => d.parameters.length) = some 1)⟩ d he hM hrc hrs hrm rfl hcat hcs kk
theorem cl_X5_55 (K : KX p m c cc nL s args cw RX5 D cA) {mc ms r b : Nat} {fs : List Value} {rm : Room} {post : Int32 → PIC → Prop} (d : decode cc pc = .ok (.invokevirtual 55, 3)) (he : pic r = some (b, .inr (8, fs))) (hM : CI l yX5_failInnermost cX5_failInnermost 1 ((some .int)) rm mc ms D cA base pic (.ref b :: []) post) (hrc : rm.cells = mc) (hrs : rm.slots = ms) (hrm : rm.frames + 1 ≤ R.frames ∧ 8 + (1 + 11) + rm.locals ≤ R.locals) (hcat : (st.map fun v => v.category).sum ≤ 8) (hcs : cells + mc ≤ R.cells ∧ slots + ms ≤ R.slots) (kk : ∀ (x : Int32) (pic1 : PIC), post x pic1 → V p l e R s m args below meth c Q D base nL pic1 lv (pc + 3) (.int x :: st) (cells + mc) (slots + ms)) : V p l e R s m args below meth c Q D base nL pic lv (pc) (.ref b :: st) cells slots := v_callVI K (As := []) (C := RX5) (T := TX5) (N := 9) gw_95 gw_96 gw_97 gw_2 gw_98 rfl ⟨rfl, by decide, by decide, (by decide +kernel : (parseMethodDescriptor yX5_failInnermost.desc).map (fun d => d.parameters.length) = some 0)⟩ d he hM hrc hrs hrm rfl hcat hcs kk
theorem cl_X5_62 (K : KX p m c cc nL s args cw RX5 D cA) {mc ms r b : Nat} {fs : List Value} {rm : Room} {x0 x1 x2 : Value} {post : PIC → Prop} (d : decode cc pc = .ok (.invokevirtual 62, 3)) (he : pic r = some (b, .inr (4, fs))) (hM : CV l yX1_push cX1_push 4 (none) rm mc ms D cA base pic (.ref b :: [x0, x1, x2]) post) (hrc : rm.cells = mc) (hrs : rm.slots = ms) (hrm : rm.frames + 1 ≤ R.frames ∧ 8 + (4 + 11) + rm.locals ≤ R.locals) (hcat : (st.map fun v => v.category).sum ≤ 8) (hcs : cells + mc ≤ R.cells ∧ slots + ms ≤ R.slots) (kk : ∀ pic1 : PIC, post pic1 → V p l e R s m args below meth c Q D base nL pic1 lv (pc + 3) (st) (cells + mc) (slots + ms)) : V p l e R s m args below meth c Q D base nL pic lv (pc) (x2 :: x1 :: x0 :: .ref b :: st) cells slots := v_callVV K (As := [x0, x1, x2]) (C := RX1) (T := TX1) (N := 5) gw_108 gw_109 gw_110 gw_16 gw_111 rfl ⟨rfl, by decide, by decide, (by decide +kernel : (parseMethodDescriptor yX1_push.desc).map (fun d => d.parameters.length) = some 3)⟩ d he hM hrc hrs hrm rfl hcat hcs kk
theorem cl_X5_66 (K : KX p m c cc nL s args cw RX5 D cA) {mc ms : Nat} {rm : Room} {x0 x1 x2 x3 : Value} {post : Int32 → PIC → Prop} (d : decode cc pc = .ok (.invokestatic 66, 3)) (hM : CI l yX5_isEvent cX5_isEvent 4 ((some .boolean)) rm mc ms D cA base pic [x0, x1, x2, x3] post) (hrc : rm.cells = mc) (hrs : rm.slots = ms) (hrm : rm.frames + 1 ≤ R.frames ∧ 8 + (4 + 11) + rm.locals ≤ R.locals) (hcat : (st.map fun v => v.category).sum ≤ 8) (hcs : cells + mc ≤ R.cells ∧ slots + ms ≤ R.slots) (kk : ∀ (x : Int32) (pic1 : PIC), post x pic1 → V p l e R s m args below meth c Q D base nL pic1 lv (pc + 3) (.int x :: st) (cells + mc) (slots + ms)) : V p l e R s m args below meth c Q D base nL pic lv (pc) (x3 :: x2 :: x1 :: x0 :: st) cells slots := v_callSI K (As := [x0, x1, x2, x3]) gw_142 gw_143 gw_2 gw_144 ⟨by decide, by decide, (by decide +kernel : (parseMethodDescriptor yX5_isEvent.desc).map (fun d => d.parameters.length) = some 4)⟩ d hM hrc hrs hrm rfl hcat hcs kk
theorem cl_X5_70 (K : KX p m c cc nL s args cw RX5 D cA) {mc ms : Nat} {rm : Room} {x0 x1 : Value} {post : Int32 → PIC → Prop} (d : decode cc pc = .ok (.invokestatic 70, 3)) (hM : CI l yX5_topicCount cX5_topicCount 2 ((some .int)) rm mc ms D cA base pic [x0, x1] post) (hrc : rm.cells = mc) (hrs : rm.slots = ms) (hrm : rm.frames + 1 ≤ R.frames ∧ 8 + (2 + 11) + rm.locals ≤ R.locals) (hcat : (st.map fun v => v.category).sum ≤ 8) (hcs : cells + mc ≤ R.cells ∧ slots + ms ≤ R.slots) (kk : ∀ (x : Int32) (pic1 : PIC), post x pic1 → V p l e R s m args below meth c Q D base nL pic1 lv (pc + 3) (.int x :: st) (cells + mc) (slots + ms)) : V p l e R s m args below meth c Q D base nL pic lv (pc) (x1 :: x0 :: st) cells slots := v_callSI K (As := [x0, x1]) gw_151 gw_152 gw_2 gw_153 ⟨by decide, by decide, (by decide +kernel : (parseMethodDescriptor yX5_topicCount.desc).map (fun d => d.parameters.length) = some 2)⟩ d hM hrc hrs hrm rfl hcat hcs kk
theorem cl_X5_74 (K : KX p m c cc nL s args cw RX5 D cA) {mc ms r b : Nat} {fs : List Value} {rm : Room} {x0 x1 x2 x3 x4 : Value} {post : PIC → Prop} (d : decode cc pc = .ok (.invokevirtual 74, 3)) (he : pic r = some (b, .inr (3, fs))) (hM : CV l yX0_add cX0_add 7 (none) rm mc ms D cA base pic (.ref b :: [x0, x1, x2, x3, x4]) post) (hrc : rm.cells = mc) (hrs : rm.slots = ms) (hrm : rm.frames + 1 ≤ R.frames ∧ 8 + (7 + 11) + rm.locals ≤ R.locals) (hcat : (st.map fun v => v.category).sum ≤ 8) (hcs : cells + mc ≤ R.cells ∧ slots + ms ≤ R.slots) (kk : ∀ pic1 : PIC, post pic1 → V p l e R s m args below meth c Q D base nL pic1 lv (pc + 3) (st) (cells + mc) (slots + ms)) : V p l e R s m args below meth c Q D base nL pic lv (pc) (x4 :: x3 :: x2 :: x1 :: x0 :: .ref b :: st) cells slots := v_callVV K (As := [x0, x1, x2, x3, x4]) (C := RX0) (T := TX0) (N := 10) gw_154 gw_155 gw_156 gw_31 gw_157 rfl ⟨rfl, by decide, by decide, (by decide +kernel : (parseMethodDescriptor yX0_add.desc).map (fun d => d.parameters.length) = some 5)⟩ d he hM hrc hrs hrm rfl hcat hcs kk
theorem cl_X5_78 (K : KX p m c cc nL s args cw RX5 D cA) {mc ms r b : Nat} {fs : List Value} {rm : Room} {post : Int32 → PIC → Prop} (d : decode cc pc = .ok (.invokevirtual 78, 3)) (he : pic r = some (b, .inr (4, fs))) (hM : CI l yX1_pop cX1_pop 2 ((some .int)) rm mc ms D cA base pic (.ref b :: []) post) (hrc : rm.cells = mc) (hrs : rm.slots = ms) (hrm : rm.frames + 1 ≤ R.frames ∧ 8 + (2 + 11) + rm.locals ≤ R.locals) (hcat : (st.map fun v => v.category).sum ≤ 8) (hcs : cells + mc ≤ R.cells ∧ slots + ms ≤ R.slots) (kk : ∀ (x : Int32) (pic1 : PIC), post x pic1 → V p l e R s m args below meth c Q D base nL pic1 lv (pc + 3) (.int x :: st) (cells + mc) (slots + ms)) : V p l e R s m args below meth c Q D base nL pic lv (pc) (.ref b :: st) cells slots := v_callVI K (As := []) (C := RX1) (T := TX1) (N := 5) gw_174 gw_105 gw_106 gw_16 gw_107 rfl ⟨rfl, by decide, by decide, (by decide +kernel : (parseMethodDescriptor yX1_pop.desc).map (fun d => d.parameters.length) = some 0)⟩ d he hM hrc hrs hrm rfl hcat hcs kk
theorem cl_X5_81 (K : KX p m c cc nL s args cw RX5 D cA) {mc ms r b : Nat} {fs : List Value} {rm : Room} {post : Int32 → PIC → Prop} (d : decode cc pc = .ok (.invokevirtual 81, 3)) (he : pic r = some (b, .inr (4, fs))) (hM : CI l yX1_usedOfInnermost cX1_usedOfInnermost 1 ((some .int)) rm mc ms D cA base pic (.ref b :: []) post) (hrc : rm.cells = mc) (hrs : rm.slots = ms) (hrm : rm.frames + 1 ≤ R.frames ∧ 8 + (1 + 11) + rm.locals ≤ R.locals) (hcat : (st.map fun v => v.category).sum ≤ 8) (hcs : cells + mc ≤ R.cells ∧ slots + ms ≤ R.slots) (kk : ∀ (x : Int32) (pic1 : PIC), post x pic1 → V p l e R s m args below meth c Q D base nL pic1 lv (pc + 3) (.int x :: st) (cells + mc) (slots + ms)) : V p l e R s m args below meth c Q D base nL pic lv (pc) (.ref b :: st) cells slots := v_callVI K (As := []) (C := RX1) (T := TX1) (N := 5) gw_186 gw_187 gw_188 gw_16 gw_189 rfl ⟨rfl, by decide, by decide, (by decide +kernel : (parseMethodDescriptor yX1_usedOfInnermost.desc).map (fun d => d.parameters.length) = some 0)⟩ d he hM hrc hrs hrm rfl hcat hcs kk
theorem cl_X5_84 (K : KX p m c cc nL s args cw RX5 D cA) {mc ms r b : Nat} {fs : List Value} {rm : Room} {post : Int32 → PIC → Prop} (d : decode cc pc = .ok (.invokevirtual 84, 3)) (he : pic r = some (b, .inr (4, fs))) (hM : CI l yX1_leftOfInnermost cX1_leftOfInnermost 1 ((some .int)) rm mc ms D cA base pic (.ref b :: []) post) (hrc : rm.cells = mc) (hrs : rm.slots = ms) (hrm : rm.frames + 1 ≤ R.frames ∧ 8 + (1 + 11) + rm.locals ≤ R.locals) (hcat : (st.map fun v => v.category).sum ≤ 8) (hcs : cells + mc ≤ R.cells ∧ slots + ms ≤ R.slots) (kk : ∀ (x : Int32) (pic1 : PIC), post x pic1 → V p l e R s m args below meth c Q D base nL pic1 lv (pc + 3) (.int x :: st) (cells + mc) (slots + ms)) : V p l e R s m args below meth c Q D base nL pic lv (pc) (.ref b :: st) cells slots := v_callVI K (As := []) (C := RX1) (T := TX1) (N := 5) gw_190 gw_92 gw_93 gw_16 gw_94 rfl ⟨rfl, by decide, by decide, (by decide +kernel : (parseMethodDescriptor yX1_leftOfInnermost.desc).map (fun d => d.parameters.length) = some 0)⟩ d he hM hrc hrs hrm rfl hcat hcs kk
theorem cl_X5_96 (K : KX p m c cc nL s args cw RX5 D cA) {mc ms r b : Nat} {fs : List Value} {rm : Room} {x0 : Value} {post : Int64 → PIC → Prop} (d : decode cc pc = .ok (.invokevirtual 96, 3)) (he : pic r = some (b, .inr (7, fs))) (hM : CL l yX4_topOf cX4_topOf 3 ((some .long)) rm mc ms D cA base pic (.ref b :: [x0]) post) (hrc : rm.cells = mc) (hrs : rm.slots = ms) (hrm : rm.frames + 1 ≤ R.frames ∧ 8 + (3 + 11) + rm.locals ≤ R.locals) (hcat : (st.map fun v => v.category).sum ≤ 8) (hcs : cells + mc ≤ R.cells ∧ slots + ms ≤ R.slots) (kk : ∀ (x : Int64) (pic1 : PIC), post x pic1 → V p l e R s m args below meth c Q D base nL pic1 lv (pc + 3) (.long x :: st) (cells + mc) (slots + ms)) : V p l e R s m args below meth c Q D base nL pic lv (pc) (x0 :: .ref b :: st) cells slots := v_callVL K (As := [x0]) (C := RX4) (T := TX4) (N := 2) gw_201 gw_202 gw_203 gw_22 gw_204 rfl ⟨rfl, by decide, by decide, (by decide +kernel : (parseMethodDescriptor yX4_topOf.desc).map (fun d => d.parameters.length) = some 1)⟩ d he hM hrc hrs hrm rfl hcat hcs kk
theorem cl_X5_100 (K : KX p m c cc nL s args cw RX5 D cA) {mc ms r b : Nat} {fs : List Value} {rm : Room} {x0 x1 : Value} {post : PIC → Prop} (d : decode cc pc = .ok (.invokevirtual 100, 3)) (he : pic r = some (b, .inr (3, fs))) (hM : CV l yX0_seal cX0_seal 5 (none) rm mc ms D cA base pic (.ref b :: [x0, x1]) post) (hrc : rm.cells = mc) (hrs : rm.slots = ms) (hrm : rm.frames + 1 ≤ R.frames ∧ 8 + (5 + 11) + rm.locals ≤ R.locals) (hcat : (st.map fun v => v.category).sum ≤ 8) (hcs : cells + mc ≤ R.cells ∧ slots + ms ≤ R.slots) (kk : ∀ pic1 : PIC, post pic1 → V p l e R s m args below meth c Q D base nL pic1 lv (pc + 3) (st) (cells + mc) (slots + ms)) : V p l e R s m args below meth c Q D base nL pic lv (pc) (x1 :: x0 :: .ref b :: st) cells slots := v_callVV K (As := [x0, x1]) (C := RX0) (T := TX0) (N := 10) gw_227 gw_228 gw_229 gw_31 gw_230 rfl ⟨rfl, by decide, by decide, (by decide +kernel : (parseMethodDescriptor yX0_seal.desc).map (fun d => d.parameters.length) = some 2)⟩ d he hM hrc hrs hrm rfl hcat hcs kk
theorem cl_X5_104 (K : KX p m c cc nL s args cw RX5 D cA) {mc ms r b : Nat} {fs : List Value} {rm : Room} {post : PIC → Prop} (d : decode cc pc = .ok (.invokevirtual 104, 3)) (he : pic r = some (b, .inr (3, fs))) (hM : CV l yX0_clear cX0_clear 1 (none) rm mc ms D cA base pic (.ref b :: []) post) (hrc : rm.cells = mc) (hrs : rm.slots = ms) (hrm : rm.frames + 1 ≤ R.frames ∧ 8 + (1 + 11) + rm.locals ≤ R.locals) (hcat : (st.map fun v => v.category).sum ≤ 8) (hcs : cells + mc ≤ R.cells ∧ slots + ms ≤ R.slots) (kk : ∀ pic1 : PIC, post pic1 → V p l e R s m args below meth c Q D base nL pic1 lv (pc + 3) (st) (cells + mc) (slots + ms)) : V p l e R s m args below meth c Q D base nL pic lv (pc) (.ref b :: st) cells slots := v_callVV K (As := []) (C := RX0) (T := TX0) (N := 10) gw_240 gw_241 gw_242 gw_31 gw_243 rfl ⟨rfl, by decide, by decide, (by decide +kernel : (parseMethodDescriptor yX0_clear.desc).map (fun d => d.parameters.length) = some 0)⟩ d he hM hrc hrs hrm rfl hcat hcs kk
theorem cl_X5_107 (K : KX p m c cc nL s args cw RX5 D cA) {mc ms r b : Nat} {fs : List Value} {rm : Room} {x0 : Value} {post : Int32 → PIC → Prop} (d : decode cc pc = .ok (.invokevirtual 107, 3)) (he : pic r = some (b, .inr (8, fs))) (hM : CI l yX5_keptEventsFrom cX5_keptEventsFrom 5 ((some .int)) rm mc ms D cA base pic (.ref b :: [x0]) post) (hrc : rm.cells = mc) (hrs : rm.slots = ms) (hrm : rm.frames + 1 ≤ R.frames ∧ 8 + (5 + 11) + rm.locals ≤ R.locals) (hcat : (st.map fun v => v.category).sum ≤ 8) (hcs : cells + mc ≤ R.cells ∧ slots + ms ≤ R.slots) (kk : ∀ (x : Int32) (pic1 : PIC), post x pic1 → V p l e R s m args below meth c Q D base nL pic1 lv (pc + 3) (.int x :: st) (cells + mc) (slots + ms)) : V p l e R s m args below meth c Q D base nL pic lv (pc) (x0 :: .ref b :: st) cells slots := v_callVI K (As := [x0]) (C := RX5) (T := TX5) (N := 9) gw_272 gw_273 gw_274 gw_2 gw_275 rfl ⟨rfl, by decide, by decide, (by decide +kernel : (parseMethodDescriptor yX5_keptEventsFrom.desc).map (fun d => d.parameters.length) = some 1)⟩ d he hM hrc hrs hrm rfl hcat hcs kk
theorem cl_X5_111 (K : KX p m c cc nL s args cw RX5 D cA) {mc ms r b : Nat} {fs : List Value} {rm : Room} {post : PIC → Prop} (d : decode cc pc = .ok (.invokevirtual 111, 3)) (he : pic r = some (b, .inr (8, fs))) (hM : CV l yX5_moveSubscribersBack cX5_moveSubscribersBack 3 (none) rm mc ms D cA base pic (.ref b :: []) post) (hrc : rm.cells = mc) (hrs : rm.slots = ms) (hrm : rm.frames + 1 ≤ R.frames ∧ 8 + (3 + 11) + rm.locals ≤ R.locals) (hcat : (st.map fun v => v.category).sum ≤ 8) (hcs : cells + mc ≤ R.cells ∧ slots + ms ≤ R.slots) (kk : ∀ pic1 : PIC, post pic1 → V p l e R s m args below meth c Q D base nL pic1 lv (pc + 3) (st) (cells + mc) (slots + ms)) : V p l e R s m args below meth c Q D base nL pic lv (pc) (.ref b :: st) cells slots := v_callVV K (As := []) (C := RX5) (T := TX5) (N := 9) gw_281 gw_282 gw_283 gw_2 gw_284 rfl ⟨rfl, by decide, by decide, (by decide +kernel : (parseMethodDescriptor yX5_moveSubscribersBack.desc).map (fun d => d.parameters.length) = some 0)⟩ d he hM hrc hrs hrm rfl hcat hcs kk
theorem cl_X5_114 (K : KX p m c cc nL s args cw RX5 D cA) {mc ms r b : Nat} {fs : List Value} {rm : Room} {x0 : Value} {post : Option Nat → PIC → Prop} (d : decode cc pc = .ok (.invokevirtual 114, 3)) (he : pic r = some (b, .inr (8, fs))) (hM : CQ l yX5_blockAt cX5_blockAt 2 ((some (.object "EventRows$Block"))) rm mc ms D cA base pic (.ref b :: [x0]) post) (hrc : rm.cells = mc) (hrs : rm.slots = ms) (hrm : rm.frames + 1 ≤ R.frames ∧ 8 + (2 + 11) + rm.locals ≤ R.locals) (hcat : (st.map fun v => v.category).sum ≤ 8) (hcs : cells + mc ≤ R.cells ∧ slots + ms ≤ R.slots) (kk : ∀ (x : Option Nat) (pic1 : PIC), post x pic1 → V p l e R s m args below meth c Q D base nL pic1 lv (pc + 3) (va_rf x :: st) (cells + mc) (slots + ms)) : V p l e R s m args below meth c Q D base nL pic lv (pc) (x0 :: .ref b :: st) cells slots := v_callVQ K (As := [x0]) (C := RX5) (T := TX5) (N := 9) gw_277 gw_278 gw_279 gw_2 gw_280 rfl ⟨rfl, by decide, by decide, (by decide +kernel : (parseMethodDescriptor yX5_blockAt.desc).map (fun d => d.parameters.length) = some 1)⟩ d he hM hrc hrs hrm rfl hcat hcs kk
theorem cl_X5_122 (K : KX p m c cc nL s args cw RX5 D cA) {mc ms r b : Nat} {fs : List Value} {rm : Room} {x0 : Value} {post : Int32 → PIC → Prop} (d : decode cc pc = .ok (.invokevirtual 122, 3)) (he : pic r = some (b, .inr (3, fs))) (hM : CI l yX0_hasEvent cX0_hasEvent 2 ((some .boolean)) rm mc ms D cA base pic (.ref b :: [x0]) post) (hrc : rm.cells = mc) (hrs : rm.slots = ms) (hrm : rm.frames + 1 ≤ R.frames ∧ 8 + (2 + 11) + rm.locals ≤ R.locals) (hcat : (st.map fun v => v.category).sum ≤ 8) (hcs : cells + mc ≤ R.cells ∧ slots + ms ≤ R.slots) (kk : ∀ (x : Int32) (pic1 : PIC), post x pic1 → V p l e R s m args below meth c Q D base nL pic1 lv (pc + 3) (.int x :: st) (cells + mc) (slots + ms)) : V p l e R s m args below meth c Q D base nL pic lv (pc) (x0 :: .ref b :: st) cells slots := v_callVI K (As := [x0]) (C := RX0) (T := TX0) (N := 10) gw_325 gw_326 gw_327 gw_31 gw_328 rfl ⟨rfl, by decide, by decide, (by decide +kernel : (parseMethodDescriptor yX0_hasEvent.desc).map (fun d => d.parameters.length) = some 1)⟩ d he hM hrc hrs hrm rfl hcat hcs kk
theorem cl_X5_125 (K : KX p m c cc nL s args cw RX5 D cA) {mc ms r b : Nat} {fs : List Value} {rm : Room} {x0 x1 : Value} {post : Int32 → PIC → Prop} (d : decode cc pc = .ok (.invokevirtual 125, 3)) (he : pic r = some (b, .inr (3, fs))) (hM : CI l yX0_detail cX0_detail 3 ((some .int)) rm mc ms D cA base pic (.ref b :: [x0, x1]) post) (hrc : rm.cells = mc) (hrs : rm.slots = ms) (hrm : rm.frames + 1 ≤ R.frames ∧ 8 + (3 + 11) + rm.locals ≤ R.locals) (hcat : (st.map fun v => v.category).sum ≤ 8) (hcs : cells + mc ≤ R.cells ∧ slots + ms ≤ R.slots) (kk : ∀ (x : Int32) (pic1 : PIC), post x pic1 → V p l e R s m args below meth c Q D base nL pic1 lv (pc + 3) (.int x :: st) (cells + mc) (slots + ms)) : V p l e R s m args below meth c Q D base nL pic lv (pc) (x1 :: x0 :: .ref b :: st) cells slots := v_callVI K (As := [x0, x1]) (C := RX0) (T := TX0) (N := 10) gw_329 gw_330 gw_331 gw_31 gw_332 rfl ⟨rfl, by decide, by decide, (by decide +kernel : (parseMethodDescriptor yX0_detail.desc).map (fun d => d.parameters.length) = some 2)⟩ d he hM hrc hrs hrm rfl hcat hcs kk
theorem cl_X5_128 (K : KX p m c cc nL s args cw RX5 D cA) {mc ms r b : Nat} {fs : List Value} {rm : Room} {x0 : Value} {post : Option Nat → PIC → Prop} (d : decode cc pc = .ok (.invokevirtual 128, 3)) (he : pic r = some (b, .inr (8, fs))) (hM : CQ l yX5_neededBlock cX5_neededBlock 3 ((some (.object "EventRows$Block"))) rm mc ms D cA base pic (.ref b :: [x0]) post) (hrc : rm.cells = mc) (hrs : rm.slots = ms) (hrm : rm.frames + 1 ≤ R.frames ∧ 8 + (3 + 11) + rm.locals ≤ R.locals) (hcat : (st.map fun v => v.category).sum ≤ 8) (hcs : cells + mc ≤ R.cells ∧ slots + ms ≤ R.slots) (kk : ∀ (x : Option Nat) (pic1 : PIC), post x pic1 → V p l e R s m args below meth c Q D base nL pic1 lv (pc + 3) (va_rf x :: st) (cells + mc) (slots + ms)) : V p l e R s m args below meth c Q D base nL pic lv (pc) (x0 :: .ref b :: st) cells slots := v_callVQ K (As := [x0]) (C := RX5) (T := TX5) (N := 9) gw_362 gw_363 gw_364 gw_2 gw_365 rfl ⟨rfl, by decide, by decide, (by decide +kernel : (parseMethodDescriptor yX5_neededBlock.desc).map (fun d => d.parameters.length) = some 1)⟩ d he hM hrc hrs hrm rfl hcat hcs kk
theorem cl_X5_154 (K : KX p m c cc nL s args cw RX5 D cA) {mc ms : Nat} {rm : Room} {x0 : Value} {post : Int32 → PIC → Prop} (d : decode cc pc = .ok (.invokestatic 154, 3)) (hM : CI l yX5_isTopic cX5_isTopic 1 ((some .boolean)) rm mc ms D cA base pic [x0] post) (hrc : rm.cells = mc) (hrs : rm.slots = ms) (hrm : rm.frames + 1 ≤ R.frames ∧ 8 + (1 + 11) + rm.locals ≤ R.locals) (hcat : (st.map fun v => v.category).sum ≤ 8) (hcs : cells + mc ≤ R.cells ∧ slots + ms ≤ R.slots) (kk : ∀ (x : Int32) (pic1 : PIC), post x pic1 → V p l e R s m args below meth c Q D base nL pic1 lv (pc + 3) (.int x :: st) (cells + mc) (slots + ms)) : V p l e R s m args below meth c Q D base nL pic lv (pc) (x0 :: st) cells slots := v_callSI K (As := [x0]) gw_145 gw_146 gw_2 gw_147 ⟨by decide, by decide, (by decide +kernel : (parseMethodDescriptor yX5_isTopic.desc).map (fun d => d.parameters.length) = some 1)⟩ d hM hrc hrs hrm rfl hcat hcs kk
theorem cl_X5_157 (K : KX p m c cc nL s args cw RX5 D cA) {mc ms : Nat} {rm : Room} {x0 : Value} {post : Int64 → PIC → Prop} (d : decode cc pc = .ok (.invokestatic 157, 3)) (hM : CL l yX5_bitsOf cX5_bitsOf 1 ((some .long)) rm mc ms D cA base pic [x0] post) (hrc : rm.cells = mc) (hrs : rm.slots = ms) (hrm : rm.frames + 1 ≤ R.frames ∧ 8 + (1 + 11) + rm.locals ≤ R.locals) (hcat : (st.map fun v => v.category).sum ≤ 8) (hcs : cells + mc ≤ R.cells ∧ slots + ms ≤ R.slots) (kk : ∀ (x : Int64) (pic1 : PIC), post x pic1 → V p l e R s m args below meth c Q D base nL pic1 lv (pc + 3) (.long x :: st) (cells + mc) (slots + ms)) : V p l e R s m args below meth c Q D base nL pic lv (pc) (x0 :: st) cells slots := v_callSL K (As := [x0]) gw_403 gw_238 gw_2 gw_239 ⟨by decide, by decide, (by decide +kernel : (parseMethodDescriptor yX5_bitsOf.desc).map (fun d => d.parameters.length) = some 1)⟩ d hM hrc hrs hrm rfl hcat hcs kk
theorem cl_X5_161 (K : KX p m c cc nL s args cw RX5 D cA) {mc ms r b : Nat} {fs : List Value} {rm : Room} {x0 x1 : Value} {post : Int32 → PIC → Prop} (d : decode cc pc = .ok (.invokevirtual 161, 3)) (he : pic r = some (b, .inr (3, fs))) (hM : CI l yX0_firstWith cX0_firstWith 4 ((some .int)) rm mc ms D cA base pic (.ref b :: [x0, x1]) post) (hrc : rm.cells = mc) (hrs : rm.slots = ms) (hrm : rm.frames + 1 ≤ R.frames ∧ 8 + (4 + 11) + rm.locals ≤ R.locals) (hcat : (st.map fun v => v.category).sum ≤ 8) (hcs : cells + mc ≤ R.cells ∧ slots + ms ≤ R.slots) (kk : ∀ (x : Int32) (pic1 : PIC), post x pic1 → V p l e R s m args below meth c Q D base nL pic1 lv (pc + 3) (.int x :: st) (cells + mc) (slots + ms)) : V p l e R s m args below meth c Q D base nL pic lv (pc) (x1 :: x0 :: .ref b :: st) cells slots := v_callVI K (As := [x0, x1]) (C := RX0) (T := TX0) (N := 10) gw_412 gw_413 gw_414 gw_31 gw_415 rfl ⟨rfl, by decide, by decide, (by decide +kernel : (parseMethodDescriptor yX0_firstWith.desc).map (fun d => d.parameters.length) = some 2)⟩ d he hM hrc hrs hrm rfl hcat hcs kk
theorem cl_X5_164 (K : KX p m c cc nL s args cw RX5 D cA) {mc ms r b : Nat} {fs : List Value} {rm : Room} {x0 x1 x2 : Value} {post : PIC → Prop} (d : decode cc pc = .ok (.invokevirtual 164, 3)) (he : pic r = some (b, .inr (7, fs))) (hM : CV l yX4_pathOf cX4_pathOf 7 (none) rm mc ms D cA base pic (.ref b :: [x0, x1, x2]) post) (hrc : rm.cells = mc) (hrs : rm.slots = ms) (hrm : rm.frames + 1 ≤ R.frames ∧ 8 + (7 + 11) + rm.locals ≤ R.locals) (hcat : (st.map fun v => v.category).sum ≤ 8) (hcs : cells + mc ≤ R.cells ∧ slots + ms ≤ R.slots) (kk : ∀ pic1 : PIC, post pic1 → V p l e R s m args below meth c Q D base nL pic1 lv (pc + 3) (st) (cells + mc) (slots + ms)) : V p l e R s m args below meth c Q D base nL pic lv (pc) (x2 :: x1 :: x0 :: .ref b :: st) cells slots := v_callVV K (As := [x0, x1, x2]) (C := RX4) (T := TX4) (N := 2) gw_433 gw_434 gw_435 gw_22 gw_436 rfl ⟨rfl, by decide, by decide, (by decide +kernel : (parseMethodDescriptor yX4_pathOf.desc).map (fun d => d.parameters.length) = some 3)⟩ d he hM hrc hrs hrm rfl hcat hcs kk
theorem cl_X5_174 (K : KX p m c cc nL s args cw RX5 D cA) {mc ms r b : Nat} {fs : List Value} {rm : Room} {x0 : Value} {post : Int32 → PIC → Prop} (d : decode cc pc = .ok (.invokevirtual 174, 3)) (he : pic r = some (b, .inr (5, fs))) (hM : CI l yX2_add cX2_add 3 ((some .boolean)) rm mc ms D cA base pic (.ref b :: [x0]) post) (hrc : rm.cells = mc) (hrs : rm.slots = ms) (hrm : rm.frames + 1 ≤ R.frames ∧ 8 + (3 + 11) + rm.locals ≤ R.locals) (hcat : (st.map fun v => v.category).sum ≤ 8) (hcs : cells + mc ≤ R.cells ∧ slots + ms ≤ R.slots) (kk : ∀ (x : Int32) (pic1 : PIC), post x pic1 → V p l e R s m args below meth c Q D base nL pic1 lv (pc + 3) (.int x :: st) (cells + mc) (slots + ms)) : V p l e R s m args below meth c Q D base nL pic lv (pc) (x0 :: .ref b :: st) cells slots := v_callVI K (As := [x0]) (C := RX2) (T := TX2) (N := 2) gw_464 gw_439 gw_440 gw_26 gw_441 rfl ⟨rfl, by decide, by decide, (by decide +kernel : (parseMethodDescriptor yX2_add.desc).map (fun d => d.parameters.length) = some 1)⟩ d he hM hrc hrs hrm rfl hcat hcs kk
theorem cl_X5_177 (K : KX p m c cc nL s args cw RX5 D cA) {mc ms : Nat} {rm : Room} {x0 x1 x2 x3 x4 x5 : Value} {post : Int64 → PIC → Prop} (d : decode cc pc = .ok (.invokestatic 177, 3)) (hM : CL l yX5_leafOf cX5_leafOf 9 ((some .long)) rm mc ms D cA base pic [x0, x1, x2, x3, x4, x5] post) (hrc : rm.cells = mc) (hrs : rm.slots = ms) (hrm : rm.frames + 1 ≤ R.frames ∧ 8 + (9 + 11) + rm.locals ≤ R.locals) (hcat : (st.map fun v => v.category).sum ≤ 8) (hcs : cells + mc ≤ R.cells ∧ slots + ms ≤ R.slots) (kk : ∀ (x : Int64) (pic1 : PIC), post x pic1 → V p l e R s m args below meth c Q D base nL pic1 lv (pc + 3) (.long x :: st) (cells + mc) (slots + ms)) : V p l e R s m args below meth c Q D base nL pic lv (pc) (x5 :: x4 :: x3 :: x2 :: x1 :: x0 :: st) cells slots := v_callSL K (As := [x0, x1, x2, x3, x4, x5]) gw_481 gw_215 gw_2 gw_216 ⟨by decide, by decide, (by decide +kernel : (parseMethodDescriptor yX5_leafOf.desc).map (fun d => d.parameters.length) = some 6)⟩ d hM hrc hrs hrm rfl hcat hcs kk
theorem cl_X5_181 (K : KX p m c cc nL s args cw RX5 D cA) {mc ms r b : Nat} {fs : List Value} {rm : Room} {x0 x1 x2 x3 : Value} {post : Int32 → PIC → Prop} (d : decode cc pc = .ok (.invokevirtual 181, 3)) (he : pic r = some (b, .inr (5, fs))) (hM : CI l yX2_leadsTo cX2_leadsTo 15 ((some .boolean)) rm mc ms D cA base pic (.ref b :: [x0, x1, x2, x3]) post) (hrc : rm.cells = mc) (hrs : rm.slots = ms) (hrm : rm.frames + 1 ≤ R.frames ∧ 8 + (15 + 11) + rm.locals ≤ R.locals) (hcat : (st.map fun v => v.category).sum ≤ 8) (hcs : cells + mc ≤ R.cells ∧ slots + ms ≤ R.slots) (kk : ∀ (x : Int32) (pic1 : PIC), post x pic1 → V p l e R s m args below meth c Q D base nL pic1 lv (pc + 3) (.int x :: st) (cells + mc) (slots + ms)) : V p l e R s m args below meth c Q D base nL pic lv (pc) (x3 :: x2 :: x1 :: x0 :: .ref b :: st) cells slots := v_callVI K (As := [x0, x1, x2, x3]) (C := RX2) (T := TX2) (N := 2) gw_482 gw_483 gw_484 gw_26 gw_485 rfl ⟨rfl, by decide, by decide, (by decide +kernel : (parseMethodDescriptor yX2_leadsTo.desc).map (fun d => d.parameters.length) = some 4)⟩ d he hM hrc hrs hrm rfl hcat hcs kk
theorem cl_X5_185 (K : KX p m c cc nL s args cw RX5 D cA) {mc ms : Nat} {rm : Room} {x0 : Value} {post : Int32 → PIC → Prop} (d : decode cc pc = .ok (.invokestatic 185, 3)) (hM : CI l yX5_isTopicOrNone cX5_isTopicOrNone 1 ((some .boolean)) rm mc ms D cA base pic [x0] post) (hrc : rm.cells = mc) (hrs : rm.slots = ms) (hrm : rm.frames + 1 ≤ R.frames ∧ 8 + (1 + 11) + rm.locals ≤ R.locals) (hcat : (st.map fun v => v.category).sum ≤ 8) (hcs : cells + mc ≤ R.cells ∧ slots + ms ≤ R.slots) (kk : ∀ (x : Int32) (pic1 : PIC), post x pic1 → V p l e R s m args below meth c Q D base nL pic1 lv (pc + 3) (.int x :: st) (cells + mc) (slots + ms)) : V p l e R s m args below meth c Q D base nL pic lv (pc) (x0 :: st) cells slots := v_callSI K (As := [x0]) gw_148 gw_149 gw_2 gw_150 ⟨by decide, by decide, (by decide +kernel : (parseMethodDescriptor yX5_isTopicOrNone.desc).map (fun d => d.parameters.length) = some 1)⟩ d hM hrc hrs hrm rfl hcat hcs kk
theorem cl_X5_188 (K : KX p m c cc nL s args cw RX5 D cA) {mc ms b : Nat} {rm : Room} {x0 x1 : Value} {post : PIC → Prop} (d : decode cc pc = .ok (.invokespecial 188, 3)) (hM : CV l yX3_init cX3_init 3 none rm mc ms D cA base pic (.ref b :: [x0, x1]) post) (hrc : rm.cells = mc) (hrs : rm.slots = ms) (hrm : rm.frames + 1 ≤ R.frames ∧ 8 + (3 + 11) + rm.locals ≤ R.locals) (hcat : (st.map fun v => v.category).sum ≤ 8) (hcs : cells + mc ≤ R.cells ∧ slots + ms ≤ R.slots) (kk : ∀ pic1 : PIC, post pic1 → V p l e R s m args below meth c Q D base nL pic1 lv (pc + 3) (st) (cells + mc) (slots + ms)) : V p l e R s m args below meth c Q D base nL pic lv (pc) (x1 :: x0 :: .ref b :: st) cells slots := v_callIV K (As := [x0, x1]) gw_495 gw_496 gw_293 gw_497 rfl rfl ⟨by decide, by decide, (by decide +kernel : (parseMethodDescriptor yX3_init.desc).map (fun d => d.parameters.length) = some 2)⟩ d hM hrc hrs hrm rfl hcat hcs kk
theorem cl_X5_191 (K : KX p m c cc nL s args cw RX5 D cA) {mc ms r b : Nat} {fs : List Value} {rm : Room} {x0 : Value} {post : Option Nat → PIC → Prop} (d : decode cc pc = .ok (.invokevirtual 191, 3)) (he : pic r = some (b, .inr (8, fs))) (hM : CQ l yX5_subscriberAt cX5_subscriberAt 2 ((some (.object "EventRows$Subscriber"))) rm mc ms D cA base pic (.ref b :: [x0]) post) (hrc : rm.cells = mc) (hrs : rm.slots = ms) (hrm : rm.frames + 1 ≤ R.frames ∧ 8 + (2 + 11) + rm.locals ≤ R.locals) (hcat : (st.map fun v => v.category).sum ≤ 8) (hcs : cells + mc ≤ R.cells ∧ slots + ms ≤ R.slots) (kk : ∀ (x : Option Nat) (pic1 : PIC), post x pic1 → V p l e R s m args below meth c Q D base nL pic1 lv (pc + 3) (va_rf x :: st) (cells + mc) (slots + ms)) : V p l e R s m args below meth c Q D base nL pic lv (pc) (x0 :: .ref b :: st) cells slots := v_callVQ K (As := [x0]) (C := RX5) (T := TX5) (N := 9) gw_286 gw_287 gw_288 gw_2 gw_289 rfl ⟨rfl, by decide, by decide, (by decide +kernel : (parseMethodDescriptor yX5_subscriberAt.desc).map (fun d => d.parameters.length) = some 1)⟩ d he hM hrc hrs hrm rfl hcat hcs kk
theorem cl_X5_204 (K : KX p m c cc nL s args cw RX5 D cA) {mc ms r b : Nat} {fs : List Value} {rm : Room} {x0 x1 x2 : Value} {post : Int32 → PIC → Prop} (d : decode cc pc = .ok (.invokevirtual 204, 3)) (he : pic r = some (b, .inr (8, fs))) (hM : CI l yX5_firstKeptWith cX5_firstKeptWith 5 ((some .int)) rm mc ms D cA base pic (.ref b :: [x0, x1, x2]) post) (hrc : rm.cells = mc) (hrs : rm.slots = ms) (hrm : rm.frames + 1 ≤ R.frames ∧ 8 + (5 + 11) + rm.locals ≤ R.locals) (hcat : (st.map fun v => v.category).sum ≤ 8) (hcs : cells + mc ≤ R.cells ∧ slots + ms ≤ R.slots) (kk : ∀ (x : Int32) (pic1 : PIC), post x pic1 → V p l e R s m args below meth c Q D base nL pic1 lv (pc + 3) (.int x :: st) (cells + mc) (slots + ms)) : V p l e R s m args below meth c Q D base nL pic lv (pc) (x2 :: x1 :: x0 :: .ref b :: st) cells slots := v_callVI K (As := [x0, x1, x2]) (C := RX5) (T := TX5) (N := 9) gw_510 gw_511 gw_512 gw_2 gw_513 rfl ⟨rfl, by decide, by decide, (by decide +kernel : (parseMethodDescriptor yX5_firstKeptWith.desc).map (fun d => d.parameters.length) = some 3)⟩ d he hM hrc hrs hrm rfl hcat hcs kk
theorem cl_X5_208 (K : KX p m c cc nL s args cw RX5 D cA) {mc ms r b : Nat} {fs : List Value} {rm : Room} {x0 x1 : Value} {post : PIC → Prop} (d : decode cc pc = .ok (.invokevirtual 208, 3)) (he : pic r = some (b, .inr (6, fs))) (hM : CV l yX3_moveTo cX3_moveTo 3 (none) rm mc ms D cA base pic (.ref b :: [x0, x1]) post) (hrc : rm.cells = mc) (hrs : rm.slots = ms) (hrm : rm.frames + 1 ≤ R.frames ∧ 8 + (3 + 11) + rm.locals ≤ R.locals) (hcat : (st.map fun v => v.category).sum ≤ 8) (hcs : cells + mc ≤ R.cells ∧ slots + ms ≤ R.slots) (kk : ∀ pic1 : PIC, post pic1 → V p l e R s m args below meth c Q D base nL pic1 lv (pc + 3) (st) (cells + mc) (slots + ms)) : V p l e R s m args below meth c Q D base nL pic lv (pc) (x1 :: x0 :: .ref b :: st) cells slots := v_callVV K (As := [x0, x1]) (C := RX3) (T := TX3) (N := 3) gw_290 gw_291 gw_292 gw_293 gw_294 rfl ⟨rfl, by decide, by decide, (by decide +kernel : (parseMethodDescriptor yX3_moveTo.desc).map (fun d => d.parameters.length) = some 2)⟩ d he hM hrc hrs hrm rfl hcat hcs kk
theorem cl_X5_211 (K : KX p m c cc nL s args cw RX5 D cA) {mc ms r b : Nat} {fs : List Value} {rm : Room} {x0 : Value} {post : Int32 → PIC → Prop} (d : decode cc pc = .ok (.invokevirtual 211, 3)) (he : pic r = some (b, .inr (4, fs))) (hM : CI l yX1_fail cX1_fail 5 ((some .int)) rm mc ms D cA base pic (.ref b :: [x0]) post) (hrc : rm.cells = mc) (hrs : rm.slots = ms) (hrm : rm.frames + 1 ≤ R.frames ∧ 8 + (5 + 11) + rm.locals ≤ R.locals) (hcat : (st.map fun v => v.category).sum ≤ 8) (hcs : cells + mc ≤ R.cells ∧ slots + ms ≤ R.slots) (kk : ∀ (x : Int32) (pic1 : PIC), post x pic1 → V p l e R s m args below meth c Q D base nL pic1 lv (pc + 3) (.int x :: st) (cells + mc) (slots + ms)) : V p l e R s m args below meth c Q D base nL pic lv (pc) (x0 :: .ref b :: st) cells slots := v_callVI K (As := [x0]) (C := RX1) (T := TX1) (N := 5) gw_99 gw_100 gw_101 gw_16 gw_102 rfl ⟨rfl, by decide, by decide, (by decide +kernel : (parseMethodDescriptor yX1_fail.desc).map (fun d => d.parameters.length) = some 1)⟩ d he hM hrc hrs hrm rfl hcat hcs kk
theorem cl_X5_223 (K : KX p m c cc nL s args cw RX5 D cA) {mc ms : Nat} {rm : Room} {x0 x1 : Value} {post : Int64 → PIC → Prop} (d : decode cc pc = .ok (.invokestatic 223, 3)) (hM : CL l yX5_mix cX5_mix 6 ((some .long)) rm mc ms D cA base pic [x0, x1] post) (hrc : rm.cells = mc) (hrs : rm.slots = ms) (hrm : rm.frames + 1 ≤ R.frames ∧ 8 + (6 + 11) + rm.locals ≤ R.locals) (hcat : (st.map fun v => v.category).sum ≤ 8) (hcs : cells + mc ≤ R.cells ∧ slots + ms ≤ R.slots) (kk : ∀ (x : Int64) (pic1 : PIC), post x pic1 → V p l e R s m args below meth c Q D base nL pic1 lv (pc + 3) (.long x :: st) (cells + mc) (slots + ms)) : V p l e R s m args below meth c Q D base nL pic lv (pc) (x1 :: x0 :: st) cells slots := v_callSL K (As := [x0, x1]) gw_217 gw_218 gw_2 gw_219 ⟨by decide, by decide, (by decide +kernel : (parseMethodDescriptor yX5_mix.desc).map (fun d => d.parameters.length) = some 2)⟩ d hM hrc hrs hrm rfl hcat hcs kk
theorem cl_X6_70 (K : KX p m c cc nL s args cw RX6 D cA) {mc ms : Nat} {rm : Room} {x0 x1 x2 : Value} {post : Int32 → PIC → Prop} (d : decode cc pc = .ok (.invokestatic 70, 3)) (hM : CI l yX6_in cX6_in 6 ((some .boolean)) rm mc ms D cA base pic [x0, x1, x2] post) (hrc : rm.cells = mc) (hrs : rm.slots = ms) (hrm : rm.frames + 1 ≤ R.frames ∧ 8 + (6 + 11) + rm.locals ≤ R.locals) (hcat : (st.map fun v => v.category).sum ≤ 8) (hcs : cells + mc ≤ R.cells ∧ slots + ms ≤ R.slots) (kk : ∀ (x : Int32) (pic1 : PIC), post x pic1 → V p l e R s m args below meth c Q D base nL pic1 lv (pc + 3) (.int x :: st) (cells + mc) (slots + ms)) : V p l e R s m args below meth c Q D base nL pic lv (pc) (x2 :: x1 :: x0 :: st) cells slots := v_callSI K (As := [x0, x1, x2]) gw_123 gw_124 gw_5 gw_125 ⟨by decide, by decide, (by decide +kernel : (parseMethodDescriptor yX6_in.desc).map (fun d => d.parameters.length) = some 3)⟩ d hM hrc hrs hrm rfl hcat hcs kk
theorem cl_X6_80 (K : KX p m c cc nL s args cw RX6 D cA) {mc ms r b : Nat} {fs : List Value} {rm : Room} {post : PIC → Prop} (d : decode cc pc = .ok (.invokevirtual 80, 3)) (he : pic r = some (b, .inr (9, fs))) (hM : CV l yX6_over cX6_over 1 (none) rm mc ms D cA base pic (.ref b :: []) post) (hrc : rm.cells = mc) (hrs : rm.slots = ms) (hrm : rm.frames + 1 ≤ R.frames ∧ 8 + (1 + 11) + rm.locals ≤ R.locals) (hcat : (st.map fun v => v.category).sum ≤ 8) (hcs : cells + mc ≤ R.cells ∧ slots + ms ≤ R.slots) (kk : ∀ pic1 : PIC, post pic1 → V p l e R s m args below meth c Q D base nL pic1 lv (pc + 3) (st) (cells + mc) (slots + ms)) : V p l e R s m args below meth c Q D base nL pic lv (pc) (.ref b :: st) cells slots := v_callVV K (As := []) (C := RX6) (T := TX6) (N := 24) gw_134 gw_135 gw_136 gw_5 gw_137 rfl ⟨rfl, by decide, by decide, (by decide +kernel : (parseMethodDescriptor yX6_over.desc).map (fun d => d.parameters.length) = some 0)⟩ d he hM hrc hrs hrm rfl hcat hcs kk
theorem cl_X6_85 (K : KX p m c cc nL s args cw RX6 D cA) {mc ms r b : Nat} {fs : List Value} {rm : Room} {post : Int32 → PIC → Prop} (d : decode cc pc = .ok (.invokevirtual 85, 3)) (he : pic r = some (b, .inr (9, fs))) (hM : CI l yX6_left cX6_left 1 ((some .int)) rm mc ms D cA base pic (.ref b :: []) post) (hrc : rm.cells = mc) (hrs : rm.slots = ms) (hrm : rm.frames + 1 ≤ R.frames ∧ 8 + (1 + 11) + rm.locals ≤ R.locals) (hcat : (st.map fun v => v.category).sum ≤ 8) (hcs : cells + mc ≤ R.cells ∧ slots + ms ≤ R.slots) (kk : ∀ (x : Int32) (pic1 : PIC), post x pic1 → V p l e R s m args below meth c Q D base nL pic1 lv (pc + 3) (.int x :: st) (cells + mc) (slots + ms)) : V p l e R s m args below meth c Q D base nL pic lv (pc) (.ref b :: st) cells slots := v_callVI K (As := []) (C := RX6) (T := TX6) (N := 24) gw_126 gw_127 gw_128 gw_5 gw_129 rfl ⟨rfl, by decide, by decide, (by decide +kernel : (parseMethodDescriptor yX6_left.desc).map (fun d => d.parameters.length) = some 0)⟩ d he hM hrc hrs hrm rfl hcat hcs kk
theorem cl_X6_89 (K : KX p m c cc nL s args cw RX6 D cA) {mc ms r b : Nat} {fs : List Value} {rm : Room} {post : Int32 → PIC → Prop} (d : decode cc pc = .ok (.invokevirtual 89, 3)) (he : pic r = some (b, .inr (9, fs))) (hM : CI l yX6_fails cX6_fails 3 ((some .int)) rm mc ms D cA base pic (.ref b :: []) post) (hrc : rm.cells = mc) (hrs : rm.slots = ms) (hrm : rm.frames + 1 ≤ R.frames ∧ 8 + (3 + 11) + rm.locals ≤ R.locals) (hcat : (st.map fun v => v.category).sum ≤ 8) (hcs : cells + mc ≤ R.cells ∧ slots + ms ≤ R.slots) (kk : ∀ (x : Int32) (pic1 : PIC), post x pic1 → V p l e R s m args below meth c Q D base nL pic1 lv (pc + 3) (.int x :: st) (cells + mc) (slots + ms)) : V p l e R s m args below meth c Q D base nL pic lv (pc) (.ref b :: st) cells slots := v_callVI K (As := []) (C := RX6) (T := TX6) (N := 24) gw_130 gw_131 gw_132 gw_5 gw_133 rfl ⟨rfl, by decide, by decide, (by decide +kernel : (parseMethodDescriptor yX6_fails.desc).map (fun d => d.parameters.length) = some 0)⟩ d he hM hrc hrs hrm rfl hcat hcs kk
theorem cl_X6_98 (K : KX p m c cc nL s args cw RX6 D cA) {mc ms : Nat} {rm : Room} {x0 x1 x2 x3 : Value} {post : Int32 → PIC → Prop} (d : decode cc pc = .ok (.invokestatic 98, 3)) (hM : CI l yX6_isEvent cX6_isEvent 4 ((some .boolean)) rm mc ms D cA base pic [x0, x1, x2, x3] post) (hrc : rm.cells = mc) (hrs : rm.slots = ms) (hrm : rm.frames + 1 ≤ R.frames ∧ 8 + (4 + 11) + rm.locals ≤ R.locals) (hcat : (st.map fun v => v.category).sum ≤ 8) (hcs : cells + mc ≤ R.cells ∧ slots + ms ≤ R.slots) (kk : ∀ (x : Int32) (pic1 : PIC), post x pic1 → V p l e R s m args below meth c Q D base nL pic1 lv (pc + 3) (.int x :: st) (cells + mc) (slots + ms)) : V p l e R s m args below meth c Q D base nL pic lv (pc) (x3 :: x2 :: x1 :: x0 :: st) cells slots := v_callSI K (As := [x0, x1, x2, x3]) gw_164 gw_165 gw_5 gw_166 ⟨by decide, by decide, (by decide +kernel : (parseMethodDescriptor yX6_isEvent.desc).map (fun d => d.parameters.length) = some 4)⟩ d hM hrc hrs hrm rfl hcat hcs kk
theorem cl_X6_114 (K : KX p m c cc nL s args cw RX6 D cA) {mc ms : Nat} {rm : Room} {x0 x1 : Value} {post : Int64 → PIC → Prop} (d : decode cc pc = .ok (.invokestatic 114, 3)) (hM : CL l yX6_mix cX6_mix 6 ((some .long)) rm mc ms D cA base pic [x0, x1] post) (hrc : rm.cells = mc) (hrs : rm.slots = ms) (hrm : rm.frames + 1 ≤ R.frames ∧ 8 + (6 + 11) + rm.locals ≤ R.locals) (hcat : (st.map fun v => v.category).sum ≤ 8) (hcs : cells + mc ≤ R.cells ∧ slots + ms ≤ R.slots) (kk : ∀ (x : Int64) (pic1 : PIC), post x pic1 → V p l e R s m args below meth c Q D base nL pic1 lv (pc + 3) (.long x :: st) (cells + mc) (slots + ms)) : V p l e R s m args below meth c Q D base nL pic lv (pc) (x1 :: x0 :: st) cells slots := v_callSL K (As := [x0, x1]) gw_258 gw_259 gw_5 gw_260 ⟨by decide, by decide, (by decide +kernel : (parseMethodDescriptor yX6_mix.desc).map (fun d => d.parameters.length) = some 2)⟩ d hM hrc hrs hrm rfl hcat hcs kk
theorem cl_X6_118 (K : KX p m c cc nL s args cw RX6 D cA) {mc ms : Nat} {rm : Room} {x0 x1 x2 x3 x4 x5 : Value} {post : Int64 → PIC → Prop} (d : decode cc pc = .ok (.invokestatic 118, 3)) (hM : CL l yX6_leaf cX6_leaf 9 ((some .long)) rm mc ms D cA base pic [x0, x1, x2, x3, x4, x5] post) (hrc : rm.cells = mc) (hrs : rm.slots = ms) (hrm : rm.frames + 1 ≤ R.frames ∧ 8 + (9 + 11) + rm.locals ≤ R.locals) (hcat : (st.map fun v => v.category).sum ≤ 8) (hcs : cells + mc ≤ R.cells ∧ slots + ms ≤ R.slots) (kk : ∀ (x : Int64) (pic1 : PIC), post x pic1 → V p l e R s m args below meth c Q D base nL pic1 lv (pc + 3) (.long x :: st) (cells + mc) (slots + ms)) : V p l e R s m args below meth c Q D base nL pic lv (pc) (x5 :: x4 :: x3 :: x2 :: x1 :: x0 :: st) cells slots := v_callSL K (As := [x0, x1, x2, x3, x4, x5]) gw_255 gw_256 gw_5 gw_257 ⟨by decide, by decide, (by decide +kernel : (parseMethodDescriptor yX6_leaf.desc).map (fun d => d.parameters.length) = some 6)⟩ d hM hrc hrs hrm rfl hcat hcs kk
theorem cl_X6_122 (K : KX p m c cc nL s args cw RX6 D cA) {mc ms : Nat} {rm : Room} {x0 : Value} {post : Int64 → PIC → Prop} (d : decode cc pc = .ok (.invokestatic 122, 3)) (hM : CL l yX6_bitsOf cX6_bitsOf 1 ((some .long)) rm mc ms D cA base pic [x0] post) (hrc : rm.cells = mc) (hrs : rm.slots = ms) (hrm : rm.frames + 1 ≤ R.frames ∧ 8 + (1 + 11) + rm.locals ≤ R.locals) (hcat : (st.map fun v => v.category).sum ≤ 8) (hcs : cells + mc ≤ R.cells ∧ slots + ms ≤ R.slots) (kk : ∀ (x : Int64) (pic1 : PIC), post x pic1 → V p l e R s m args below meth c Q D base nL pic1 lv (pc + 3) (.long x :: st) (cells + mc) (slots + ms)) : V p l e R s m args below meth c Q D base nL pic lv (pc) (x0 :: st) cells slots := v_callSL K (As := [x0]) gw_248 gw_249 gw_5 gw_250 ⟨by decide, by decide, (by decide +kernel : (parseMethodDescriptor yX6_bitsOf.desc).map (fun d => d.parameters.length) = some 1)⟩ d hM hrc hrs hrm rfl hcat hcs kk
theorem cl_X6_126 (K : KX p m c cc nL s args cw RX6 D cA) {mc ms r b : Nat} {fs : List Value} {rm : Room} {x0 : Value} {post : PIC → Prop} (d : decode cc pc = .ok (.invokevirtual 126, 3)) (he : pic r = some (b, .inr (9, fs))) (hM : CV l yX6_leaves cX6_leaves 4 (none) rm mc ms D cA base pic (.ref b :: [x0]) post) (hrc : rm.cells = mc) (hrs : rm.slots = ms) (hrm : rm.frames + 1 ≤ R.frames ∧ 8 + (4 + 11) + rm.locals ≤ R.locals) (hcat : (st.map fun v => v.category).sum ≤ 8) (hcs : cells + mc ≤ R.cells ∧ slots + ms ≤ R.slots) (kk : ∀ pic1 : PIC, post pic1 → V p l e R s m args below meth c Q D base nL pic1 lv (pc + 3) (st) (cells + mc) (slots + ms)) : V p l e R s m args below meth c Q D base nL pic lv (pc) (x0 :: .ref b :: st) cells slots := v_callVV K (As := [x0]) (C := RX6) (T := TX6) (N := 24) gw_251 gw_252 gw_253 gw_5 gw_254 rfl ⟨rfl, by decide, by decide, (by decide +kernel : (parseMethodDescriptor yX6_leaves.desc).map (fun d => d.parameters.length) = some 1)⟩ d he hM hrc hrs hrm rfl hcat hcs kk
theorem cl_X6_130 (K : KX p m c cc nL s args cw RX6 D cA) {mc ms r b : Nat} {fs : List Value} {rm : Room} {x0 : Value} {post : Int32 → PIC → Prop} (d : decode cc pc = .ok (.invokevirtual 130, 3)) (he : pic r = some (b, .inr (9, fs))) (hM : CI l yX6_rises cX6_rises 3 ((some .int)) rm mc ms D cA base pic (.ref b :: [x0]) post) (hrc : rm.cells = mc) (hrs : rm.slots = ms) (hrm : rm.frames + 1 ≤ R.frames ∧ 8 + (3 + 11) + rm.locals ≤ R.locals) (hcat : (st.map fun v => v.category).sum ≤ 8) (hcs : cells + mc ≤ R.cells ∧ slots + ms ≤ R.slots) (kk : ∀ (x : Int32) (pic1 : PIC), post x pic1 → V p l e R s m args below meth c Q D base nL pic1 lv (pc + 3) (.int x :: st) (cells + mc) (slots + ms)) : V p l e R s m args below meth c Q D base nL pic lv (pc) (x0 :: .ref b :: st) cells slots := v_callVI K (As := [x0]) (C := RX6) (T := TX6) (N := 24) gw_264 gw_265 gw_266 gw_5 gw_267 rfl ⟨rfl, by decide, by decide, (by decide +kernel : (parseMethodDescriptor yX6_rises.desc).map (fun d => d.parameters.length) = some 1)⟩ d he hM hrc hrs hrm rfl hcat hcs kk
theorem cl_X6_134 (K : KX p m c cc nL s args cw RX6 D cA) {mc ms r b : Nat} {fs : List Value} {rm : Room} {x0 : Value} {post : Int32 → PIC → Prop} (d : decode cc pc = .ok (.invokevirtual 134, 3)) (he : pic r = some (b, .inr (9, fs))) (hM : CI l yX6_isBlock cX6_isBlock 2 ((some .boolean)) rm mc ms D cA base pic (.ref b :: [x0]) post) (hrc : rm.cells = mc) (hrs : rm.slots = ms) (hrm : rm.frames + 1 ≤ R.frames ∧ 8 + (2 + 11) + rm.locals ≤ R.locals) (hcat : (st.map fun v => v.category).sum ≤ 8) (hcs : cells + mc ≤ R.cells ∧ slots + ms ≤ R.slots) (kk : ∀ (x : Int32) (pic1 : PIC), post x pic1 → V p l e R s m args below meth c Q D base nL pic1 lv (pc + 3) (.int x :: st) (cells + mc) (slots + ms)) : V p l e R s m args below meth c Q D base nL pic lv (pc) (x0 :: .ref b :: st) cells slots := v_callVI K (As := [x0]) (C := RX6) (T := TX6) (N := 24) gw_309 gw_310 gw_311 gw_5 gw_312 rfl ⟨rfl, by decide, by decide, (by decide +kernel : (parseMethodDescriptor yX6_isBlock.desc).map (fun d => d.parameters.length) = some 1)⟩ d he hM hrc hrs hrm rfl hcat hcs kk
theorem cl_X6_140 (K : KX p m c cc nL s args cw RX6 D cA) {mc ms r b : Nat} {fs : List Value} {rm : Room} {x0 : Value} {post : Int32 → PIC → Prop} (d : decode cc pc = .ok (.invokevirtual 140, 3)) (he : pic r = some (b, .inr (9, fs))) (hM : CI l yX6_topicMany cX6_topicMany 2 ((some .int)) rm mc ms D cA base pic (.ref b :: [x0]) post) (hrc : rm.cells = mc) (hrs : rm.slots = ms) (hrm : rm.frames + 1 ≤ R.frames ∧ 8 + (2 + 11) + rm.locals ≤ R.locals) (hcat : (st.map fun v => v.category).sum ≤ 8) (hcs : cells + mc ≤ R.cells ∧ slots + ms ≤ R.slots) (kk : ∀ (x : Int32) (pic1 : PIC), post x pic1 → V p l e R s m args below meth c Q D base nL pic1 lv (pc + 3) (.int x :: st) (cells + mc) (slots + ms)) : V p l e R s m args below meth c Q D base nL pic lv (pc) (x0 :: .ref b :: st) cells slots := v_callVI K (As := [x0]) (C := RX6) (T := TX6) (N := 24) gw_341 gw_342 gw_343 gw_5 gw_344 rfl ⟨rfl, by decide, by decide, (by decide +kernel : (parseMethodDescriptor yX6_topicMany.desc).map (fun d => d.parameters.length) = some 1)⟩ d he hM hrc hrs hrm rfl hcat hcs kk
theorem cl_X6_143 (K : KX p m c cc nL s args cw RX6 D cA) {mc ms r b : Nat} {fs : List Value} {rm : Room} {x0 x1 : Value} {post : Int32 → PIC → Prop} (d : decode cc pc = .ok (.invokevirtual 143, 3)) (he : pic r = some (b, .inr (9, fs))) (hM : CI l yX6_has cX6_has 3 ((some .boolean)) rm mc ms D cA base pic (.ref b :: [x0, x1]) post) (hrc : rm.cells = mc) (hrs : rm.slots = ms) (hrm : rm.frames + 1 ≤ R.frames ∧ 8 + (3 + 11) + rm.locals ≤ R.locals) (hcat : (st.map fun v => v.category).sum ≤ 8) (hcs : cells + mc ≤ R.cells ∧ slots + ms ≤ R.slots) (kk : ∀ (x : Int32) (pic1 : PIC), post x pic1 → V p l e R s m args below meth c Q D base nL pic1 lv (pc + 3) (.int x :: st) (cells + mc) (slots + ms)) : V p l e R s m args below meth c Q D base nL pic lv (pc) (x1 :: x0 :: .ref b :: st) cells slots := v_callVI K (As := [x0, x1]) (C := RX6) (T := TX6) (N := 24) gw_424 gw_425 gw_426 gw_5 gw_427 rfl ⟨rfl, by decide, by decide, (by decide +kernel : (parseMethodDescriptor yX6_has.desc).map (fun d => d.parameters.length) = some 2)⟩ d he hM hrc hrs hrm rfl hcat hcs kk
end LK
end
section
theorem m1T : (-1 : Int32).toInt = -1 := by decide
theorem sub1 (a : Nat) : nI a + Int32.ofInt (-1) = nI a - nI 1 := by
  rw [show Int32.ofInt (-1) = -nI 1 from by decide]
  exact (Int32.sub_eq_add_neg ..).symm
theorem lcons {lv : LV} {i : Nat} {v : Value} {t : List (Nat × Value)} (h : lv i = some v) (ht : ∀ q ∈ t, lv q.1 = some q.2) : ∀ q ∈ (i, v) :: t, lv q.1 = some q.2 := List.forall_mem_cons.mpr ⟨h, ht⟩
theorem lnil {lv : LV} : ∀ q ∈ ([] : List (Nat × Value)), lv q.1 = some q.2 := fun _ h => absurd h List.not_mem_nil
theorem v_at {p : Program} {l : Launch} {e : Env} {R : Room} {s : State} {m : MethodId} {args : Array Value} {below : List Frame} {meth : Method} {c : Code} {Q : State → Prop} {D : va_G} {base nL : Nat} {pic : PIC} {lv : LV} {pc : Nat} {st : List Value} {cells slots : Nat} (t : List (Nat × Value)) (h : ∀ q ∈ t, lv q.1 = some q.2) (k : V p l e R s m args below meth c Q D base nL pic (lvOf t) pc st cells slots) : V p l e R s m args below meth c Q D base nL pic lv pc st cells slots := V.locals (fun i v hv => h (i, v) (lvOf_mem t i v hv)) k
theorem v_iincS {p : Program} {l : Launch} {e : Env} {R : Room} {s : State} {m : MethodId} {args : Array Value} {below : List Frame} {meth : Method} {c : Code} {Q : State → Prop} {D : va_G} {cA : Nat → ClassId} {base nL : Nat} {pic : PIC} {lv : LV} {pc : Nat} {st : List Value} {cells slots : Nat} {cc : ByteArray} {cw : Cond} {own : String} (K : KX p m c cc nL s args cw own D cA) {i a : Nat} (d : decode cc pc = .ok (.iinc i (-1), 3)) (h : lv i = some (.int (nI a))) (hn : i < nL) (k : V p l e R s m args below meth c Q D base nL pic (lset1 lv i (.int (nI a - nI 1))) (pc + 3) st cells slots) : V p l e R s m args below meth c Q D base nL pic lv pc st cells slots := v_iinc K _ d h (sub1 a) hn k
theorem df_X0 : ∀ j, j < 10 → defaultValue (tyX0 j) = vp_V [.null, .null, .null, .null, .null, .int 0, .int 0, .int 0, .long 0, .long 0] j := by decide +kernel
theorem nw_X0 {p : Program} {l : Launch} {e : Env} {R : Room} {s : State} {m : MethodId} {args : Array Value} {below : List Frame} {meth : Method} {c : Code} {Q : State → Prop} {D : va_G} {cA : Nat → ClassId} {base nL : Nat} {pic : PIC} {lv : LV} {pc : Nat} {st : List Value} {cells slots : Nat} {cc : ByteArray} {cw : Cond} {own : String} (K : KX p m c cc nL s args cw own D cA) (r : Nat) {index : Nat} (hcl : Cond.classLink own index RX0 ∈ G) (d : decode cc pc = .ok (.new index, 3)) (hr : pic r = none) (hcells : cells + 1 ≤ R.cells) (hslots : slots + 10 ≤ R.slots) (kk : ∀ (q : Nat) (pic1 : PIC), pic1 r = some (q, .inr (3, [.null, .null, .null, .null, .null, .int 0, .int 0, .int 0, .long 0, .long 0])) → (∀ z, z ≠ r → pic1 z = pic z) → V p l e R s m args below meth c Q D base nL pic1 lv (pc + 3) (.ref q :: st) (cells + 1) (slots + 10)) : V p l e R s m args below meth c Q D base nL pic lv pc st cells slots := v_new K r tyX0 tyX0_ok rfl in_wsX00 hcl gw_30 gw_31 df_X0 d hr hcells hslots kk
theorem df_X1 : ∀ j, j < 5 → defaultValue (tyX1 j) = vp_V [.null, .null, .null, .null, .int 0] j := by decide +kernel
theorem nw_X1 {p : Program} {l : Launch} {e : Env} {R : Room} {s : State} {m : MethodId} {args : Array Value} {below : List Frame} {meth : Method} {c : Code} {Q : State → Prop} {D : va_G} {cA : Nat → ClassId} {base nL : Nat} {pic : PIC} {lv : LV} {pc : Nat} {st : List Value} {cells slots : Nat} {cc : ByteArray} {cw : Cond} {own : String} (K : KX p m c cc nL s args cw own D cA) (r : Nat) {index : Nat} (hcl : Cond.classLink own index RX1 ∈ G) (d : decode cc pc = .ok (.new index, 3)) (hr : pic r = none) (hcells : cells + 1 ≤ R.cells) (hslots : slots + 5 ≤ R.slots) (kk : ∀ (q : Nat) (pic1 : PIC), pic1 r = some (q, .inr (4, [.null, .null, .null, .null, .int 0])) → (∀ z, z ≠ r → pic1 z = pic z) → V p l e R s m args below meth c Q D base nL pic1 lv (pc + 3) (.ref q :: st) (cells + 1) (slots + 5)) : V p l e R s m args below meth c Q D base nL pic lv pc st cells slots := v_new K r tyX1 tyX1_ok rfl in_wsX10 hcl gw_15 gw_16 df_X1 d hr hcells hslots kk
theorem df_X2 : ∀ j, j < 2 → defaultValue (tyX2 j) = vp_V [.null, .int 0] j := by decide +kernel
theorem nw_X2 {p : Program} {l : Launch} {e : Env} {R : Room} {s : State} {m : MethodId} {args : Array Value} {below : List Frame} {meth : Method} {c : Code} {Q : State → Prop} {D : va_G} {cA : Nat → ClassId} {base nL : Nat} {pic : PIC} {lv : LV} {pc : Nat} {st : List Value} {cells slots : Nat} {cc : ByteArray} {cw : Cond} {own : String} (K : KX p m c cc nL s args cw own D cA) (r : Nat) {index : Nat} (hcl : Cond.classLink own index RX2 ∈ G) (d : decode cc pc = .ok (.new index, 3)) (hr : pic r = none) (hcells : cells + 1 ≤ R.cells) (hslots : slots + 2 ≤ R.slots) (kk : ∀ (q : Nat) (pic1 : PIC), pic1 r = some (q, .inr (5, [.null, .int 0])) → (∀ z, z ≠ r → pic1 z = pic z) → V p l e R s m args below meth c Q D base nL pic1 lv (pc + 3) (.ref q :: st) (cells + 1) (slots + 2)) : V p l e R s m args below meth c Q D base nL pic lv pc st cells slots := v_new K r tyX2 tyX2_ok rfl in_wsX20 hcl gw_25 gw_26 df_X2 d hr hcells hslots kk
theorem df_X3 : ∀ j, j < 3 → defaultValue (tyX3 j) = vp_V [.int 0, .int 0, .int 0] j := by decide +kernel
theorem nw_X3 {p : Program} {l : Launch} {e : Env} {R : Room} {s : State} {m : MethodId} {args : Array Value} {below : List Frame} {meth : Method} {c : Code} {Q : State → Prop} {D : va_G} {cA : Nat → ClassId} {base nL : Nat} {pic : PIC} {lv : LV} {pc : Nat} {st : List Value} {cells slots : Nat} {cc : ByteArray} {cw : Cond} {own : String} (K : KX p m c cc nL s args cw own D cA) (r : Nat) {index : Nat} (hcl : Cond.classLink own index RX3 ∈ G) (d : decode cc pc = .ok (.new index, 3)) (hr : pic r = none) (hcells : cells + 1 ≤ R.cells) (hslots : slots + 3 ≤ R.slots) (kk : ∀ (q : Nat) (pic1 : PIC), pic1 r = some (q, .inr (6, [.int 0, .int 0, .int 0])) → (∀ z, z ≠ r → pic1 z = pic z) → V p l e R s m args below meth c Q D base nL pic1 lv (pc + 3) (.ref q :: st) (cells + 1) (slots + 3)) : V p l e R s m args below meth c Q D base nL pic lv pc st cells slots := v_new K r tyX3 tyX3_ok rfl in_wsX30 hcl gw_494 gw_293 df_X3 d hr hcells hslots kk
theorem df_X4 : ∀ j, j < 2 → defaultValue (tyX4 j) = vp_V [.null, .int 0] j := by decide +kernel
theorem nw_X4 {p : Program} {l : Launch} {e : Env} {R : Room} {s : State} {m : MethodId} {args : Array Value} {below : List Frame} {meth : Method} {c : Code} {Q : State → Prop} {D : va_G} {cA : Nat → ClassId} {base nL : Nat} {pic : PIC} {lv : LV} {pc : Nat} {st : List Value} {cells slots : Nat} {cc : ByteArray} {cw : Cond} {own : String} (K : KX p m c cc nL s args cw own D cA) (r : Nat) {index : Nat} (hcl : Cond.classLink own index RX4 ∈ G) (d : decode cc pc = .ok (.new index, 3)) (hr : pic r = none) (hcells : cells + 1 ≤ R.cells) (hslots : slots + 2 ≤ R.slots) (kk : ∀ (q : Nat) (pic1 : PIC), pic1 r = some (q, .inr (7, [.null, .int 0])) → (∀ z, z ≠ r → pic1 z = pic z) → V p l e R s m args below meth c Q D base nL pic1 lv (pc + 3) (.ref q :: st) (cells + 1) (slots + 2)) : V p l e R s m args below meth c Q D base nL pic lv pc st cells slots := v_new K r tyX4 tyX4_ok rfl in_wsX40 hcl gw_21 gw_22 df_X4 d hr hcells hslots kk
theorem df_X5 : ∀ j, j < 9 → defaultValue (tyX5 j) = vp_V [.null, .null, .null, .null, .null, .null, .int 0, .int 0, .int 0] j := by decide +kernel
theorem nw_X5 {p : Program} {l : Launch} {e : Env} {R : Room} {s : State} {m : MethodId} {args : Array Value} {below : List Frame} {meth : Method} {c : Code} {Q : State → Prop} {D : va_G} {cA : Nat → ClassId} {base nL : Nat} {pic : PIC} {lv : LV} {pc : Nat} {st : List Value} {cells slots : Nat} {cc : ByteArray} {cw : Cond} {own : String} (K : KX p m c cc nL s args cw own D cA) (r : Nat) {index : Nat} (hcl : Cond.classLink own index RX5 ∈ G) (d : decode cc pc = .ok (.new index, 3)) (hr : pic r = none) (hcells : cells + 1 ≤ R.cells) (hslots : slots + 9 ≤ R.slots) (kk : ∀ (q : Nat) (pic1 : PIC), pic1 r = some (q, .inr (8, [.null, .null, .null, .null, .null, .null, .int 0, .int 0, .int 0])) → (∀ z, z ≠ r → pic1 z = pic z) → V p l e R s m args below meth c Q D base nL pic1 lv (pc + 3) (.ref q :: st) (cells + 1) (slots + 9)) : V p l e R s m args below meth c Q D base nL pic lv pc st cells slots := v_new K r tyX5 tyX5_ok rfl in_wsX50 hcl gw_1 gw_2 df_X5 d hr hcells hslots kk
theorem df_X6 : ∀ j, j < 24 → defaultValue (tyX6 j) = vp_V [.int 0, .null, .null, .null, .null, .null, .null, .null, .null, .int 0, .int 0, .int 0, .int 0, .null, .null, .null, .null, .null, .int 0, .int 0, .null, .null, .null, .null] j := by decide +kernel
theorem nw_X6 {p : Program} {l : Launch} {e : Env} {R : Room} {s : State} {m : MethodId} {args : Array Value} {below : List Frame} {meth : Method} {c : Code} {Q : State → Prop} {D : va_G} {cA : Nat → ClassId} {base nL : Nat} {pic : PIC} {lv : LV} {pc : Nat} {st : List Value} {cells slots : Nat} {cc : ByteArray} {cw : Cond} {own : String} (K : KX p m c cc nL s args cw own D cA) (r : Nat) {index : Nat} (hcl : Cond.classLink own index RX6 ∈ G) (d : decode cc pc = .ok (.new index, 3)) (hr : pic r = none) (hcells : cells + 1 ≤ R.cells) (hslots : slots + 24 ≤ R.slots) (kk : ∀ (q : Nat) (pic1 : PIC), pic1 r = some (q, .inr (9, [.int 0, .null, .null, .null, .null, .null, .null, .null, .null, .int 0, .int 0, .int 0, .int 0, .null, .null, .null, .null, .null, .int 0, .int 0, .null, .null, .null, .null])) → (∀ z, z ≠ r → pic1 z = pic z) → V p l e R s m args below meth c Q D base nL pic1 lv (pc + 3) (.ref q :: st) (cells + 1) (slots + 24)) : V p l e R s m args below meth c Q D base nL pic lv pc st cells slots := v_new K r tyX6 tyX6_ok rfl in_wsX60 hcl gw_4 gw_5 df_X6 d hr hcells hslots kk
/-- the calls that are open: the object at role 1, its rows at 2 to 5 -/
def CallsP (pic : PIC) (cA : Nat → ClassId) (aC aL aU aE aK d : Nat) (lim use beg cau : Nat → Int32) : Prop :=
  pic 1 = some (aC, .inr (4, [.ref aL, .ref aU, .ref aE, .ref aK, .int (nI d)])) ∧ pic 2 = some (aL, .inl (cA 0, 8, .inl lim)) ∧ pic 3 = some (aU, .inl (cA 0, 8, .inl use)) ∧ pic 4 = some (aE, .inl (cA 0, 8, .inl beg)) ∧ pic 5 = some (aK, .inl (cA 2, 8, .inl cau))
theorem CallsP.kept {pic pic1 : PIC} {cA : Nat → ClassId} {aC aL aU aE aK d : Nat} {lim use beg cau : Nat → Int32} (h : CallsP pic cA aC aL aU aE aK d lim use beg cau) (hk : ∀ q, 1 ≤ q → q < 6 → pic1 q = pic q) : CallsP pic1 cA aC aL aU aE aK d lim use beg cau :=
  ⟨(hk 1 (by omega) (by omega)).trans h.1, (hk 2 (by omega) (by omega)).trans h.2.1, (hk 3 (by omega) (by omega)).trans h.2.2.1, (hk 4 (by omega) (by omega)).trans h.2.2.2.1, (hk 5 (by omega) (by omega)).trans h.2.2.2.2⟩
def leftF (d : Nat) (lim use : Nat → Int32) : Int32 := if d = 0 then 0 else lim (d - 1) - use (d - 1)
def popU (d : Nat) (use : Nat → Int32) : Nat → Int32 := if d ≤ 1 then use else upd use (d - 2) (use (d - 2) + use (d - 1))
/-- calls fail, the innermost first, up to one that is caught: what stays open, the units, the events, how many failed -/
def failF (beg cau : Nat → Int32) : Nat → (Nat → Int32) → Int32 → Nat × (Nat → Int32) × Int32 × Nat
  | 0, use, cnt => (0, use, cnt, 0)
  | d + 1, use, _ => if cau d = 0 then ((failF beg cau d (popU (d + 1) use) (beg d)).1, (failF beg cau d (popU (d + 1) use) (beg d)).2.1, (failF beg cau d (popU (d + 1) use) (beg d)).2.2.1, (failF beg cau d (popU (d + 1) use) (beg d)).2.2.2 + 1) else (d, popU (d + 1) use, beg d, 1)
/-- a block's object: its rows' addresses, how many events, kept, its first serial, its root, its filter -/
abbrev bkE (r1 r2 r3 r4 r5 : Nat) (cnt kept fs : Int32) (rd fb : Int64) : va_E := .inr (3, [.ref r1, .ref r2, .ref r3, .ref r4, .ref r5, .int cnt, .int kept, .int fs, .long rd, .long fb])
end
section
set_option maxHeartbeats 4000000 in
set_option maxRecDepth 100000 in
theorem c_X1_usedOfInnermost (l : Launch) (D : va_G) (cA : Nat → ClassId) (base : Nat) (pic : PIC) (aC aL aU aE aK d : Nat) (lim use beg cau : Nat → Int32) (hC : CallsP pic cA aC aL aU aE aK d lim use beg cau) (hd : d ≤ 8)  : CI l yX1_usedOfInnermost cX1_usedOfInnermost 1 (some .int) { frames := 0, cells := 0, slots := 0, locals := 0 } 0 0 D cA base pic [.ref aC] (fun x pic1 => pic = pic1 ∧ x = (if d = 0 then 0 else use (d - 1))) := by
  refine ofI (by decide) (Nat.le_of_ble_eq_true rfl) ?_
  intro p e s m below meth c K hr hlk hnm
  obtain ⟨f0, f1, f2, f3, f4⟩ := hC
  refine v_aload_n K 0 dX1_usedOfInnermost_0 rfl rfl ?_
  refine gf_X1_25 K dX1_usedOfInnermost_1 f0 rfl ?_
  refine v_if_ne K 11 dX1_usedOfInnermost_4 (by decide) (nI_toInt (by omega)) (fun c4 => ?_) (fun c4 => ?_)
  · refine v_aload_n K 0 dX1_usedOfInnermost_11 rfl rfl ?_
    refine gf_X1_15 K dX1_usedOfInnermost_12 f0 rfl ?_
    refine v_aload_n K 0 dX1_usedOfInnermost_15 rfl rfl ?_
    refine gf_X1_25 K dX1_usedOfInnermost_16 f0 rfl ?_
    refine v_iconst (v := nI 1) K dX1_usedOfInnermost_19 (by decide) ?_
    refine v_isubN K dX1_usedOfInnermost_20 (by omega) ?_
    refine v_iald K dX1_usedOfInnermost_21 f2 (by omega) (by decide) ?_
    exact v_iret K dX1_usedOfInnermost_22 hr hlk (by decide) (by decide) (by first | exact (⟨rfl, by rw [if_pos (by omega)]; rfl⟩) | exact (⟨rfl, by rw [if_neg (by omega)]⟩))
  · refine v_iconst (v := nI 0) K dX1_usedOfInnermost_7 (by decide) ?_
    refine v_goto K 22 dX1_usedOfInnermost_8 (by decide) ?_
    exact v_iret K dX1_usedOfInnermost_22 hr hlk (by decide) (by decide) (by first | exact (⟨rfl, by rw [if_pos (by omega)]; rfl⟩) | exact (⟨rfl, by rw [if_neg (by omega)]⟩))

set_option maxHeartbeats 4000000 in
set_option maxRecDepth 100000 in
theorem c_X1_leftOfInnermost (l : Launch) (D : va_G) (cA : Nat → ClassId) (base : Nat) (pic : PIC) (aC aL aU aE aK d : Nat) (lim use beg cau : Nat → Int32) (hC : CallsP pic cA aC aL aU aE aK d lim use beg cau) (hd : d ≤ 8)  : CI l yX1_leftOfInnermost cX1_leftOfInnermost 1 (some .int) { frames := 0, cells := 0, slots := 0, locals := 0 } 0 0 D cA base pic [.ref aC] (fun x pic1 => pic = pic1 ∧ x = leftF d lim use) := by
  refine ofI (by decide) (Nat.le_of_ble_eq_true rfl) ?_
  intro p e s m below meth c K hr hlk hnm
  obtain ⟨f0, f1, f2, f3, f4⟩ := hC
  refine v_aload_n K 0 dX1_leftOfInnermost_0 rfl rfl ?_
  refine gf_X1_25 K dX1_leftOfInnermost_1 f0 rfl ?_
  refine v_if_ne K 11 dX1_leftOfInnermost_4 (by decide) (nI_toInt (by omega)) (fun c4 => ?_) (fun c4 => ?_)
  · refine v_aload_n K 0 dX1_leftOfInnermost_11 rfl rfl ?_
    refine gf_X1_9 K dX1_leftOfInnermost_12 f0 rfl ?_
    refine v_aload_n K 0 dX1_leftOfInnermost_15 rfl rfl ?_
    refine gf_X1_25 K dX1_leftOfInnermost_16 f0 rfl ?_
    refine v_iconst (v := nI 1) K dX1_leftOfInnermost_19 (by decide) ?_
    refine v_isubN K dX1_leftOfInnermost_20 (by omega) ?_
    refine v_iald K dX1_leftOfInnermost_21 f1 (by omega) (by decide) ?_
    refine v_aload_n K 0 dX1_leftOfInnermost_22 rfl rfl ?_
    refine gf_X1_15 K dX1_leftOfInnermost_23 f0 rfl ?_
    refine v_aload_n K 0 dX1_leftOfInnermost_26 rfl rfl ?_
    refine gf_X1_25 K dX1_leftOfInnermost_27 f0 rfl ?_
    refine v_iconst (v := nI 1) K dX1_leftOfInnermost_30 (by decide) ?_
    refine v_isubN K dX1_leftOfInnermost_31 (by omega) ?_
    refine v_iald K dX1_leftOfInnermost_32 f2 (by omega) (by decide) ?_
    refine v_isub K dX1_leftOfInnermost_33 ?_
    exact v_iret K dX1_leftOfInnermost_34 hr hlk (by decide) (by decide) (by first | exact (⟨rfl, by rw [leftF, if_pos (by omega)]; rfl⟩) | exact (⟨rfl, by rw [leftF, if_neg (by omega)]⟩))
  · refine v_iconst (v := nI 0) K dX1_leftOfInnermost_7 (by decide) ?_
    refine v_goto K 34 dX1_leftOfInnermost_8 (by decide) ?_
    exact v_iret K dX1_leftOfInnermost_34 hr hlk (by decide) (by decide) (by first | exact (⟨rfl, by rw [leftF, if_pos (by omega)]; rfl⟩) | exact (⟨rfl, by rw [leftF, if_neg (by omega)]⟩))

set_option maxHeartbeats 4000000 in
set_option maxRecDepth 100000 in
theorem c_X1_pay (l : Launch) (D : va_G) (cA : Nat → ClassId) (base : Nat) (pic : PIC) (aC aL aU aE aK d : Nat) (lim use beg cau : Nat → Int32) (u : Int32) (hC : CallsP pic cA aC aL aU aE aK d lim use beg cau) (hd : d ≤ 8)  : CI l yX1_pay cX1_pay 2 (some .boolean) { frames := 1, cells := 0, slots := 0, locals := 20 } 0 0 D cA base pic [.ref aC, .int u] (fun x pic1 => (x = 0 ∧ pic = pic1 ∧ (d = 0 ∨ (leftF d lim use).toInt < u.toInt)) ∨ (x = 1 ∧ 0 < d ∧ u.toInt ≤ (leftF d lim use).toInt ∧ CallsP pic1 cA aC aL aU aE aK d lim (upd use (d - 1) (use (d - 1) + u)) beg cau ∧ ∀ q, ¬ (q = 3) → pic1 q = pic q)) := by
  refine ofI (by decide) (Nat.le_of_ble_eq_true rfl) ?_
  intro p e s m below meth c K hr hlk hnm
  have FR : ∀ q, ¬ (q = 3) → pic q = pic q := fun _ _ => rfl
  obtain ⟨f0, f1, f2, f3, f4⟩ := hC
  refine v_aload_n K 0 dX1_pay_0 rfl rfl ?_
  refine gf_X1_25 K dX1_pay_1 f0 rfl ?_
  refine v_if_eq K 15 dX1_pay_4 (by decide) (nI_toInt (by omega)) (fun c4 => ?_) (fun c4 => ?_)
  · refine v_iconst (v := nI 0) K dX1_pay_15 (by decide) ?_
    exact v_zret K dX1_pay_16 hr (narB (by first | exact isB0 | exact isB1 | assumption)) hlk (by decide) (by decide) (by first | exact (Or.inl ⟨rfl, rfl, Or.inl (by omega)⟩) | exact (Or.inl ⟨rfl, rfl, Or.inr (by omega)⟩) | exact (Or.inr ⟨rfl, by omega, by omega, ⟨f0, f1, f2, f3, f4⟩, FR⟩))
  · refine v_iload_n K 1 dX1_pay_7 rfl rfl ?_
    refine v_aload_n K 0 dX1_pay_8 rfl rfl ?_
    refine cl_X1_29 K dX1_pay_9 f0 (c_X1_leftOfInnermost l D cA base pic aC aL aU aE aK d lim use beg cau ⟨f0, f1, f2, f3, f4⟩ (by omega)) rfl rfl ⟨by decide, by decide⟩ (Nat.le_of_ble_eq_true rfl) ⟨by decide, by decide⟩ (fun x9 pic1 hx2 => ?_)
    obtain ⟨rfl, rfl⟩ := hx2
    refine v_icmp_le K 17 dX1_pay_12 (by decide) rfl rfl (fun c12 => ?_) (fun c12 => ?_)
    · refine v_aload_n K 0 dX1_pay_17 rfl rfl ?_
      refine gf_X1_15 K dX1_pay_18 f0 rfl ?_
      refine v_aload_n K 0 dX1_pay_21 rfl rfl ?_
      refine gf_X1_25 K dX1_pay_22 f0 rfl ?_
      refine v_iconst (v := nI 1) K dX1_pay_25 (by decide) ?_
      refine v_isubN K dX1_pay_26 (by omega) ?_
      refine v_dup2 K dX1_pay_27 rfl rfl ?_
      refine v_iald K dX1_pay_28 f2 (by omega) (by decide) ?_
      refine v_iload_n K 1 dX1_pay_29 rfl rfl ?_
      refine v_iadd K dX1_pay_30 ?_
      refine v_iast K dX1_pay_31 f2 (by omega) (by decide) (fun pic5 g3 fr4 => ?_)
      replace f0 := (fr4 _ (by omega)).trans f0
      replace f1 := (fr4 _ (by omega)).trans f1
      replace f2 := g3
      replace f3 := (fr4 _ (by omega)).trans f3
      replace f4 := (fr4 _ (by omega)).trans f4
      have FR : ∀ q, ¬ (q = 3) → pic5 q = pic q := fun q hq => (fr4 q (by omega)).trans (FR q hq)
      refine v_iconst (v := nI 1) K dX1_pay_32 (by decide) ?_
      exact v_zret K dX1_pay_33 hr (narB (by first | exact isB0 | exact isB1 | assumption)) hlk (by decide) (by decide) (by first | exact (Or.inl ⟨rfl, rfl, Or.inl (by omega)⟩) | exact (Or.inl ⟨rfl, rfl, Or.inr (by omega)⟩) | exact (Or.inr ⟨rfl, by omega, by omega, ⟨f0, f1, f2, f3, f4⟩, FR⟩))
    · refine v_iconst (v := nI 0) K dX1_pay_15 (by decide) ?_
      exact v_zret K dX1_pay_16 hr (narB (by first | exact isB0 | exact isB1 | assumption)) hlk (by decide) (by decide) (by first | exact (Or.inl ⟨rfl, rfl, Or.inl (by omega)⟩) | exact (Or.inl ⟨rfl, rfl, Or.inr (by omega)⟩) | exact (Or.inr ⟨rfl, by omega, by omega, ⟨f0, f1, f2, f3, f4⟩, FR⟩))

def pushL (d : Nat) (lim use : Nat → Int32) (x : Int32) : Int32 := if d = 0 then x else if leftF d lim use < x then leftF d lim use else x
set_option maxHeartbeats 4000000 in
set_option maxRecDepth 100000 in
theorem c_X1_push (l : Launch) (D : va_G) (cA : Nat → ClassId) (base : Nat) (pic : PIC) (aC aL aU aE aK d : Nat) (lim use beg cau : Nat → Int32) (x k v : Int32) (hC : CallsP pic cA aC aL aU aE aK d lim use beg cau) (hd : d < 8) (hk : isB k)  : CV l yX1_push cX1_push 4 none { frames := 1, cells := 0, slots := 0, locals := 20 } 0 0 D cA base pic [.ref aC, .int x, .int k, .int v] (fun pic1 => CallsP pic1 cA aC aL aU aE aK (d + 1) (upd lim d (pushL d lim use x)) (upd use d 0) (upd beg d v) (upd cau d k) ∧ ∀ q, ¬ (1 ≤ q ∧ q < 6) → pic1 q = pic q) := by
  refine ofV (by decide) (Nat.le_of_ble_eq_true rfl) ?_
  intro p e s m below meth c K hr hlk hnm
  have FR : ∀ q, ¬ (1 ≤ q ∧ q < 6) → pic q = pic q := fun _ _ => rfl
  obtain ⟨f0, f1, f2, f3, f4⟩ := hC
  refine v_aload_n K 0 dX1_push_0 rfl rfl ?_
  refine gf_X1_9 K dX1_push_1 f0 rfl ?_
  refine v_aload_n K 0 dX1_push_4 rfl rfl ?_
  refine gf_X1_25 K dX1_push_5 f0 rfl ?_
  refine v_aload_n K 0 dX1_push_8 rfl rfl ?_
  refine gf_X1_25 K dX1_push_9 f0 rfl ?_
  refine v_if_ne K 19 dX1_push_12 (by decide) (nI_toInt (by omega)) (fun c12 => ?_) (fun c12 => ?_)
  · refine v_iload_n K 1 dX1_push_19 rfl rfl ?_
    refine v_aload_n K 0 dX1_push_20 rfl rfl ?_
    refine cl_X1_29 K dX1_push_21 f0 (c_X1_leftOfInnermost l D cA base pic aC aL aU aE aK d lim use beg cau ⟨f0, f1, f2, f3, f4⟩ (by omega)) rfl rfl ⟨by decide, by decide⟩ (Nat.le_of_ble_eq_true rfl) ⟨by decide, by decide⟩ (fun x21 pic1 hx2 => ?_)
    obtain ⟨rfl, rfl⟩ := hx2
    refine v_min K gw_112 gw_113 gw_114 gw_115 dX1_push_24 (by decide) (Nat.le_of_ble_eq_true rfl) (by decide) (by decide) ?_
    refine v_iast K dX1_push_27 f1 (by omega) (by decide) (fun pic5 g3 fr4 => ?_)
    replace f0 := (fr4 _ (by omega)).trans f0
    replace f1 := g3
    replace f2 := (fr4 _ (by omega)).trans f2
    replace f3 := (fr4 _ (by omega)).trans f3
    replace f4 := (fr4 _ (by omega)).trans f4
    have FR : ∀ q, ¬ (1 ≤ q ∧ q < 6) → pic5 q = pic q := fun q hq => (fr4 q (by omega)).trans (FR q hq)
    refine v_aload_n K 0 dX1_push_28 rfl rfl ?_
    refine gf_X1_15 K dX1_push_29 f0 rfl ?_
    refine v_aload_n K 0 dX1_push_32 rfl rfl ?_
    refine gf_X1_25 K dX1_push_33 f0 rfl ?_
    refine v_iconst (v := nI 0) K dX1_push_36 (by decide) ?_
    refine v_iast K dX1_push_37 f2 (by omega) (by decide) (fun pic8 g6 fr7 => ?_)
    replace f0 := (fr7 _ (by omega)).trans f0
    replace f1 := (fr7 _ (by omega)).trans f1
    replace f2 := g6
    replace f3 := (fr7 _ (by omega)).trans f3
    replace f4 := (fr7 _ (by omega)).trans f4
    have FR : ∀ q, ¬ (1 ≤ q ∧ q < 6) → pic8 q = pic q := fun q hq => (fr7 q (by omega)).trans (FR q hq)
    refine v_aload_n K 0 dX1_push_38 rfl rfl ?_
    refine gf_X1_18 K dX1_push_39 f0 rfl ?_
    refine v_aload_n K 0 dX1_push_42 rfl rfl ?_
    refine gf_X1_25 K dX1_push_43 f0 rfl ?_
    refine v_iload_n K 3 dX1_push_46 rfl rfl ?_
    refine v_iast K dX1_push_47 f3 (by omega) (by decide) (fun pic11 g9 fr10 => ?_)
    replace f0 := (fr10 _ (by omega)).trans f0
    replace f1 := (fr10 _ (by omega)).trans f1
    replace f2 := (fr10 _ (by omega)).trans f2
    replace f3 := g9
    replace f4 := (fr10 _ (by omega)).trans f4
    have FR : ∀ q, ¬ (1 ≤ q ∧ q < 6) → pic11 q = pic q := fun q hq => (fr10 q (by omega)).trans (FR q hq)
    refine v_aload_n K 0 dX1_push_48 rfl rfl ?_
    refine gf_X1_21 K dX1_push_49 f0 rfl ?_
    refine v_aload_n K 0 dX1_push_52 rfl rfl ?_
    refine gf_X1_25 K dX1_push_53 f0 rfl ?_
    refine v_iload_n K 2 dX1_push_56 rfl rfl ?_
    refine v_zast K dX1_push_57 f4 (by omega) (by decide) (narB (by first | exact isB0 | exact isB1 | assumption)) (fun pic14 g12 fr13 => ?_)
    replace f0 := (fr13 _ (by omega)).trans f0
    replace f1 := (fr13 _ (by omega)).trans f1
    replace f2 := (fr13 _ (by omega)).trans f2
    replace f3 := (fr13 _ (by omega)).trans f3
    replace f4 := g12
    have FR : ∀ q, ¬ (1 ≤ q ∧ q < 6) → pic14 q = pic q := fun q hq => (fr13 q (by omega)).trans (FR q hq)
    refine v_aload_n K 0 dX1_push_58 rfl rfl ?_
    refine v_dup K dX1_push_59 rfl ?_
    refine gf_X1_25 K dX1_push_60 f0 rfl ?_
    refine v_iconst (v := nI 1) K dX1_push_63 (by decide) ?_
    refine v_iaddN K dX1_push_64 ?_
    refine pf_X1_25 K dX1_push_65 f0 (Nat.le_of_ble_eq_true rfl) (fun pic17 g15 fr16 => ?_)
    replace f0 := g15
    replace f1 := (fr16 _ (by omega)).trans f1
    replace f2 := (fr16 _ (by omega)).trans f2
    replace f3 := (fr16 _ (by omega)).trans f3
    replace f4 := (fr16 _ (by omega)).trans f4
    have FR : ∀ q, ¬ (1 ≤ q ∧ q < 6) → pic17 q = pic q := fun q hq => (fr16 q (by omega)).trans (FR q hq)
    exact v_vret K dX1_push_68 hr hlk (by decide) (by decide) (by first | exact (⟨⟨f0, by rw [show pushL d lim use x = x from by rw [pushL, if_pos (by omega)]]; exact f1, f2, f3, f4⟩, FR⟩) | exact (⟨⟨f0, by rw [show pushL d lim use x = _ from by rw [pushL, if_neg (by omega)]]; exact f1, f2, f3, f4⟩, FR⟩))
  · refine v_iload_n K 1 dX1_push_15 rfl rfl ?_
    refine v_goto K 27 dX1_push_16 (by decide) ?_
    refine v_iast K dX1_push_27 f1 (by omega) (by decide) (fun pic20 g18 fr19 => ?_)
    replace f0 := (fr19 _ (by omega)).trans f0
    replace f1 := g18
    replace f2 := (fr19 _ (by omega)).trans f2
    replace f3 := (fr19 _ (by omega)).trans f3
    replace f4 := (fr19 _ (by omega)).trans f4
    have FR : ∀ q, ¬ (1 ≤ q ∧ q < 6) → pic20 q = pic q := fun q hq => (fr19 q (by omega)).trans (FR q hq)
    refine v_aload_n K 0 dX1_push_28 rfl rfl ?_
    refine gf_X1_15 K dX1_push_29 f0 rfl ?_
    refine v_aload_n K 0 dX1_push_32 rfl rfl ?_
    refine gf_X1_25 K dX1_push_33 f0 rfl ?_
    refine v_iconst (v := nI 0) K dX1_push_36 (by decide) ?_
    refine v_iast K dX1_push_37 f2 (by omega) (by decide) (fun pic23 g21 fr22 => ?_)
    replace f0 := (fr22 _ (by omega)).trans f0
    replace f1 := (fr22 _ (by omega)).trans f1
    replace f2 := g21
    replace f3 := (fr22 _ (by omega)).trans f3
    replace f4 := (fr22 _ (by omega)).trans f4
    have FR : ∀ q, ¬ (1 ≤ q ∧ q < 6) → pic23 q = pic q := fun q hq => (fr22 q (by omega)).trans (FR q hq)
    refine v_aload_n K 0 dX1_push_38 rfl rfl ?_
    refine gf_X1_18 K dX1_push_39 f0 rfl ?_
    refine v_aload_n K 0 dX1_push_42 rfl rfl ?_
    refine gf_X1_25 K dX1_push_43 f0 rfl ?_
    refine v_iload_n K 3 dX1_push_46 rfl rfl ?_
    refine v_iast K dX1_push_47 f3 (by omega) (by decide) (fun pic26 g24 fr25 => ?_)
    replace f0 := (fr25 _ (by omega)).trans f0
    replace f1 := (fr25 _ (by omega)).trans f1
    replace f2 := (fr25 _ (by omega)).trans f2
    replace f3 := g24
    replace f4 := (fr25 _ (by omega)).trans f4
    have FR : ∀ q, ¬ (1 ≤ q ∧ q < 6) → pic26 q = pic q := fun q hq => (fr25 q (by omega)).trans (FR q hq)
    refine v_aload_n K 0 dX1_push_48 rfl rfl ?_
    refine gf_X1_21 K dX1_push_49 f0 rfl ?_
    refine v_aload_n K 0 dX1_push_52 rfl rfl ?_
    refine gf_X1_25 K dX1_push_53 f0 rfl ?_
    refine v_iload_n K 2 dX1_push_56 rfl rfl ?_
    refine v_zast K dX1_push_57 f4 (by omega) (by decide) (narB (by first | exact isB0 | exact isB1 | assumption)) (fun pic29 g27 fr28 => ?_)
    replace f0 := (fr28 _ (by omega)).trans f0
    replace f1 := (fr28 _ (by omega)).trans f1
    replace f2 := (fr28 _ (by omega)).trans f2
    replace f3 := (fr28 _ (by omega)).trans f3
    replace f4 := g27
    have FR : ∀ q, ¬ (1 ≤ q ∧ q < 6) → pic29 q = pic q := fun q hq => (fr28 q (by omega)).trans (FR q hq)
    refine v_aload_n K 0 dX1_push_58 rfl rfl ?_
    refine v_dup K dX1_push_59 rfl ?_
    refine gf_X1_25 K dX1_push_60 f0 rfl ?_
    refine v_iconst (v := nI 1) K dX1_push_63 (by decide) ?_
    refine v_iaddN K dX1_push_64 ?_
    refine pf_X1_25 K dX1_push_65 f0 (Nat.le_of_ble_eq_true rfl) (fun pic32 g30 fr31 => ?_)
    replace f0 := g30
    replace f1 := (fr31 _ (by omega)).trans f1
    replace f2 := (fr31 _ (by omega)).trans f2
    replace f3 := (fr31 _ (by omega)).trans f3
    replace f4 := (fr31 _ (by omega)).trans f4
    have FR : ∀ q, ¬ (1 ≤ q ∧ q < 6) → pic32 q = pic q := fun q hq => (fr31 q (by omega)).trans (FR q hq)
    exact v_vret K dX1_push_68 hr hlk (by decide) (by decide) (by first | exact (⟨⟨f0, by rw [show pushL d lim use x = x from by rw [pushL, if_pos (by omega)]]; exact f1, f2, f3, f4⟩, FR⟩) | exact (⟨⟨f0, by rw [show pushL d lim use x = _ from by rw [pushL, if_neg (by omega)]]; exact f1, f2, f3, f4⟩, FR⟩))

set_option maxHeartbeats 4000000 in
set_option maxRecDepth 100000 in
theorem c_X1_pop (l : Launch) (D : va_G) (cA : Nat → ClassId) (base : Nat) (pic : PIC) (aC aL aU aE aK d : Nat) (lim use beg cau : Nat → Int32) (hC : CallsP pic cA aC aL aU aE aK d lim use beg cau) (hd : d ≤ 8) (h0 : 0 < d)  : CI l yX1_pop cX1_pop 2 (some .int) { frames := 0, cells := 0, slots := 0, locals := 0 } 0 0 D cA base pic [.ref aC] (fun x pic1 => x = use (d - 1) ∧ CallsP pic1 cA aC aL aU aE aK (d - 1) lim (popU d use) beg cau ∧ ∀ q, ¬ (1 ≤ q ∧ q < 6) → pic1 q = pic q) := by
  refine ofI (by decide) (Nat.le_of_ble_eq_true rfl) ?_
  intro p e s m below meth c K hr hlk hnm
  have FR : ∀ q, ¬ (1 ≤ q ∧ q < 6) → pic q = pic q := fun _ _ => rfl
  obtain ⟨f0, f1, f2, f3, f4⟩ := hC
  refine v_aload_n K 0 dX1_pop_0 rfl rfl ?_
  refine v_dup K dX1_pop_1 rfl ?_
  refine gf_X1_25 K dX1_pop_2 f0 rfl ?_
  refine v_iconst (v := nI 1) K dX1_pop_5 (by decide) ?_
  refine v_isubN K dX1_pop_6 (by omega) ?_
  refine pf_X1_25 K dX1_pop_7 f0 (Nat.le_of_ble_eq_true rfl) (fun pic3 g1 fr2 => ?_)
  replace f0 := g1
  replace f1 := (fr2 _ (by omega)).trans f1
  replace f2 := (fr2 _ (by omega)).trans f2
  replace f3 := (fr2 _ (by omega)).trans f3
  replace f4 := (fr2 _ (by omega)).trans f4
  have FR : ∀ q, ¬ (1 ≤ q ∧ q < 6) → pic3 q = pic q := fun q hq => (fr2 q (by omega)).trans (FR q hq)
  refine v_aload_n K 0 dX1_pop_10 rfl rfl ?_
  refine gf_X1_15 K dX1_pop_11 f0 rfl ?_
  refine v_aload_n K 0 dX1_pop_14 rfl rfl ?_
  refine gf_X1_25 K dX1_pop_15 f0 rfl ?_
  refine v_iald K dX1_pop_18 f2 (by omega) (by decide) ?_
  refine v_istore_n K 1 dX1_pop_19 rfl (by decide) ?_
  refine v_aload_n K 0 dX1_pop_20 rfl rfl ?_
  refine gf_X1_25 K dX1_pop_21 f0 rfl ?_
  refine v_if_le K 42 dX1_pop_24 (by decide) (nI_toInt (by omega)) (fun c24 => ?_) (fun c24 => ?_)
  · refine v_iload_n K 1 dX1_pop_42 rfl rfl ?_
    exact v_iret K dX1_pop_43 hr hlk (by decide) (by decide) (by first | exact (⟨rfl, ⟨f0, f1, by rw [popU, if_pos (by omega)]; exact f2, f3, f4⟩, FR⟩) | exact (⟨rfl, ⟨f0, f1, by rw [popU, if_neg (by omega)]; exact f2, f3, f4⟩, FR⟩))
  · refine v_aload_n K 0 dX1_pop_27 rfl rfl ?_
    refine gf_X1_15 K dX1_pop_28 f0 rfl ?_
    refine v_aload_n K 0 dX1_pop_31 rfl rfl ?_
    refine gf_X1_25 K dX1_pop_32 f0 rfl ?_
    refine v_iconst (v := nI 1) K dX1_pop_35 (by decide) ?_
    refine v_isubN K dX1_pop_36 (by omega) ?_
    refine v_dup2 K dX1_pop_37 rfl rfl ?_
    refine v_iald K dX1_pop_38 f2 (by omega) (by decide) ?_
    refine v_iload_n K 1 dX1_pop_39 rfl rfl ?_
    refine v_iadd K dX1_pop_40 ?_
    refine v_iast K dX1_pop_41 f2 (by omega) (by decide) (fun pic6 g4 fr5 => ?_)
    replace f0 := (fr5 _ (by omega)).trans f0
    replace f1 := (fr5 _ (by omega)).trans f1
    replace f2 := g4
    replace f3 := (fr5 _ (by omega)).trans f3
    replace f4 := (fr5 _ (by omega)).trans f4
    have FR : ∀ q, ¬ (1 ≤ q ∧ q < 6) → pic6 q = pic q := fun q hq => (fr5 q (by omega)).trans (FR q hq)
    refine v_iload_n K 1 dX1_pop_42 rfl rfl ?_
    exact v_iret K dX1_pop_43 hr hlk (by decide) (by decide) (by first | exact (⟨rfl, ⟨f0, f1, by rw [popU, if_pos (by omega)]; exact f2, f3, f4⟩, FR⟩) | exact (⟨rfl, ⟨f0, f1, by rw [popU, if_neg (by omega)]; exact f2, f3, f4⟩, FR⟩))

theorem t0 {x : Int32} (h : x.toInt = 0) : x = 0 := Int32.toInt_inj.mp h
theorem nt0 {x : Int32} (h : x.toInt ≠ 0) : ¬ x = 0 := fun e => h (by rw [e]; rfl)
theorem failF_0 {beg cau use : Nat → Int32} {cnt : Int32} {d : Nat} (h : cau d = 0) : failF beg cau (d + 1) use cnt = ((failF beg cau d (popU (d + 1) use) (beg d)).1, (failF beg cau d (popU (d + 1) use) (beg d)).2.1, (failF beg cau d (popU (d + 1) use) (beg d)).2.2.1, (failF beg cau d (popU (d + 1) use) (beg d)).2.2.2 + 1) := by rw [failF, if_pos h]
theorem failF_1 {beg cau use : Nat → Int32} {cnt : Int32} {d : Nat} (h : ¬ cau d = 0) : failF beg cau (d + 1) use cnt = (d, popU (d + 1) use, beg d, 1) := by rw [failF, if_neg h]
set_option maxHeartbeats 4000000 in
set_option maxRecDepth 100000 in
theorem l_X1_fail {p : Program} {l : Launch} {e : Env} {s : State} {m : MethodId} {args : Array Value} {below : List Frame} {meth : Method} {c : Code} {Q : State → Prop} {D : va_G} {cA : Nat → ClassId} {base : Nat} {cw : Cond} (K : KX p m c cX1_fail 5 s args cw RX1 D cA) (aC aL aU aE aK : Nat) (lim beg cau : Nat → Int32) (b aB r1 r2 r3 r4 r5 : Nat) (kept fs : Int32) (rd fb : Int64) (hb : 6 ≤ b) (pic0 : PIC) : ∀ (d : Nat) (pic : PIC) (use : Nat → Int32) (cnt : Int32) (k : Nat), d ≤ 8 → CallsP pic cA aC aL aU aE aK d lim use beg cau → pic b = some (aB, bkE r1 r2 r3 r4 r5 cnt kept fs rd fb) → (∀ q, ¬ (1 ≤ q ∧ q < 6 ∨ q = b) → pic q = pic0 q) → (∀ pic1 : PIC, CallsP pic1 cA aC aL aU aE aK (failF beg cau d use cnt).1 lim (failF beg cau d use cnt).2.1 beg cau → pic1 b = some (aB, bkE r1 r2 r3 r4 r5 (failF beg cau d use cnt).2.2.1 kept fs rd fb) → (∀ q, ¬ (1 ≤ q ∧ q < 6 ∨ q = b) → pic1 q = pic0 q) → V p l e { frames := 1, cells := 0, slots := 0, locals := 21 } s m args below meth c Q D base 5 pic1 (lvOf [(2, .int (nI (k + (failF beg cau d use cnt).2.2.2)))]) 62 [] 0 0) → V p l e { frames := 1, cells := 0, slots := 0, locals := 21 } s m args below meth c Q D base 5 pic (lvOf [(0, .ref aC), (1, .ref aB), (2, .int (nI (k))), (3, .int (nI 1)), (4, .int (nI d - nI 1))]) 12 [] 0 0 := by
  intro d
  induction d with
  | zero =>
    intro pic use cnt k hd hC fB FR kx
    refine v_iload K dX1_fail_12 rfl ?_
    refine v_if_lt K 62 dX1_fail_14 (by decide) (pk_sub_toInt (by omega) (by omega)) (fun c14 => ?_) (fun c14 => absurd c14 (by omega))
    refine v_at [(2, .int (nI (k + 0)))] (lcons rfl (lnil)) ?_
    exact kx pic hC fB FR
  | succ e1 ih =>
    intro pic use cnt k hd hC fB FR kx
    obtain ⟨f0, f1, f2, f3, f4⟩ := hC
    rw [show nI (e1 + 1) - nI 1 = nI e1 from pk_sub (by omega)]
    refine v_iload K dX1_fail_12 rfl ?_
    refine v_if_lt K 62 dX1_fail_14 (by decide) (nI_toInt (by omega)) (fun c14 => absurd c14 (by omega)) (fun c14 => ?_)
    refine v_iload_n K 3 dX1_fail_17 rfl rfl ?_
    refine v_if_eq K 62 dX1_fail_18 (by decide) (nI_toInt (by omega)) (fun c => absurd c (by decide)) (fun _ => ?_)
    refine v_aload_n K 1 dX1_fail_21 rfl rfl ?_
    refine v_aload_n K 0 dX1_fail_22 rfl rfl ?_
    refine gf_X1_18 K dX1_fail_23 f0 rfl ?_
    refine v_iload K dX1_fail_26 rfl ?_
    refine v_iald K dX1_fail_28 f3 (by omega) (by decide) ?_
    refine pf_X1_39 K dX1_fail_29 fB (Nat.le_of_ble_eq_true rfl) (fun pic3 g1 fr2 => ?_)
    replace f0 := (fr2 _ (by omega)).trans f0
    replace f1 := (fr2 _ (by omega)).trans f1
    replace f2 := (fr2 _ (by omega)).trans f2
    replace f3 := (fr2 _ (by omega)).trans f3
    replace f4 := (fr2 _ (by omega)).trans f4
    replace fB := g1
    have FR : ∀ q, ¬ (1 ≤ q ∧ q < 6 ∨ q = b) → pic3 q = pic0 q := fun q hq => (fr2 q (by omega)).trans (FR q hq)
    refine v_aload_n K 0 dX1_fail_32 rfl rfl ?_
    refine gf_X1_21 K dX1_fail_33 f0 rfl ?_
    refine v_iload K dX1_fail_36 rfl ?_
    refine v_zald K dX1_fail_38 f4 (by omega) (by decide) ?_
    refine v_if_ne K 46 dX1_fail_39 (by decide) rfl (fun c39 => ?_) (fun c39 => ?_)
    · refine v_iconst (v := nI 0) K dX1_fail_46 (by decide) ?_
      refine v_istore_n K 3 dX1_fail_47 rfl (by decide) ?_
      refine v_aload_n K 0 dX1_fail_48 rfl rfl ?_
      refine cl_X1_44 K dX1_fail_49 f0 (c_X1_pop l D cA base pic3 aC aL aU aE aK (e1 + 1) lim use beg cau ⟨f0, f1, f2, f3, f4⟩ (by omega) (by omega)) rfl rfl ⟨by decide, by decide⟩ (Nat.le_of_ble_eq_true rfl) ⟨by decide, by decide⟩ (fun x49 pic4 hx5 => ?_)
      obtain ⟨-, ⟨h0, h1, h2, h3, h4⟩, h5⟩ := hx5
      replace f0 := h0
      replace f1 := h1
      replace f2 := h2
      replace f3 := h3
      replace f4 := h4
      replace fB := (h5 _ (by omega)).trans fB
      have FR : ∀ q, ¬ (1 ≤ q ∧ q < 6 ∨ q = b) → pic4 q = pic0 q := fun q hq => (h5 q (by omega)).trans (FR q hq)
      refine v_pop K dX1_fail_52 rfl ?_
      refine v_iincN K 1 dX1_fail_53 rfl (by decide) (by decide) ?_
      refine v_iincS K dX1_fail_56 rfl (by decide) ?_
      refine v_goto K 12 dX1_fail_59 (by decide) ?_
      refine v_iload K dX1_fail_12 rfl ?_
      refine v_if_lt K 62 dX1_fail_14 (by decide) (pk_sub_toInt (by omega) (by omega)) (fun c14 => ?_) (fun c14 => ?_)
      · simp only [failF_1 (nt0 c39)] at kx
        refine v_at [(2, .int (nI (k + 1)))] (lcons rfl (lnil)) ?_
        exact kx pic4 ⟨f0, f1, f2, f3, f4⟩ fB FR
      · refine v_iload_n K 3 dX1_fail_17 rfl rfl ?_
        refine v_if_eq K 62 dX1_fail_18 (by decide) (nI_toInt (by omega)) (fun _ => ?_) (fun c => absurd c (by decide))
        simp only [failF_1 (nt0 c39)] at kx
        refine v_at [(2, .int (nI (k + 1)))] (lcons rfl (lnil)) ?_
        exact kx pic4 ⟨f0, f1, f2, f3, f4⟩ fB FR
    · refine v_iconst (v := nI 1) K dX1_fail_42 (by decide) ?_
      refine v_goto K 47 dX1_fail_43 (by decide) ?_
      refine v_istore_n K 3 dX1_fail_47 rfl (by decide) ?_
      refine v_aload_n K 0 dX1_fail_48 rfl rfl ?_
      refine cl_X1_44 K dX1_fail_49 f0 (c_X1_pop l D cA base pic3 aC aL aU aE aK (e1 + 1) lim use beg cau ⟨f0, f1, f2, f3, f4⟩ (by omega) (by omega)) rfl rfl ⟨by decide, by decide⟩ (Nat.le_of_ble_eq_true rfl) ⟨by decide, by decide⟩ (fun x49 pic6 hx7 => ?_)
      obtain ⟨-, ⟨h0, h1, h2, h3, h4⟩, h5⟩ := hx7
      replace f0 := h0
      replace f1 := h1
      replace f2 := h2
      replace f3 := h3
      replace f4 := h4
      replace fB := (h5 _ (by omega)).trans fB
      have FR : ∀ q, ¬ (1 ≤ q ∧ q < 6 ∨ q = b) → pic6 q = pic0 q := fun q hq => (h5 q (by omega)).trans (FR q hq)
      refine v_pop K dX1_fail_52 rfl ?_
      refine v_iincN K 1 dX1_fail_53 rfl (by decide) (by decide) ?_
      refine v_iincS K dX1_fail_56 rfl (by decide) ?_
      refine v_goto K 12 dX1_fail_59 (by decide) ?_
      replace kx := fun pic1 => kx pic1
      simp only [failF_0 (t0 c39)] at kx
      refine v_at [(0, .ref aC), (1, .ref aB), (2, .int (nI (k + 1))), (3, .int (nI 1)), (4, .int (nI e1 - nI 1))] (lcons rfl (lcons rfl (lcons rfl (lcons rfl (lcons rfl (lnil)))))) ?_
      exact ih pic6 (popU (e1 + 1) use) (beg e1) (k + 1) (by omega) ⟨f0, f1, f2, f3, f4⟩ fB FR (fun pic1 h1 h2 h3 => by rw [show k + 1 + (failF beg cau e1 (popU (e1 + 1) use) (beg e1)).2.2.2 = k + ((failF beg cau e1 (popU (e1 + 1) use) (beg e1)).2.2.2 + 1) from by omega]; exact kx pic1 h1 h2 h3)

set_option maxHeartbeats 4000000 in
set_option maxRecDepth 100000 in
theorem c_X1_fail (l : Launch) (D : va_G) (cA : Nat → ClassId) (base : Nat) (pic : PIC) (aC aL aU aE aK d : Nat) (lim use beg cau : Nat → Int32) (b aB r1 r2 r3 r4 r5 : Nat) (kept fs : Int32) (rd fb : Int64) (cnt : Int32) (hC : CallsP pic cA aC aL aU aE aK d lim use beg cau) (hd : d ≤ 8) (fB : pic b = some (aB, bkE r1 r2 r3 r4 r5 cnt kept fs rd fb)) (hb : 6 ≤ b)  : CI l yX1_fail cX1_fail 5 (some .int) { frames := 1, cells := 0, slots := 0, locals := 21 } 0 0 D cA base pic [.ref aC, .ref aB] (fun x pic1 => x = nI (failF beg cau d use cnt).2.2.2 ∧ CallsP pic1 cA aC aL aU aE aK (failF beg cau d use cnt).1 lim (failF beg cau d use cnt).2.1 beg cau ∧ pic1 b = some (aB, bkE r1 r2 r3 r4 r5 (failF beg cau d use cnt).2.2.1 kept fs rd fb) ∧ ∀ q, ¬ (1 ≤ q ∧ q < 6 ∨ q = b) → pic1 q = pic q) := by
  refine ofI (by decide) (Nat.le_of_ble_eq_true rfl) ?_
  intro p e s m below meth c K hr hlk hnm
  have FR : ∀ q, ¬ (1 ≤ q ∧ q < 6 ∨ q = b) → pic q = pic q := fun _ _ => rfl
  obtain ⟨f0, f1, f2, f3, f4⟩ := hC
  refine v_iconst (v := nI 0) K dX1_fail_0 (by decide) ?_
  refine v_istore_n K 2 dX1_fail_1 rfl (by decide) ?_
  refine v_iconst (v := nI 1) K dX1_fail_2 (by decide) ?_
  refine v_istore_n K 3 dX1_fail_3 rfl (by decide) ?_
  refine v_aload_n K 0 dX1_fail_4 rfl rfl ?_
  refine gf_X1_25 K dX1_fail_5 f0 rfl ?_
  refine v_iconst (v := nI 1) K dX1_fail_8 (by decide) ?_
  refine v_isub K dX1_fail_9 ?_
  refine v_istore K dX1_fail_10 (by decide) ?_
  refine v_at [(0, .ref aC), (1, .ref aB), (2, .int (nI (0))), (3, .int (nI 1)), (4, .int (nI d - nI 1))] (lcons rfl (lcons rfl (lcons rfl (lcons rfl (lcons rfl (lnil)))))) ?_
  refine l_X1_fail K aC aL aU aE aK lim beg cau b aB r1 r2 r3 r4 r5 kept fs rd fb hb pic d pic use cnt 0 hd ⟨f0, f1, f2, f3, f4⟩ fB FR (fun pic1 h1 h2 h3 => ?_)
  rw [Nat.zero_add]
  refine v_iload_n K 2 dX1_fail_62 rfl rfl ?_
  exact v_iret K dX1_fail_63 hr hlk (by decide) (by decide) (⟨rfl, h1, h2, h3⟩)
end
section
def isTop (t : Int32) : Prop := 0 ≤ t.toInt ∧ t.toInt < 1000
def isTopN (t : Int32) : Prop := -1 ≤ t.toInt ∧ t.toInt < 1000
def evOK (ac a b c : Int32) : Prop := (0 ≤ ac.toInt ∧ ac.toInt < 10) ∧ isTop a ∧ isTopN b ∧ isTopN c ∧ (b.toInt = -1 → c.toInt = -1)
def tcF (b c : Int32) : Int32 := if b.toInt = -1 then nI 1 else if c.toInt = -1 then nI 2 else nI 3
def remF (x y : Int32) : Int32 := x - x / y * y
def bitF (t : Int32) : Int64 := (((1 : Int64) <<< ((remF t (nI 64)).toInt64 &&& 63)) ||| ((1 : Int64) <<< ((remF (nI 7 * t + nI 3) (nI 61)).toInt64 &&& 63))) ||| ((1 : Int64) <<< ((remF (nI 13 * t + nI 5) (nI 59)).toInt64 &&& 63))
def mixP (a b : Int64) : Int64 := (31 * a + b + 7) * -7046029254386353131
def mixF (a b : Int64) : Int64 := mixP a b ^^^ ((mixP a b).toUInt64 >>> ((nI 29).toInt64.toUInt64 &&& Int64.toUInt64 63)).toInt64
def mixO (d : Int64) (t : Int32) : Int64 := if t.toInt = -1 then d else mixF d t.toInt64
def leafF (ac a b c : Int32) (v : Int64) (i : Int32) : Int64 := mixF (mixO (mixO (mixF (mixF ac.toInt64 v) a.toInt64) b) c) i.toInt64
def tonF (t : Int32) : Int32 := if t.toInt = -1 then -5 else t
set_option maxHeartbeats 4000000 in
set_option maxRecDepth 100000 in
theorem c_X5_isTopic (l : Launch) (D : va_G) (cA : Nat → ClassId) (base : Nat) (pic : PIC) (t : Int32)  : CI l yX5_isTopic cX5_isTopic 1 (some .boolean) { frames := 0, cells := 0, slots := 0, locals := 0 } 0 0 D cA base pic [.int t] (fun x pic1 => (pic = pic1 ∧ x = 1 ∧ isTop t) ∨ (pic = pic1 ∧ x = 0 ∧ ¬ (isTop t))) := by
  refine ofI (by decide) (Nat.le_of_ble_eq_true rfl) ?_
  intro p e s m below meth c K hr hlk hnm
  refine v_iload_n K 0 dX5_isTopic_0 rfl rfl ?_
  refine v_if_lt K 15 dX5_isTopic_1 (by decide) rfl (fun c1 => ?_) (fun c1 => ?_)
  · refine v_iconst (v := nI 0) K dX5_isTopic_15 (by decide) ?_
    exact v_zret K dX5_isTopic_16 hr (narB (by first | exact isB0 | exact isB1 | assumption)) hlk (by decide) (by decide) (by first | exact (Or.inl ⟨rfl, rfl, by unfold isTop; omega⟩) | exact (Or.inr ⟨rfl, rfl, by unfold isTop; omega⟩))
  · refine v_iload_n K 0 dX5_isTopic_4 rfl rfl ?_
    refine v_sipush (v := nI 1000) K dX5_isTopic_5 (by decide) ?_
    refine v_icmp_ge K 15 dX5_isTopic_8 (by decide) rfl (nI_toInt (by omega)) (fun c8 => ?_) (fun c8 => ?_)
    · refine v_iconst (v := nI 0) K dX5_isTopic_15 (by decide) ?_
      exact v_zret K dX5_isTopic_16 hr (narB (by first | exact isB0 | exact isB1 | assumption)) hlk (by decide) (by decide) (by first | exact (Or.inl ⟨rfl, rfl, by unfold isTop; omega⟩) | exact (Or.inr ⟨rfl, rfl, by unfold isTop; omega⟩))
    · refine v_iconst (v := nI 1) K dX5_isTopic_11 (by decide) ?_
      refine v_goto K 16 dX5_isTopic_12 (by decide) ?_
      exact v_zret K dX5_isTopic_16 hr (narB (by first | exact isB0 | exact isB1 | assumption)) hlk (by decide) (by decide) (by first | exact (Or.inl ⟨rfl, rfl, by unfold isTop; omega⟩) | exact (Or.inr ⟨rfl, rfl, by unfold isTop; omega⟩))

set_option maxHeartbeats 4000000 in
set_option maxRecDepth 100000 in
theorem c_X5_isTopicOrNone (l : Launch) (D : va_G) (cA : Nat → ClassId) (base : Nat) (pic : PIC) (t : Int32)  : CI l yX5_isTopicOrNone cX5_isTopicOrNone 1 (some .boolean) { frames := 1, cells := 0, slots := 0, locals := 20 } 0 0 D cA base pic [.int t] (fun x pic1 => (pic = pic1 ∧ x = 1 ∧ isTopN t) ∨ (pic = pic1 ∧ x = 0 ∧ ¬ (isTopN t))) := by
  refine ofI (by decide) (Nat.le_of_ble_eq_true rfl) ?_
  intro p e s m below meth c K hr hlk hnm
  refine v_iload_n K 0 dX5_isTopicOrNone_0 rfl rfl ?_
  refine v_iconst (v := -1) K dX5_isTopicOrNone_1 (by decide) ?_
  refine v_icmp_eq K 12 dX5_isTopicOrNone_2 (by decide) rfl m1T (fun c2 => ?_) (fun c2 => ?_)
  · refine v_iconst (v := nI 1) K dX5_isTopicOrNone_12 (by decide) ?_
    refine v_goto K 17 dX5_isTopicOrNone_13 (by decide) ?_
    exact v_zret K dX5_isTopicOrNone_17 hr (narB (by first | exact isB0 | exact isB1 | assumption)) hlk (by decide) (by decide) (by first | exact (Or.inl ⟨rfl, rfl, by unfold isTopN; omega⟩) | exact (Or.inl ⟨rfl, rfl, by unfold isTopN; unfold isTop at hpt; omega⟩) | exact (Or.inr ⟨rfl, rfl, by unfold isTopN; unfold isTop at hqt; omega⟩))
  · refine v_iload_n K 0 dX5_isTopicOrNone_5 rfl rfl ?_
    refine cl_X5_154 K dX5_isTopicOrNone_6 (c_X5_isTopic l D cA base pic t) rfl rfl ⟨by decide, by decide⟩ (Nat.le_of_ble_eq_true rfl) ⟨by decide, by decide⟩ (fun x6 pic1 hx2 => ?_)
    rcases hx2 with ⟨rfl, rfl, hpt⟩ | ⟨rfl, rfl, hqt⟩
    · refine v_if_eq K 16 dX5_isTopicOrNone_9 (by decide) rfl (fun c => absurd c (by decide)) (fun _ => ?_)
      refine v_iconst (v := nI 1) K dX5_isTopicOrNone_12 (by decide) ?_
      refine v_goto K 17 dX5_isTopicOrNone_13 (by decide) ?_
      exact v_zret K dX5_isTopicOrNone_17 hr (narB (by first | exact isB0 | exact isB1 | assumption)) hlk (by decide) (by decide) (by first | exact (Or.inl ⟨rfl, rfl, by unfold isTopN; omega⟩) | exact (Or.inl ⟨rfl, rfl, by unfold isTopN; unfold isTop at hpt; omega⟩) | exact (Or.inr ⟨rfl, rfl, by unfold isTopN; unfold isTop at hqt; omega⟩))
    · refine v_if_eq K 16 dX5_isTopicOrNone_9 (by decide) rfl (fun _ => ?_) (fun c => absurd c (by decide))
      refine v_iconst (v := nI 0) K dX5_isTopicOrNone_16 (by decide) ?_
      exact v_zret K dX5_isTopicOrNone_17 hr (narB (by first | exact isB0 | exact isB1 | assumption)) hlk (by decide) (by decide) (by first | exact (Or.inl ⟨rfl, rfl, by unfold isTopN; omega⟩) | exact (Or.inl ⟨rfl, rfl, by unfold isTopN; unfold isTop at hpt; omega⟩) | exact (Or.inr ⟨rfl, rfl, by unfold isTopN; unfold isTop at hqt; omega⟩))

set_option maxHeartbeats 4000000 in
set_option maxRecDepth 100000 in
theorem c_X5_isEvent (l : Launch) (D : va_G) (cA : Nat → ClassId) (base : Nat) (pic : PIC) (ac a b2 c2 : Int32)  : CI l yX5_isEvent cX5_isEvent 4 (some .boolean) { frames := 2, cells := 0, slots := 0, locals := 40 } 0 0 D cA base pic [.int ac, .int a, .int b2, .int c2] (fun x pic1 => (pic = pic1 ∧ x = 1 ∧ evOK ac a b2 c2) ∨ (pic = pic1 ∧ x = 0 ∧ ¬ (evOK ac a b2 c2))) := by
  refine ofI (by decide) (Nat.le_of_ble_eq_true rfl) ?_
  intro p e s m below meth c K hr hlk hnm
  refine v_iload_n K 0 dX5_isEvent_0 rfl rfl ?_
  refine v_if_lt K 45 dX5_isEvent_1 (by decide) rfl (fun c1 => ?_) (fun c1 => ?_)
  · refine v_iconst (v := nI 0) K dX5_isEvent_45 (by decide) ?_
    exact v_zret K dX5_isEvent_46 hr (narB (by first | exact isB0 | exact isB1 | assumption)) hlk (by decide) (by decide) (by first | exact (Or.inl ⟨rfl, rfl, ⟨by omega, by omega⟩, hpa, hpb2, hpc2, by omega⟩) | exact (Or.inr ⟨rfl, rfl, fun h => absurd h.1 (by omega)⟩) | exact (Or.inr ⟨rfl, rfl, fun h => hqa h.2.1⟩) | exact (Or.inr ⟨rfl, rfl, fun h => hqb2 h.2.2.1⟩) | exact (Or.inr ⟨rfl, rfl, fun h => hqc2 h.2.2.2.1⟩) | exact (Or.inr ⟨rfl, rfl, fun h => absurd h.2.2.2.2 (by omega)⟩))
  · refine v_iload_n K 0 dX5_isEvent_4 rfl rfl ?_
    refine v_bipush (v := nI 10) K dX5_isEvent_5 (by decide) ?_
    refine v_icmp_ge K 45 dX5_isEvent_7 (by decide) rfl (nI_toInt (by omega)) (fun c7 => ?_) (fun c7 => ?_)
    · refine v_iconst (v := nI 0) K dX5_isEvent_45 (by decide) ?_
      exact v_zret K dX5_isEvent_46 hr (narB (by first | exact isB0 | exact isB1 | assumption)) hlk (by decide) (by decide) (by first | exact (Or.inl ⟨rfl, rfl, ⟨by omega, by omega⟩, hpa, hpb2, hpc2, by omega⟩) | exact (Or.inr ⟨rfl, rfl, fun h => absurd h.1 (by omega)⟩) | exact (Or.inr ⟨rfl, rfl, fun h => hqa h.2.1⟩) | exact (Or.inr ⟨rfl, rfl, fun h => hqb2 h.2.2.1⟩) | exact (Or.inr ⟨rfl, rfl, fun h => hqc2 h.2.2.2.1⟩) | exact (Or.inr ⟨rfl, rfl, fun h => absurd h.2.2.2.2 (by omega)⟩))
    · refine v_iload_n K 1 dX5_isEvent_10 rfl rfl ?_
      refine cl_X5_154 K dX5_isEvent_11 (c_X5_isTopic l D cA base pic a) rfl rfl ⟨by decide, by decide⟩ (Nat.le_of_ble_eq_true rfl) ⟨by decide, by decide⟩ (fun x11 pic1 hx2 => ?_)
      rcases hx2 with ⟨rfl, rfl, hpa⟩ | ⟨rfl, rfl, hqa⟩
      · refine v_if_eq K 45 dX5_isEvent_14 (by decide) rfl (fun c => absurd c (by decide)) (fun _ => ?_)
        refine v_iload_n K 2 dX5_isEvent_17 rfl rfl ?_
        refine cl_X5_185 K dX5_isEvent_18 (c_X5_isTopicOrNone l D cA base pic b2) rfl rfl ⟨by decide, by decide⟩ (Nat.le_of_ble_eq_true rfl) ⟨by decide, by decide⟩ (fun x18 pic3 hx4 => ?_)
        rcases hx4 with ⟨rfl, rfl, hpb2⟩ | ⟨rfl, rfl, hqb2⟩
        · refine v_if_eq K 45 dX5_isEvent_21 (by decide) rfl (fun c => absurd c (by decide)) (fun _ => ?_)
          refine v_iload_n K 3 dX5_isEvent_24 rfl rfl ?_
          refine cl_X5_185 K dX5_isEvent_25 (c_X5_isTopicOrNone l D cA base pic c2) rfl rfl ⟨by decide, by decide⟩ (Nat.le_of_ble_eq_true rfl) ⟨by decide, by decide⟩ (fun x25 pic5 hx6 => ?_)
          rcases hx6 with ⟨rfl, rfl, hpc2⟩ | ⟨rfl, rfl, hqc2⟩
          · refine v_if_eq K 45 dX5_isEvent_28 (by decide) rfl (fun c => absurd c (by decide)) (fun _ => ?_)
            refine v_iload_n K 2 dX5_isEvent_31 rfl rfl ?_
            refine v_iconst (v := -1) K dX5_isEvent_32 (by decide) ?_
            refine v_icmp_ne K 41 dX5_isEvent_33 (by decide) rfl m1T (fun c33 => ?_) (fun c33 => ?_)
            · refine v_iconst (v := nI 1) K dX5_isEvent_41 (by decide) ?_
              refine v_goto K 46 dX5_isEvent_42 (by decide) ?_
              exact v_zret K dX5_isEvent_46 hr (narB (by first | exact isB0 | exact isB1 | assumption)) hlk (by decide) (by decide) (by first | exact (Or.inl ⟨rfl, rfl, ⟨by omega, by omega⟩, hpa, hpb2, hpc2, by omega⟩) | exact (Or.inr ⟨rfl, rfl, fun h => absurd h.1 (by omega)⟩) | exact (Or.inr ⟨rfl, rfl, fun h => hqa h.2.1⟩) | exact (Or.inr ⟨rfl, rfl, fun h => hqb2 h.2.2.1⟩) | exact (Or.inr ⟨rfl, rfl, fun h => hqc2 h.2.2.2.1⟩) | exact (Or.inr ⟨rfl, rfl, fun h => absurd h.2.2.2.2 (by omega)⟩))
            · refine v_iload_n K 3 dX5_isEvent_36 rfl rfl ?_
              refine v_iconst (v := -1) K dX5_isEvent_37 (by decide) ?_
              refine v_icmp_ne K 45 dX5_isEvent_38 (by decide) rfl m1T (fun c38 => ?_) (fun c38 => ?_)
              · refine v_iconst (v := nI 0) K dX5_isEvent_45 (by decide) ?_
                exact v_zret K dX5_isEvent_46 hr (narB (by first | exact isB0 | exact isB1 | assumption)) hlk (by decide) (by decide) (by first | exact (Or.inl ⟨rfl, rfl, ⟨by omega, by omega⟩, hpa, hpb2, hpc2, by omega⟩) | exact (Or.inr ⟨rfl, rfl, fun h => absurd h.1 (by omega)⟩) | exact (Or.inr ⟨rfl, rfl, fun h => hqa h.2.1⟩) | exact (Or.inr ⟨rfl, rfl, fun h => hqb2 h.2.2.1⟩) | exact (Or.inr ⟨rfl, rfl, fun h => hqc2 h.2.2.2.1⟩) | exact (Or.inr ⟨rfl, rfl, fun h => absurd h.2.2.2.2 (by omega)⟩))
              · refine v_iconst (v := nI 1) K dX5_isEvent_41 (by decide) ?_
                refine v_goto K 46 dX5_isEvent_42 (by decide) ?_
                exact v_zret K dX5_isEvent_46 hr (narB (by first | exact isB0 | exact isB1 | assumption)) hlk (by decide) (by decide) (by first | exact (Or.inl ⟨rfl, rfl, ⟨by omega, by omega⟩, hpa, hpb2, hpc2, by omega⟩) | exact (Or.inr ⟨rfl, rfl, fun h => absurd h.1 (by omega)⟩) | exact (Or.inr ⟨rfl, rfl, fun h => hqa h.2.1⟩) | exact (Or.inr ⟨rfl, rfl, fun h => hqb2 h.2.2.1⟩) | exact (Or.inr ⟨rfl, rfl, fun h => hqc2 h.2.2.2.1⟩) | exact (Or.inr ⟨rfl, rfl, fun h => absurd h.2.2.2.2 (by omega)⟩))
          · refine v_if_eq K 45 dX5_isEvent_28 (by decide) rfl (fun _ => ?_) (fun c => absurd c (by decide))
            refine v_iconst (v := nI 0) K dX5_isEvent_45 (by decide) ?_
            exact v_zret K dX5_isEvent_46 hr (narB (by first | exact isB0 | exact isB1 | assumption)) hlk (by decide) (by decide) (by first | exact (Or.inl ⟨rfl, rfl, ⟨by omega, by omega⟩, hpa, hpb2, hpc2, by omega⟩) | exact (Or.inr ⟨rfl, rfl, fun h => absurd h.1 (by omega)⟩) | exact (Or.inr ⟨rfl, rfl, fun h => hqa h.2.1⟩) | exact (Or.inr ⟨rfl, rfl, fun h => hqb2 h.2.2.1⟩) | exact (Or.inr ⟨rfl, rfl, fun h => hqc2 h.2.2.2.1⟩) | exact (Or.inr ⟨rfl, rfl, fun h => absurd h.2.2.2.2 (by omega)⟩))
        · refine v_if_eq K 45 dX5_isEvent_21 (by decide) rfl (fun _ => ?_) (fun c => absurd c (by decide))
          refine v_iconst (v := nI 0) K dX5_isEvent_45 (by decide) ?_
          exact v_zret K dX5_isEvent_46 hr (narB (by first | exact isB0 | exact isB1 | assumption)) hlk (by decide) (by decide) (by first | exact (Or.inl ⟨rfl, rfl, ⟨by omega, by omega⟩, hpa, hpb2, hpc2, by omega⟩) | exact (Or.inr ⟨rfl, rfl, fun h => absurd h.1 (by omega)⟩) | exact (Or.inr ⟨rfl, rfl, fun h => hqa h.2.1⟩) | exact (Or.inr ⟨rfl, rfl, fun h => hqb2 h.2.2.1⟩) | exact (Or.inr ⟨rfl, rfl, fun h => hqc2 h.2.2.2.1⟩) | exact (Or.inr ⟨rfl, rfl, fun h => absurd h.2.2.2.2 (by omega)⟩))
      · refine v_if_eq K 45 dX5_isEvent_14 (by decide) rfl (fun _ => ?_) (fun c => absurd c (by decide))
        refine v_iconst (v := nI 0) K dX5_isEvent_45 (by decide) ?_
        exact v_zret K dX5_isEvent_46 hr (narB (by first | exact isB0 | exact isB1 | assumption)) hlk (by decide) (by decide) (by first | exact (Or.inl ⟨rfl, rfl, ⟨by omega, by omega⟩, hpa, hpb2, hpc2, by omega⟩) | exact (Or.inr ⟨rfl, rfl, fun h => absurd h.1 (by omega)⟩) | exact (Or.inr ⟨rfl, rfl, fun h => hqa h.2.1⟩) | exact (Or.inr ⟨rfl, rfl, fun h => hqb2 h.2.2.1⟩) | exact (Or.inr ⟨rfl, rfl, fun h => hqc2 h.2.2.2.1⟩) | exact (Or.inr ⟨rfl, rfl, fun h => absurd h.2.2.2.2 (by omega)⟩))

set_option maxHeartbeats 4000000 in
set_option maxRecDepth 100000 in
theorem c_X5_topicCount (l : Launch) (D : va_G) (cA : Nat → ClassId) (base : Nat) (pic : PIC) (b2 c2 : Int32)  : CI l yX5_topicCount cX5_topicCount 2 (some .int) { frames := 0, cells := 0, slots := 0, locals := 0 } 0 0 D cA base pic [.int b2, .int c2] (fun x pic1 => pic = pic1 ∧ x = tcF b2 c2) := by
  refine ofI (by decide) (Nat.le_of_ble_eq_true rfl) ?_
  intro p e s m below meth c K hr hlk hnm
  refine v_iload_n K 0 dX5_topicCount_0 rfl rfl ?_
  refine v_iconst (v := -1) K dX5_topicCount_1 (by decide) ?_
  refine v_icmp_ne K 7 dX5_topicCount_2 (by decide) rfl m1T (fun c2 => ?_) (fun c2 => ?_)
  · refine v_iload_n K 1 dX5_topicCount_7 rfl rfl ?_
    refine v_iconst (v := -1) K dX5_topicCount_8 (by decide) ?_
    refine v_icmp_ne K 16 dX5_topicCount_9 (by decide) rfl m1T (fun c9 => ?_) (fun c9 => ?_)
    · refine v_iconst (v := nI 3) K dX5_topicCount_16 (by decide) ?_
      exact v_iret K dX5_topicCount_17 hr hlk (by decide) (by decide) (by first | exact (⟨rfl, by rw [tcF, if_pos (by omega)]⟩) | exact (⟨rfl, by rw [tcF, if_neg (by omega), if_pos (by omega)]⟩) | exact (⟨rfl, by rw [tcF, if_neg (by omega), if_neg (by omega)]⟩))
    · refine v_iconst (v := nI 2) K dX5_topicCount_12 (by decide) ?_
      refine v_goto K 17 dX5_topicCount_13 (by decide) ?_
      exact v_iret K dX5_topicCount_17 hr hlk (by decide) (by decide) (by first | exact (⟨rfl, by rw [tcF, if_pos (by omega)]⟩) | exact (⟨rfl, by rw [tcF, if_neg (by omega), if_pos (by omega)]⟩) | exact (⟨rfl, by rw [tcF, if_neg (by omega), if_neg (by omega)]⟩))
  · refine v_iconst (v := nI 1) K dX5_topicCount_5 (by decide) ?_
    exact v_iret K dX5_topicCount_6 hr hlk (by decide) (by decide) (by first | exact (⟨rfl, by rw [tcF, if_pos (by omega)]⟩) | exact (⟨rfl, by rw [tcF, if_neg (by omega), if_pos (by omega)]⟩) | exact (⟨rfl, by rw [tcF, if_neg (by omega), if_neg (by omega)]⟩))

set_option maxHeartbeats 4000000 in
set_option maxRecDepth 100000 in
theorem c_X5_bitsOf (l : Launch) (D : va_G) (cA : Nat → ClassId) (base : Nat) (pic : PIC) (t : Int32)  : CL l yX5_bitsOf cX5_bitsOf 1 (some .long) { frames := 0, cells := 0, slots := 0, locals := 0 } 0 0 D cA base pic [.int t] (fun x pic1 => pic = pic1 ∧ x = bitF t) := by
  refine ofL (by decide) (Nat.le_of_ble_eq_true rfl) ?_
  intro p e s m below meth c K hr hlk hnm
  refine v_lconst (v := 1) K dX5_bitsOf_0 (by decide) ?_
  refine v_iload_n K 0 dX5_bitsOf_1 rfl rfl ?_
  refine v_bipush (v := nI 64) K dX5_bitsOf_2 (by decide) ?_
  refine v_irem K dX5_bitsOf_4 (by decide) ?_
  refine v_lshl K dX5_bitsOf_5 ?_
  refine v_lconst (v := 1) K dX5_bitsOf_6 (by decide) ?_
  refine v_bipush (v := nI 7) K dX5_bitsOf_7 (by decide) ?_
  refine v_iload_n K 0 dX5_bitsOf_9 rfl rfl ?_
  refine v_imul K dX5_bitsOf_10 ?_
  refine v_iconst (v := nI 3) K dX5_bitsOf_11 (by decide) ?_
  refine v_iadd K dX5_bitsOf_12 ?_
  refine v_bipush (v := nI 61) K dX5_bitsOf_13 (by decide) ?_
  refine v_irem K dX5_bitsOf_15 (by decide) ?_
  refine v_lshl K dX5_bitsOf_16 ?_
  refine v_lor K dX5_bitsOf_17 ?_
  refine v_lconst (v := 1) K dX5_bitsOf_18 (by decide) ?_
  refine v_bipush (v := nI 13) K dX5_bitsOf_19 (by decide) ?_
  refine v_iload_n K 0 dX5_bitsOf_21 rfl rfl ?_
  refine v_imul K dX5_bitsOf_22 ?_
  refine v_iconst (v := nI 5) K dX5_bitsOf_23 (by decide) ?_
  refine v_iadd K dX5_bitsOf_24 ?_
  refine v_bipush (v := nI 59) K dX5_bitsOf_25 (by decide) ?_
  refine v_irem K dX5_bitsOf_27 (by decide) ?_
  refine v_lshl K dX5_bitsOf_28 ?_
  refine v_lor K dX5_bitsOf_29 ?_
  exact v_lret K dX5_bitsOf_30 hr hlk (by decide) (by decide) (⟨rfl, rfl⟩)

set_option maxHeartbeats 4000000 in
set_option maxRecDepth 100000 in
theorem c_X5_mix (l : Launch) (D : va_G) (cA : Nat → ClassId) (base : Nat) (pic : PIC) (a b2 : Int64)  : CL l yX5_mix cX5_mix 6 (some .long) { frames := 0, cells := 0, slots := 0, locals := 0 } 0 0 D cA base pic [.long a, .long b2] (fun x pic1 => pic = pic1 ∧ x = mixF a b2) := by
  refine ofL (by decide) (Nat.le_of_ble_eq_true rfl) ?_
  intro p e s m below meth c K hr hlk hnm
  refine v_ldc2 K gw_220 dX5_mix_0 ?_
  refine v_lload_n K 0 dX5_mix_3 rfl rfl ?_
  refine v_lmul K dX5_mix_4 ?_
  refine v_lload_n K 2 dX5_mix_5 rfl rfl ?_
  refine v_ladd K dX5_mix_6 ?_
  refine v_ldc2 K gw_221 dX5_mix_7 ?_
  refine v_ladd K dX5_mix_10 ?_
  refine v_ldc2 K gw_222 dX5_mix_11 ?_
  refine v_lmul K dX5_mix_14 ?_
  refine v_lstore K dX5_mix_15 (by decide) ?_
  refine v_lload K dX5_mix_17 rfl ?_
  refine v_lload K dX5_mix_19 rfl ?_
  refine v_bipush (v := nI 29) K dX5_mix_21 (by decide) ?_
  refine v_lushr K dX5_mix_23 ?_
  refine v_lxor K dX5_mix_24 ?_
  exact v_lret K dX5_mix_25 hr hlk (by decide) (by decide) (⟨rfl, rfl⟩)

set_option maxHeartbeats 4000000 in
set_option maxRecDepth 100000 in
theorem c_X6_bitsOf (l : Launch) (D : va_G) (cA : Nat → ClassId) (base : Nat) (pic : PIC) (t : Int32)  : CL l yX6_bitsOf cX6_bitsOf 1 (some .long) { frames := 0, cells := 0, slots := 0, locals := 0 } 0 0 D cA base pic [.int t] (fun x pic1 => pic = pic1 ∧ x = bitF t) := by
  refine ofL (by decide) (Nat.le_of_ble_eq_true rfl) ?_
  intro p e s m below meth c K hr hlk hnm
  refine v_lconst (v := 1) K dX6_bitsOf_0 (by decide) ?_
  refine v_iload_n K 0 dX6_bitsOf_1 rfl rfl ?_
  refine v_bipush (v := nI 64) K dX6_bitsOf_2 (by decide) ?_
  refine v_irem K dX6_bitsOf_4 (by decide) ?_
  refine v_lshl K dX6_bitsOf_5 ?_
  refine v_lconst (v := 1) K dX6_bitsOf_6 (by decide) ?_
  refine v_bipush (v := nI 7) K dX6_bitsOf_7 (by decide) ?_
  refine v_iload_n K 0 dX6_bitsOf_9 rfl rfl ?_
  refine v_imul K dX6_bitsOf_10 ?_
  refine v_iconst (v := nI 3) K dX6_bitsOf_11 (by decide) ?_
  refine v_iadd K dX6_bitsOf_12 ?_
  refine v_bipush (v := nI 61) K dX6_bitsOf_13 (by decide) ?_
  refine v_irem K dX6_bitsOf_15 (by decide) ?_
  refine v_lshl K dX6_bitsOf_16 ?_
  refine v_lor K dX6_bitsOf_17 ?_
  refine v_lconst (v := 1) K dX6_bitsOf_18 (by decide) ?_
  refine v_bipush (v := nI 13) K dX6_bitsOf_19 (by decide) ?_
  refine v_iload_n K 0 dX6_bitsOf_21 rfl rfl ?_
  refine v_imul K dX6_bitsOf_22 ?_
  refine v_iconst (v := nI 5) K dX6_bitsOf_23 (by decide) ?_
  refine v_iadd K dX6_bitsOf_24 ?_
  refine v_bipush (v := nI 59) K dX6_bitsOf_25 (by decide) ?_
  refine v_irem K dX6_bitsOf_27 (by decide) ?_
  refine v_lshl K dX6_bitsOf_28 ?_
  refine v_lor K dX6_bitsOf_29 ?_
  exact v_lret K dX6_bitsOf_30 hr hlk (by decide) (by decide) (⟨rfl, rfl⟩)

set_option maxHeartbeats 4000000 in
set_option maxRecDepth 100000 in
theorem c_X6_mix (l : Launch) (D : va_G) (cA : Nat → ClassId) (base : Nat) (pic : PIC) (a b2 : Int64)  : CL l yX6_mix cX6_mix 6 (some .long) { frames := 0, cells := 0, slots := 0, locals := 0 } 0 0 D cA base pic [.long a, .long b2] (fun x pic1 => pic = pic1 ∧ x = mixF a b2) := by
  refine ofL (by decide) (Nat.le_of_ble_eq_true rfl) ?_
  intro p e s m below meth c K hr hlk hnm
  refine v_ldc2 K gw_261 dX6_mix_0 ?_
  refine v_lload_n K 0 dX6_mix_3 rfl rfl ?_
  refine v_lmul K dX6_mix_4 ?_
  refine v_lload_n K 2 dX6_mix_5 rfl rfl ?_
  refine v_ladd K dX6_mix_6 ?_
  refine v_ldc2 K gw_262 dX6_mix_7 ?_
  refine v_ladd K dX6_mix_10 ?_
  refine v_ldc2 K gw_263 dX6_mix_11 ?_
  refine v_lmul K dX6_mix_14 ?_
  refine v_lstore K dX6_mix_15 (by decide) ?_
  refine v_lload K dX6_mix_17 rfl ?_
  refine v_lload K dX6_mix_19 rfl ?_
  refine v_bipush (v := nI 29) K dX6_mix_21 (by decide) ?_
  refine v_lushr K dX6_mix_23 ?_
  refine v_lxor K dX6_mix_24 ?_
  exact v_lret K dX6_mix_25 hr hlk (by decide) (by decide) (⟨rfl, rfl⟩)

set_option maxHeartbeats 4000000 in
set_option maxRecDepth 100000 in
theorem c_X5_leafOf (l : Launch) (D : va_G) (cA : Nat → ClassId) (base : Nat) (pic : PIC) (ac a b2 c2 : Int32) (v : Int64) (i : Int32)  : CL l yX5_leafOf cX5_leafOf 9 (some .long) { frames := 1, cells := 0, slots := 0, locals := 25 } 0 0 D cA base pic [.int ac, .int a, .int b2, .int c2, .long v, .int i] (fun x pic1 => pic = pic1 ∧ x = leafF ac a b2 c2 v i) := by
  refine ofL (by decide) (Nat.le_of_ble_eq_true rfl) ?_
  intro p e s m below meth c K hr hlk hnm
  refine v_iload_n K 0 dX5_leafOf_0 rfl rfl ?_
  refine v_i2l K dX5_leafOf_1 ?_
  refine v_lload K dX5_leafOf_2 rfl ?_
  refine cl_X5_223 K dX5_leafOf_4 (c_X5_mix l D cA base pic _ _) rfl rfl ⟨by decide, by decide⟩ (Nat.le_of_ble_eq_true rfl) ⟨by decide, by decide⟩ (fun x4 pic1 hx2 => ?_)
  obtain ⟨rfl, rfl⟩ := hx2
  refine v_iload_n K 1 dX5_leafOf_7 rfl rfl ?_
  refine v_i2l K dX5_leafOf_8 ?_
  refine cl_X5_223 K dX5_leafOf_9 (c_X5_mix l D cA base pic _ _) rfl rfl ⟨by decide, by decide⟩ (Nat.le_of_ble_eq_true rfl) ⟨by decide, by decide⟩ (fun x9 pic3 hx4 => ?_)
  obtain ⟨rfl, rfl⟩ := hx4
  refine v_lstore K dX5_leafOf_12 (by decide) ?_
  refine v_iload_n K 2 dX5_leafOf_14 rfl rfl ?_
  refine v_iconst (v := -1) K dX5_leafOf_15 (by decide) ?_
  refine v_icmp_eq K 28 dX5_leafOf_16 (by decide) rfl m1T (fun c16 => ?_) (fun c16 => ?_)
  · refine v_iload_n K 3 dX5_leafOf_28 rfl rfl ?_
    refine v_iconst (v := -1) K dX5_leafOf_29 (by decide) ?_
    refine v_icmp_eq K 42 dX5_leafOf_30 (by decide) rfl m1T (fun c30 => ?_) (fun c30 => ?_)
    · refine v_lload K dX5_leafOf_42 rfl ?_
      refine v_iload K dX5_leafOf_44 rfl ?_
      refine v_i2l K dX5_leafOf_46 ?_
      refine cl_X5_223 K dX5_leafOf_47 (c_X5_mix l D cA base pic _ _) rfl rfl ⟨by decide, by decide⟩ (Nat.le_of_ble_eq_true rfl) ⟨by decide, by decide⟩ (fun x47 pic5 hx6 => ?_)
      obtain ⟨rfl, rfl⟩ := hx6
      exact v_lret K dX5_leafOf_50 hr hlk (by decide) (by decide) (⟨rfl, by simp only [leafF, mixO]; repeat (first | rw [if_pos (by omega)] | rw [if_neg (by omega)])⟩)
    · refine v_lload K dX5_leafOf_33 rfl ?_
      refine v_iload_n K 3 dX5_leafOf_35 rfl rfl ?_
      refine v_i2l K dX5_leafOf_36 ?_
      refine cl_X5_223 K dX5_leafOf_37 (c_X5_mix l D cA base pic _ _) rfl rfl ⟨by decide, by decide⟩ (Nat.le_of_ble_eq_true rfl) ⟨by decide, by decide⟩ (fun x37 pic7 hx8 => ?_)
      obtain ⟨rfl, rfl⟩ := hx8
      refine v_lstore K dX5_leafOf_40 (by decide) ?_
      refine v_lload K dX5_leafOf_42 rfl ?_
      refine v_iload K dX5_leafOf_44 rfl ?_
      refine v_i2l K dX5_leafOf_46 ?_
      refine cl_X5_223 K dX5_leafOf_47 (c_X5_mix l D cA base pic _ _) rfl rfl ⟨by decide, by decide⟩ (Nat.le_of_ble_eq_true rfl) ⟨by decide, by decide⟩ (fun x47 pic9 hx10 => ?_)
      obtain ⟨rfl, rfl⟩ := hx10
      exact v_lret K dX5_leafOf_50 hr hlk (by decide) (by decide) (⟨rfl, by simp only [leafF, mixO]; repeat (first | rw [if_pos (by omega)] | rw [if_neg (by omega)])⟩)
  · refine v_lload K dX5_leafOf_19 rfl ?_
    refine v_iload_n K 2 dX5_leafOf_21 rfl rfl ?_
    refine v_i2l K dX5_leafOf_22 ?_
    refine cl_X5_223 K dX5_leafOf_23 (c_X5_mix l D cA base pic _ _) rfl rfl ⟨by decide, by decide⟩ (Nat.le_of_ble_eq_true rfl) ⟨by decide, by decide⟩ (fun x23 pic11 hx12 => ?_)
    obtain ⟨rfl, rfl⟩ := hx12
    refine v_lstore K dX5_leafOf_26 (by decide) ?_
    refine v_iload_n K 3 dX5_leafOf_28 rfl rfl ?_
    refine v_iconst (v := -1) K dX5_leafOf_29 (by decide) ?_
    refine v_icmp_eq K 42 dX5_leafOf_30 (by decide) rfl m1T (fun c30 => ?_) (fun c30 => ?_)
    · refine v_lload K dX5_leafOf_42 rfl ?_
      refine v_iload K dX5_leafOf_44 rfl ?_
      refine v_i2l K dX5_leafOf_46 ?_
      refine cl_X5_223 K dX5_leafOf_47 (c_X5_mix l D cA base pic _ _) rfl rfl ⟨by decide, by decide⟩ (Nat.le_of_ble_eq_true rfl) ⟨by decide, by decide⟩ (fun x47 pic13 hx14 => ?_)
      obtain ⟨rfl, rfl⟩ := hx14
      exact v_lret K dX5_leafOf_50 hr hlk (by decide) (by decide) (⟨rfl, by simp only [leafF, mixO]; repeat (first | rw [if_pos (by omega)] | rw [if_neg (by omega)])⟩)
    · refine v_lload K dX5_leafOf_33 rfl ?_
      refine v_iload_n K 3 dX5_leafOf_35 rfl rfl ?_
      refine v_i2l K dX5_leafOf_36 ?_
      refine cl_X5_223 K dX5_leafOf_37 (c_X5_mix l D cA base pic _ _) rfl rfl ⟨by decide, by decide⟩ (Nat.le_of_ble_eq_true rfl) ⟨by decide, by decide⟩ (fun x37 pic15 hx16 => ?_)
      obtain ⟨rfl, rfl⟩ := hx16
      refine v_lstore K dX5_leafOf_40 (by decide) ?_
      refine v_lload K dX5_leafOf_42 rfl ?_
      refine v_iload K dX5_leafOf_44 rfl ?_
      refine v_i2l K dX5_leafOf_46 ?_
      refine cl_X5_223 K dX5_leafOf_47 (c_X5_mix l D cA base pic _ _) rfl rfl ⟨by decide, by decide⟩ (Nat.le_of_ble_eq_true rfl) ⟨by decide, by decide⟩ (fun x47 pic17 hx18 => ?_)
      obtain ⟨rfl, rfl⟩ := hx18
      exact v_lret K dX5_leafOf_50 hr hlk (by decide) (by decide) (⟨rfl, by simp only [leafF, mixO]; repeat (first | rw [if_pos (by omega)] | rw [if_neg (by omega)])⟩)

set_option maxHeartbeats 4000000 in
set_option maxRecDepth 100000 in
theorem c_X6_leaf (l : Launch) (D : va_G) (cA : Nat → ClassId) (base : Nat) (pic : PIC) (ac a b2 c2 : Int32) (v : Int64) (i : Int32) (hb2 : -1 ≤ b2.toInt) (hc2 : -1 ≤ c2.toInt)  : CL l yX6_leaf cX6_leaf 9 (some .long) { frames := 1, cells := 0, slots := 0, locals := 25 } 0 0 D cA base pic [.int ac, .int a, .int b2, .int c2, .long v, .int i] (fun x pic1 => pic = pic1 ∧ x = leafF ac a b2 c2 v i) := by
  refine ofL (by decide) (Nat.le_of_ble_eq_true rfl) ?_
  intro p e s m below meth c K hr hlk hnm
  refine v_iload_n K 0 dX6_leaf_0 rfl rfl ?_
  refine v_i2l K dX6_leaf_1 ?_
  refine v_lload K dX6_leaf_2 rfl ?_
  refine cl_X6_114 K dX6_leaf_4 (c_X6_mix l D cA base pic _ _) rfl rfl ⟨by decide, by decide⟩ (Nat.le_of_ble_eq_true rfl) ⟨by decide, by decide⟩ (fun x4 pic1 hx2 => ?_)
  obtain ⟨rfl, rfl⟩ := hx2
  refine v_iload_n K 1 dX6_leaf_7 rfl rfl ?_
  refine v_i2l K dX6_leaf_8 ?_
  refine cl_X6_114 K dX6_leaf_9 (c_X6_mix l D cA base pic _ _) rfl rfl ⟨by decide, by decide⟩ (Nat.le_of_ble_eq_true rfl) ⟨by decide, by decide⟩ (fun x9 pic3 hx4 => ?_)
  obtain ⟨rfl, rfl⟩ := hx4
  refine v_lstore K dX6_leaf_12 (by decide) ?_
  refine v_iload_n K 2 dX6_leaf_14 rfl rfl ?_
  refine v_if_ge K 23 dX6_leaf_15 (by decide) rfl (fun c15 => ?_) (fun c15 => ?_)
  · refine v_lload K dX6_leaf_23 rfl ?_
    refine v_iload_n K 2 dX6_leaf_25 rfl rfl ?_
    refine v_i2l K dX6_leaf_26 ?_
    refine cl_X6_114 K dX6_leaf_27 (c_X6_mix l D cA base pic _ _) rfl rfl ⟨by decide, by decide⟩ (Nat.le_of_ble_eq_true rfl) ⟨by decide, by decide⟩ (fun x27 pic5 hx6 => ?_)
    obtain ⟨rfl, rfl⟩ := hx6
    refine v_lstore K dX6_leaf_30 (by decide) ?_
    refine v_iload_n K 3 dX6_leaf_32 rfl rfl ?_
    refine v_if_ge K 41 dX6_leaf_33 (by decide) rfl (fun c33 => ?_) (fun c33 => ?_)
    · refine v_lload K dX6_leaf_41 rfl ?_
      refine v_iload_n K 3 dX6_leaf_43 rfl rfl ?_
      refine v_i2l K dX6_leaf_44 ?_
      refine cl_X6_114 K dX6_leaf_45 (c_X6_mix l D cA base pic _ _) rfl rfl ⟨by decide, by decide⟩ (Nat.le_of_ble_eq_true rfl) ⟨by decide, by decide⟩ (fun x45 pic7 hx8 => ?_)
      obtain ⟨rfl, rfl⟩ := hx8
      refine v_lstore K dX6_leaf_48 (by decide) ?_
      refine v_lload K dX6_leaf_50 rfl ?_
      refine v_iload K dX6_leaf_52 rfl ?_
      refine v_i2l K dX6_leaf_54 ?_
      refine cl_X6_114 K dX6_leaf_55 (c_X6_mix l D cA base pic _ _) rfl rfl ⟨by decide, by decide⟩ (Nat.le_of_ble_eq_true rfl) ⟨by decide, by decide⟩ (fun x55 pic9 hx10 => ?_)
      obtain ⟨rfl, rfl⟩ := hx10
      exact v_lret K dX6_leaf_58 hr hlk (by decide) (by decide) (⟨rfl, by simp only [leafF, mixO]; repeat (first | rw [if_pos (by omega)] | rw [if_neg (by omega)])⟩)
    · refine v_lload K dX6_leaf_36 rfl ?_
      refine v_goto K 48 dX6_leaf_38 (by decide) ?_
      refine v_lstore K dX6_leaf_48 (by decide) ?_
      refine v_lload K dX6_leaf_50 rfl ?_
      refine v_iload K dX6_leaf_52 rfl ?_
      refine v_i2l K dX6_leaf_54 ?_
      refine cl_X6_114 K dX6_leaf_55 (c_X6_mix l D cA base pic _ _) rfl rfl ⟨by decide, by decide⟩ (Nat.le_of_ble_eq_true rfl) ⟨by decide, by decide⟩ (fun x55 pic11 hx12 => ?_)
      obtain ⟨rfl, rfl⟩ := hx12
      exact v_lret K dX6_leaf_58 hr hlk (by decide) (by decide) (⟨rfl, by simp only [leafF, mixO]; repeat (first | rw [if_pos (by omega)] | rw [if_neg (by omega)])⟩)
  · refine v_lload K dX6_leaf_18 rfl ?_
    refine v_goto K 30 dX6_leaf_20 (by decide) ?_
    refine v_lstore K dX6_leaf_30 (by decide) ?_
    refine v_iload_n K 3 dX6_leaf_32 rfl rfl ?_
    refine v_if_ge K 41 dX6_leaf_33 (by decide) rfl (fun c33 => ?_) (fun c33 => ?_)
    · refine v_lload K dX6_leaf_41 rfl ?_
      refine v_iload_n K 3 dX6_leaf_43 rfl rfl ?_
      refine v_i2l K dX6_leaf_44 ?_
      refine cl_X6_114 K dX6_leaf_45 (c_X6_mix l D cA base pic _ _) rfl rfl ⟨by decide, by decide⟩ (Nat.le_of_ble_eq_true rfl) ⟨by decide, by decide⟩ (fun x45 pic13 hx14 => ?_)
      obtain ⟨rfl, rfl⟩ := hx14
      refine v_lstore K dX6_leaf_48 (by decide) ?_
      refine v_lload K dX6_leaf_50 rfl ?_
      refine v_iload K dX6_leaf_52 rfl ?_
      refine v_i2l K dX6_leaf_54 ?_
      refine cl_X6_114 K dX6_leaf_55 (c_X6_mix l D cA base pic _ _) rfl rfl ⟨by decide, by decide⟩ (Nat.le_of_ble_eq_true rfl) ⟨by decide, by decide⟩ (fun x55 pic15 hx16 => ?_)
      obtain ⟨rfl, rfl⟩ := hx16
      exact v_lret K dX6_leaf_58 hr hlk (by decide) (by decide) (⟨rfl, by simp only [leafF, mixO]; repeat (first | rw [if_pos (by omega)] | rw [if_neg (by omega)])⟩)
    · refine v_lload K dX6_leaf_36 rfl ?_
      refine v_goto K 48 dX6_leaf_38 (by decide) ?_
      refine v_lstore K dX6_leaf_48 (by decide) ?_
      refine v_lload K dX6_leaf_50 rfl ?_
      refine v_iload K dX6_leaf_52 rfl ?_
      refine v_i2l K dX6_leaf_54 ?_
      refine cl_X6_114 K dX6_leaf_55 (c_X6_mix l D cA base pic _ _) rfl rfl ⟨by decide, by decide⟩ (Nat.le_of_ble_eq_true rfl) ⟨by decide, by decide⟩ (fun x55 pic17 hx18 => ?_)
      obtain ⟨rfl, rfl⟩ := hx18
      exact v_lret K dX6_leaf_58 hr hlk (by decide) (by decide) (⟨rfl, by simp only [leafF, mixO]; repeat (first | rw [if_pos (by omega)] | rw [if_neg (by omega)])⟩)

set_option maxHeartbeats 4000000 in
set_option maxRecDepth 100000 in
theorem c_X0_topicOrNone (l : Launch) (D : va_G) (cA : Nat → ClassId) (base : Nat) (pic : PIC) (t : Int32)  : CI l yX0_topicOrNone cX0_topicOrNone 1 (some .int) { frames := 0, cells := 0, slots := 0, locals := 0 } 0 0 D cA base pic [.int t] (fun x pic1 => pic = pic1 ∧ x = tonF t) := by
  refine ofI (by decide) (Nat.le_of_ble_eq_true rfl) ?_
  intro p e s m below meth c K hr hlk hnm
  refine v_iload_n K 0 dX0_topicOrNone_0 rfl rfl ?_
  refine v_iconst (v := -1) K dX0_topicOrNone_1 (by decide) ?_
  refine v_icmp_ne K 10 dX0_topicOrNone_2 (by decide) rfl m1T (fun c2 => ?_) (fun c2 => ?_)
  · refine v_iload_n K 0 dX0_topicOrNone_10 rfl rfl ?_
    exact v_iret K dX0_topicOrNone_11 hr hlk (by decide) (by decide) (by first | exact (⟨rfl, by rw [tonF, if_pos (by omega)]⟩) | exact (⟨rfl, by rw [tonF, if_neg (by omega)]⟩))
  · refine v_bipush (v := -5) K dX0_topicOrNone_5 (by decide) ?_
    refine v_goto K 11 dX0_topicOrNone_7 (by decide) ?_
    exact v_iret K dX0_topicOrNone_11 hr hlk (by decide) (by decide) (by first | exact (⟨rfl, by rw [tonF, if_pos (by omega)]⟩) | exact (⟨rfl, by rw [tonF, if_neg (by omega)]⟩))
end
section
/-- a block: its object at role b, its rows at b + 1 to b + 5 -/
def BlkP (pic : PIC) (cA : Nat → ClassId) (b aB r1 r2 r3 r4 r5 : Nat) (cnt kept fs : Int32) (rd fb : Int64) (ac t1 t2 t3 : Nat → Int32) (vl : Nat → Int64) : Prop :=
  pic b = some (aB, bkE r1 r2 r3 r4 r5 cnt kept fs rd fb) ∧ pic (b + 1) = some (r1, .inl (cA 0, 32, .inl ac)) ∧ pic (b + 2) = some (r2, .inl (cA 0, 32, .inl t1)) ∧ pic (b + 3) = some (r3, .inl (cA 0, 32, .inl t2)) ∧ pic (b + 4) = some (r4, .inl (cA 0, 32, .inl t3)) ∧ pic (b + 5) = some (r5, .inl (cA 1, 32, .inr (.inl vl)))
theorem BlkP.kept {pic pic1 : PIC} {cA : Nat → ClassId} {b aB r1 r2 r3 r4 r5 : Nat} {cnt kept fs : Int32} {rd fb : Int64} {ac t1 t2 t3 : Nat → Int32} {vl : Nat → Int64} (h : BlkP pic cA b aB r1 r2 r3 r4 r5 cnt kept fs rd fb ac t1 t2 t3 vl) (hk : ∀ q, b ≤ q → q < b + 6 → pic1 q = pic q) : BlkP pic1 cA b aB r1 r2 r3 r4 r5 cnt kept fs rd fb ac t1 t2 t3 vl :=
  ⟨(hk b (by omega) (by omega)).trans h.1, (hk (b + 1) (by omega) (by omega)).trans h.2.1, (hk (b + 2) (by omega) (by omega)).trans h.2.2.1, (hk (b + 3) (by omega) (by omega)).trans h.2.2.2.1, (hk (b + 4) (by omega) (by omega)).trans h.2.2.2.2.1, (hk (b + 5) (by omega) (by omega)).trans h.2.2.2.2.2⟩
def orO (d : Int64) (t : Int32) : Int64 := if t.toInt = -1 then d else d ||| bitF t
/-- the filter bits of one event, and of the first n -/
def tbF (a b c : Int32) : Int64 := orO (orO (bitF a) b) c
def fbF (t1 t2 t3 : Nat → Int32) : Nat → Int64
  | 0 => 0
  | n + 1 => fbF t1 t2 t3 n ||| tbF (t1 n) (t2 n) (t3 n)
def hasT (a b c t : Int32) : Prop := a.toInt = t.toInt ∨ b.toInt = t.toInt ∨ c.toInt = t.toInt
def detF (ac a b c fs : Int32) (k : Nat) (w : Nat) : Int32 := match w with
  | 0 => ac
  | 1 => tcF b c
  | 2 => a
  | 3 => tonF b
  | 4 => tonF c
  | _ => fs + nI k
set_option maxHeartbeats 4000000 in
set_option maxRecDepth 100000 in
theorem c_X0_add (l : Launch) (D : va_G) (cA : Nat → ClassId) (base : Nat) (pic : PIC) (b aB r1 r2 r3 r4 r5 : Nat) (n : Nat) (kept fs : Int32) (rd fb : Int64) (ac t1 t2 t3 : Nat → Int32) (vl : Nat → Int64) (x1 x2 x3 x4 : Int32) (xv : Int64) (hB : BlkP pic cA b aB r1 r2 r3 r4 r5 (nI n) kept fs rd fb ac t1 t2 t3 vl) (hn : n < 32)  : CV l yX0_add cX0_add 7 none { frames := 0, cells := 0, slots := 0, locals := 0 } 0 0 D cA base pic [.ref aB, .int x1, .int x2, .int x3, .int x4, .long xv] (fun pic1 => BlkP pic1 cA b aB r1 r2 r3 r4 r5 (nI (n + 1)) kept fs rd fb (upd ac n x1) (upd t1 n x2) (upd t2 n x3) (upd t3 n x4) (vp_updL vl n xv) ∧ ∀ q, ¬ (b ≤ q ∧ q < b + 6) → pic1 q = pic q) := by
  refine ofV (by decide) (Nat.le_of_ble_eq_true rfl) ?_
  intro p e s m below meth c K hr hlk hnm
  have FR : ∀ q, ¬ (b ≤ q ∧ q < b + 6) → pic q = pic q := fun _ _ => rfl
  obtain ⟨f0, f1, f2, f3, f4, f5⟩ := hB
  refine v_aload_n K 0 dX0_add_0 rfl rfl ?_
  refine gf_X0_9 K dX0_add_1 f0 rfl ?_
  refine v_aload_n K 0 dX0_add_4 rfl rfl ?_
  refine gf_X0_32 K dX0_add_5 f0 rfl ?_
  refine v_iload_n K 1 dX0_add_8 rfl rfl ?_
  refine v_iast K dX0_add_9 f1 (by omega) (by decide) (fun pic3 g1 fr2 => ?_)
  replace f0 := (fr2 _ (by omega)).trans f0
  replace f1 := g1
  replace f2 := (fr2 _ (by omega)).trans f2
  replace f3 := (fr2 _ (by omega)).trans f3
  replace f4 := (fr2 _ (by omega)).trans f4
  replace f5 := (fr2 _ (by omega)).trans f5
  have FR : ∀ q, ¬ (b ≤ q ∧ q < b + 6) → pic3 q = pic q := fun q hq => (fr2 q (by omega)).trans (FR q hq)
  refine v_aload_n K 0 dX0_add_10 rfl rfl ?_
  refine gf_X0_15 K dX0_add_11 f0 rfl ?_
  refine v_aload_n K 0 dX0_add_14 rfl rfl ?_
  refine gf_X0_32 K dX0_add_15 f0 rfl ?_
  refine v_iload_n K 2 dX0_add_18 rfl rfl ?_
  refine v_iast K dX0_add_19 f2 (by omega) (by decide) (fun pic6 g4 fr5 => ?_)
  replace f0 := (fr5 _ (by omega)).trans f0
  replace f1 := (fr5 _ (by omega)).trans f1
  replace f2 := g4
  replace f3 := (fr5 _ (by omega)).trans f3
  replace f4 := (fr5 _ (by omega)).trans f4
  replace f5 := (fr5 _ (by omega)).trans f5
  have FR : ∀ q, ¬ (b ≤ q ∧ q < b + 6) → pic6 q = pic q := fun q hq => (fr5 q (by omega)).trans (FR q hq)
  refine v_aload_n K 0 dX0_add_20 rfl rfl ?_
  refine gf_X0_18 K dX0_add_21 f0 rfl ?_
  refine v_aload_n K 0 dX0_add_24 rfl rfl ?_
  refine gf_X0_32 K dX0_add_25 f0 rfl ?_
  refine v_iload_n K 3 dX0_add_28 rfl rfl ?_
  refine v_iast K dX0_add_29 f3 (by omega) (by decide) (fun pic9 g7 fr8 => ?_)
  replace f0 := (fr8 _ (by omega)).trans f0
  replace f1 := (fr8 _ (by omega)).trans f1
  replace f2 := (fr8 _ (by omega)).trans f2
  replace f3 := g7
  replace f4 := (fr8 _ (by omega)).trans f4
  replace f5 := (fr8 _ (by omega)).trans f5
  have FR : ∀ q, ¬ (b ≤ q ∧ q < b + 6) → pic9 q = pic q := fun q hq => (fr8 q (by omega)).trans (FR q hq)
  refine v_aload_n K 0 dX0_add_30 rfl rfl ?_
  refine gf_X0_21 K dX0_add_31 f0 rfl ?_
  refine v_aload_n K 0 dX0_add_34 rfl rfl ?_
  refine gf_X0_32 K dX0_add_35 f0 rfl ?_
  refine v_iload K dX0_add_38 rfl ?_
  refine v_iast K dX0_add_40 f4 (by omega) (by decide) (fun pic12 g10 fr11 => ?_)
  replace f0 := (fr11 _ (by omega)).trans f0
  replace f1 := (fr11 _ (by omega)).trans f1
  replace f2 := (fr11 _ (by omega)).trans f2
  replace f3 := (fr11 _ (by omega)).trans f3
  replace f4 := g10
  replace f5 := (fr11 _ (by omega)).trans f5
  have FR : ∀ q, ¬ (b ≤ q ∧ q < b + 6) → pic12 q = pic q := fun q hq => (fr11 q (by omega)).trans (FR q hq)
  refine v_aload_n K 0 dX0_add_41 rfl rfl ?_
  refine gf_X0_24 K dX0_add_42 f0 rfl ?_
  refine v_aload_n K 0 dX0_add_45 rfl rfl ?_
  refine gf_X0_32 K dX0_add_46 f0 rfl ?_
  refine v_lload K dX0_add_49 rfl ?_
  refine v_last K dX0_add_51 f5 (by omega) (by decide) (fun pic15 g13 fr14 => ?_)
  replace f0 := (fr14 _ (by omega)).trans f0
  replace f1 := (fr14 _ (by omega)).trans f1
  replace f2 := (fr14 _ (by omega)).trans f2
  replace f3 := (fr14 _ (by omega)).trans f3
  replace f4 := (fr14 _ (by omega)).trans f4
  replace f5 := g13
  have FR : ∀ q, ¬ (b ≤ q ∧ q < b + 6) → pic15 q = pic q := fun q hq => (fr14 q (by omega)).trans (FR q hq)
  refine v_aload_n K 0 dX0_add_52 rfl rfl ?_
  refine v_dup K dX0_add_53 rfl ?_
  refine gf_X0_32 K dX0_add_54 f0 rfl ?_
  refine v_iconst (v := nI 1) K dX0_add_57 (by decide) ?_
  refine v_iaddN K dX0_add_58 ?_
  refine pf_X0_32 K dX0_add_59 f0 (Nat.le_of_ble_eq_true rfl) (fun pic18 g16 fr17 => ?_)
  replace f0 := g16
  replace f1 := (fr17 _ (by omega)).trans f1
  replace f2 := (fr17 _ (by omega)).trans f2
  replace f3 := (fr17 _ (by omega)).trans f3
  replace f4 := (fr17 _ (by omega)).trans f4
  replace f5 := (fr17 _ (by omega)).trans f5
  have FR : ∀ q, ¬ (b ≤ q ∧ q < b + 6) → pic18 q = pic q := fun q hq => (fr17 q (by omega)).trans (FR q hq)
  exact v_vret K dX0_add_62 hr hlk (by decide) (by decide) (⟨⟨f0, f1, f2, f3, f4, f5⟩, FR⟩)

set_option maxHeartbeats 4000000 in
set_option maxRecDepth 100000 in
theorem c_X0_clear (l : Launch) (D : va_G) (cA : Nat → ClassId) (base : Nat) (pic : PIC) (b aB r1 r2 r3 r4 r5 : Nat) (cnt kept fs : Int32) (rd fb : Int64) (ac t1 t2 t3 : Nat → Int32) (vl : Nat → Int64) (hB : BlkP pic cA b aB r1 r2 r3 r4 r5 cnt kept fs rd fb ac t1 t2 t3 vl)  : CV l yX0_clear cX0_clear 1 none { frames := 0, cells := 0, slots := 0, locals := 0 } 0 0 D cA base pic [.ref aB] (fun pic1 => BlkP pic1 cA b aB r1 r2 r3 r4 r5 (nI 0) 1 fs rd fb ac t1 t2 t3 vl ∧ ∀ q, ¬ (b ≤ q ∧ q < b + 6) → pic1 q = pic q) := by
  refine ofV (by decide) (Nat.le_of_ble_eq_true rfl) ?_
  intro p e s m below meth c K hr hlk hnm
  have FR : ∀ q, ¬ (b ≤ q ∧ q < b + 6) → pic q = pic q := fun _ _ => rfl
  obtain ⟨f0, f1, f2, f3, f4, f5⟩ := hB
  refine v_aload_n K 0 dX0_clear_0 rfl rfl ?_
  refine v_iconst (v := nI 0) K dX0_clear_1 (by decide) ?_
  refine pf_X0_32 K dX0_clear_2 f0 (Nat.le_of_ble_eq_true rfl) (fun pic3 g1 fr2 => ?_)
  replace f0 := g1
  replace f1 := (fr2 _ (by omega)).trans f1
  replace f2 := (fr2 _ (by omega)).trans f2
  replace f3 := (fr2 _ (by omega)).trans f3
  replace f4 := (fr2 _ (by omega)).trans f4
  replace f5 := (fr2 _ (by omega)).trans f5
  have FR : ∀ q, ¬ (b ≤ q ∧ q < b + 6) → pic3 q = pic q := fun q hq => (fr2 q (by omega)).trans (FR q hq)
  refine v_aload_n K 0 dX0_clear_5 rfl rfl ?_
  refine v_iconst (v := nI 1) K dX0_clear_6 (by decide) ?_
  refine pf_X0_28 K dX0_clear_7 f0 (by first | exact isB0 | exact isB1 | assumption) (Nat.le_of_ble_eq_true rfl) (fun pic6 g4 fr5 => ?_)
  replace f0 := g4
  replace f1 := (fr5 _ (by omega)).trans f1
  replace f2 := (fr5 _ (by omega)).trans f2
  replace f3 := (fr5 _ (by omega)).trans f3
  replace f4 := (fr5 _ (by omega)).trans f4
  replace f5 := (fr5 _ (by omega)).trans f5
  have FR : ∀ q, ¬ (b ≤ q ∧ q < b + 6) → pic6 q = pic q := fun q hq => (fr5 q (by omega)).trans (FR q hq)
  exact v_vret K dX0_clear_10 hr hlk (by decide) (by decide) (⟨⟨f0, f1, f2, f3, f4, f5⟩, FR⟩)

set_option maxHeartbeats 4000000 in
set_option maxRecDepth 100000 in
theorem c_X0_topicBits (l : Launch) (D : va_G) (cA : Nat → ClassId) (base : Nat) (pic : PIC) (b aB r1 r2 r3 r4 r5 : Nat) (n : Nat) (kept fs : Int32) (rd fb : Int64) (ac t1 t2 t3 : Nat → Int32) (vl : Nat → Int64) (k : Nat) (hB : BlkP pic cA b aB r1 r2 r3 r4 r5 (nI n) kept fs rd fb ac t1 t2 t3 vl) (hk : k < 32)  : CL l yX0_topicBits cX0_topicBits 4 (some .long) { frames := 1, cells := 0, slots := 0, locals := 20 } 0 0 D cA base pic [.ref aB, .int (nI k)] (fun x pic1 => pic = pic1 ∧ x = tbF (t1 k) (t2 k) (t3 k)) := by
  refine ofL (by decide) (Nat.le_of_ble_eq_true rfl) ?_
  intro p e s m below meth c K hr hlk hnm
  obtain ⟨f0, f1, f2, f3, f4, f5⟩ := hB
  refine v_aload_n K 0 dX0_topicBits_0 rfl rfl ?_
  refine gf_X0_15 K dX0_topicBits_1 f0 rfl ?_
  refine v_iload_n K 1 dX0_topicBits_4 rfl rfl ?_
  refine v_iald K dX0_topicBits_5 f2 (by omega) (by decide) ?_
  refine cl_X0_50 K dX0_topicBits_6 (c_X5_bitsOf l D cA base pic _) rfl rfl ⟨by decide, by decide⟩ (Nat.le_of_ble_eq_true rfl) ⟨by decide, by decide⟩ (fun x6 pic1 hx2 => ?_)
  obtain ⟨rfl, rfl⟩ := hx2
  refine v_lstore_n K 2 dX0_topicBits_9 rfl (by decide) ?_
  refine v_aload_n K 0 dX0_topicBits_10 rfl rfl ?_
  refine gf_X0_18 K dX0_topicBits_11 f0 rfl ?_
  refine v_iload_n K 1 dX0_topicBits_14 rfl rfl ?_
  refine v_iald K dX0_topicBits_15 f3 (by omega) (by decide) ?_
  refine v_iconst (v := -1) K dX0_topicBits_16 (by decide) ?_
  refine v_icmp_eq K 32 dX0_topicBits_17 (by decide) rfl m1T (fun c17 => ?_) (fun c17 => ?_)
  · refine v_aload_n K 0 dX0_topicBits_32 rfl rfl ?_
    refine gf_X0_21 K dX0_topicBits_33 f0 rfl ?_
    refine v_iload_n K 1 dX0_topicBits_36 rfl rfl ?_
    refine v_iald K dX0_topicBits_37 f4 (by omega) (by decide) ?_
    refine v_iconst (v := -1) K dX0_topicBits_38 (by decide) ?_
    refine v_icmp_eq K 54 dX0_topicBits_39 (by decide) rfl m1T (fun c39 => ?_) (fun c39 => ?_)
    · refine v_lload_n K 2 dX0_topicBits_54 rfl rfl ?_
      exact v_lret K dX0_topicBits_55 hr hlk (by decide) (by decide) (⟨rfl, by simp only [tbF, orO]; repeat (first | rw [if_pos (by omega)] | rw [if_neg (by omega)])⟩)
    · refine v_lload_n K 2 dX0_topicBits_42 rfl rfl ?_
      refine v_aload_n K 0 dX0_topicBits_43 rfl rfl ?_
      refine gf_X0_21 K dX0_topicBits_44 f0 rfl ?_
      refine v_iload_n K 1 dX0_topicBits_47 rfl rfl ?_
      refine v_iald K dX0_topicBits_48 f4 (by omega) (by decide) ?_
      refine cl_X0_50 K dX0_topicBits_49 (c_X5_bitsOf l D cA base pic _) rfl rfl ⟨by decide, by decide⟩ (Nat.le_of_ble_eq_true rfl) ⟨by decide, by decide⟩ (fun x49 pic3 hx4 => ?_)
      obtain ⟨rfl, rfl⟩ := hx4
      refine v_lor K dX0_topicBits_52 ?_
      refine v_lstore_n K 2 dX0_topicBits_53 rfl (by decide) ?_
      refine v_lload_n K 2 dX0_topicBits_54 rfl rfl ?_
      exact v_lret K dX0_topicBits_55 hr hlk (by decide) (by decide) (⟨rfl, by simp only [tbF, orO]; repeat (first | rw [if_pos (by omega)] | rw [if_neg (by omega)])⟩)
  · refine v_lload_n K 2 dX0_topicBits_20 rfl rfl ?_
    refine v_aload_n K 0 dX0_topicBits_21 rfl rfl ?_
    refine gf_X0_18 K dX0_topicBits_22 f0 rfl ?_
    refine v_iload_n K 1 dX0_topicBits_25 rfl rfl ?_
    refine v_iald K dX0_topicBits_26 f3 (by omega) (by decide) ?_
    refine cl_X0_50 K dX0_topicBits_27 (c_X5_bitsOf l D cA base pic _) rfl rfl ⟨by decide, by decide⟩ (Nat.le_of_ble_eq_true rfl) ⟨by decide, by decide⟩ (fun x27 pic5 hx6 => ?_)
    obtain ⟨rfl, rfl⟩ := hx6
    refine v_lor K dX0_topicBits_30 ?_
    refine v_lstore_n K 2 dX0_topicBits_31 rfl (by decide) ?_
    refine v_aload_n K 0 dX0_topicBits_32 rfl rfl ?_
    refine gf_X0_21 K dX0_topicBits_33 f0 rfl ?_
    refine v_iload_n K 1 dX0_topicBits_36 rfl rfl ?_
    refine v_iald K dX0_topicBits_37 f4 (by omega) (by decide) ?_
    refine v_iconst (v := -1) K dX0_topicBits_38 (by decide) ?_
    refine v_icmp_eq K 54 dX0_topicBits_39 (by decide) rfl m1T (fun c39 => ?_) (fun c39 => ?_)
    · refine v_lload_n K 2 dX0_topicBits_54 rfl rfl ?_
      exact v_lret K dX0_topicBits_55 hr hlk (by decide) (by decide) (⟨rfl, by simp only [tbF, orO]; repeat (first | rw [if_pos (by omega)] | rw [if_neg (by omega)])⟩)
    · refine v_lload_n K 2 dX0_topicBits_42 rfl rfl ?_
      refine v_aload_n K 0 dX0_topicBits_43 rfl rfl ?_
      refine gf_X0_21 K dX0_topicBits_44 f0 rfl ?_
      refine v_iload_n K 1 dX0_topicBits_47 rfl rfl ?_
      refine v_iald K dX0_topicBits_48 f4 (by omega) (by decide) ?_
      refine cl_X0_50 K dX0_topicBits_49 (c_X5_bitsOf l D cA base pic _) rfl rfl ⟨by decide, by decide⟩ (Nat.le_of_ble_eq_true rfl) ⟨by decide, by decide⟩ (fun x49 pic7 hx8 => ?_)
      obtain ⟨rfl, rfl⟩ := hx8
      refine v_lor K dX0_topicBits_52 ?_
      refine v_lstore_n K 2 dX0_topicBits_53 rfl (by decide) ?_
      refine v_lload_n K 2 dX0_topicBits_54 rfl rfl ?_
      exact v_lret K dX0_topicBits_55 hr hlk (by decide) (by decide) (⟨rfl, by simp only [tbF, orO]; repeat (first | rw [if_pos (by omega)] | rw [if_neg (by omega)])⟩)

set_option maxHeartbeats 4000000 in
set_option maxRecDepth 100000 in
theorem c_X0_hasEvent (l : Launch) (D : va_G) (cA : Nat → ClassId) (base : Nat) (pic : PIC) (b aB r1 r2 r3 r4 r5 : Nat) (n : Nat) (kept fs : Int32) (rd fb : Int64) (ac t1 t2 t3 : Nat → Int32) (vl : Nat → Int64) (i : Int32) (hB : BlkP pic cA b aB r1 r2 r3 r4 r5 (nI n) kept fs rd fb ac t1 t2 t3 vl) (hn : n ≤ 32)  : CI l yX0_hasEvent cX0_hasEvent 2 (some .boolean) { frames := 0, cells := 0, slots := 0, locals := 0 } 0 0 D cA base pic [.ref aB, .int i] (fun x pic1 => (pic = pic1 ∧ x = 1 ∧ (0 ≤ i.toInt ∧ i.toInt < n)) ∨ (pic = pic1 ∧ x = 0 ∧ ¬ (0 ≤ i.toInt ∧ i.toInt < n))) := by
  refine ofI (by decide) (Nat.le_of_ble_eq_true rfl) ?_
  intro p e s m below meth c K hr hlk hnm
  obtain ⟨f0, f1, f2, f3, f4, f5⟩ := hB
  refine v_iload_n K 1 dX0_hasEvent_0 rfl rfl ?_
  refine v_if_lt K 16 dX0_hasEvent_1 (by decide) rfl (fun c1 => ?_) (fun c1 => ?_)
  · refine v_iconst (v := nI 0) K dX0_hasEvent_16 (by decide) ?_
    exact v_zret K dX0_hasEvent_17 hr (narB (by first | exact isB0 | exact isB1 | assumption)) hlk (by decide) (by decide) (by first | exact (Or.inl ⟨rfl, rfl, by omega, by omega⟩) | exact (Or.inr ⟨rfl, rfl, by omega⟩))
  · refine v_iload_n K 1 dX0_hasEvent_4 rfl rfl ?_
    refine v_aload_n K 0 dX0_hasEvent_5 rfl rfl ?_
    refine gf_X0_32 K dX0_hasEvent_6 f0 rfl ?_
    refine v_icmp_ge K 16 dX0_hasEvent_9 (by decide) rfl (nI_toInt (by omega)) (fun c9 => ?_) (fun c9 => ?_)
    · refine v_iconst (v := nI 0) K dX0_hasEvent_16 (by decide) ?_
      exact v_zret K dX0_hasEvent_17 hr (narB (by first | exact isB0 | exact isB1 | assumption)) hlk (by decide) (by decide) (by first | exact (Or.inl ⟨rfl, rfl, by omega, by omega⟩) | exact (Or.inr ⟨rfl, rfl, by omega⟩))
    · refine v_iconst (v := nI 1) K dX0_hasEvent_12 (by decide) ?_
      refine v_goto K 17 dX0_hasEvent_13 (by decide) ?_
      exact v_zret K dX0_hasEvent_17 hr (narB (by first | exact isB0 | exact isB1 | assumption)) hlk (by decide) (by decide) (by first | exact (Or.inl ⟨rfl, rfl, by omega, by omega⟩) | exact (Or.inr ⟨rfl, rfl, by omega⟩))

set_option maxHeartbeats 4000000 in
set_option maxRecDepth 100000 in
theorem c_X0_detail (l : Launch) (D : va_G) (cA : Nat → ClassId) (base : Nat) (pic : PIC) (b aB r1 r2 r3 r4 r5 : Nat) (n : Nat) (kept fs : Int32) (rd fb : Int64) (ac t1 t2 t3 : Nat → Int32) (vl : Nat → Int64) (k w : Nat) (hB : BlkP pic cA b aB r1 r2 r3 r4 r5 (nI n) kept fs rd fb ac t1 t2 t3 vl) (hk : k < 32) (hw : w ≤ 5)  : CI l yX0_detail cX0_detail 3 (some .int) { frames := 1, cells := 0, slots := 0, locals := 21 } 0 0 D cA base pic [.ref aB, .int (nI k), .int (nI w)] (fun x pic1 => pic = pic1 ∧ x = detF (ac k) (t1 k) (t2 k) (t3 k) fs k w) := by
  refine ofI (by decide) (Nat.le_of_ble_eq_true rfl) ?_
  intro p e s m below meth c K hr hlk hnm
  obtain ⟨f0, f1, f2, f3, f4, f5⟩ := hB
  refine v_iload_n K 2 dX0_detail_0 rfl rfl ?_
  rcases (show w = 5 ∨ w = 0 ∨ w = 1 ∨ w = 2 ∨ w = 3 ∨ w = 4 by omega) with hw5 | rfl | rfl | rfl | rfl | rfl
  · refine v_tableOut K 86 dX0_detail_1 (nI_toInt (by omega)) (by omega) (by decide) ?_
    refine v_aload_n K 0 dX0_detail_86 rfl rfl ?_
    refine gf_X0_36 K dX0_detail_87 f0 rfl ?_
    refine v_iload_n K 1 dX0_detail_90 rfl rfl ?_
    refine v_iadd K dX0_detail_91 ?_
    exact v_iret K dX0_detail_92 hr hlk (by decide) (by decide) (by first | exact (⟨rfl, rfl⟩) | exact (⟨rfl, by subst hw5; rfl⟩))
  · refine v_tableIn K 36 dX0_detail_1 (nI_toInt (n := 0) (by decide)) (by decide) (by decide) rfl (by decide) ?_
    refine v_aload_n K 0 dX0_detail_36 rfl rfl ?_
    refine gf_X0_9 K dX0_detail_37 f0 rfl ?_
    refine v_iload_n K 1 dX0_detail_40 rfl rfl ?_
    refine v_iald K dX0_detail_41 f1 (by omega) (by decide) ?_
    exact v_iret K dX0_detail_42 hr hlk (by decide) (by decide) (by first | exact (⟨rfl, rfl⟩) | exact (⟨rfl, by subst hw5; rfl⟩))
  · refine v_tableIn K 43 dX0_detail_1 (nI_toInt (n := 1) (by decide)) (by decide) (by decide) rfl (by decide) ?_
    refine v_aload_n K 0 dX0_detail_43 rfl rfl ?_
    refine gf_X0_18 K dX0_detail_44 f0 rfl ?_
    refine v_iload_n K 1 dX0_detail_47 rfl rfl ?_
    refine v_iald K dX0_detail_48 f3 (by omega) (by decide) ?_
    refine v_aload_n K 0 dX0_detail_49 rfl rfl ?_
    refine gf_X0_21 K dX0_detail_50 f0 rfl ?_
    refine v_iload_n K 1 dX0_detail_53 rfl rfl ?_
    refine v_iald K dX0_detail_54 f4 (by omega) (by decide) ?_
    refine cl_X0_53 K dX0_detail_55 (c_X5_topicCount l D cA base pic _ _) rfl rfl ⟨by decide, by decide⟩ (Nat.le_of_ble_eq_true rfl) ⟨by decide, by decide⟩ (fun x55 pic1 hx2 => ?_)
    obtain ⟨rfl, rfl⟩ := hx2
    exact v_iret K dX0_detail_58 hr hlk (by decide) (by decide) (by first | exact (⟨rfl, rfl⟩) | exact (⟨rfl, by subst hw5; rfl⟩))
  · refine v_tableIn K 59 dX0_detail_1 (nI_toInt (n := 2) (by decide)) (by decide) (by decide) rfl (by decide) ?_
    refine v_aload_n K 0 dX0_detail_59 rfl rfl ?_
    refine gf_X0_15 K dX0_detail_60 f0 rfl ?_
    refine v_iload_n K 1 dX0_detail_63 rfl rfl ?_
    refine v_iald K dX0_detail_64 f2 (by omega) (by decide) ?_
    exact v_iret K dX0_detail_65 hr hlk (by decide) (by decide) (by first | exact (⟨rfl, rfl⟩) | exact (⟨rfl, by subst hw5; rfl⟩))
  · refine v_tableIn K 66 dX0_detail_1 (nI_toInt (n := 3) (by decide)) (by decide) (by decide) rfl (by decide) ?_
    refine v_aload_n K 0 dX0_detail_66 rfl rfl ?_
    refine gf_X0_18 K dX0_detail_67 f0 rfl ?_
    refine v_iload_n K 1 dX0_detail_70 rfl rfl ?_
    refine v_iald K dX0_detail_71 f3 (by omega) (by decide) ?_
    refine cl_X0_57 K dX0_detail_72 (c_X0_topicOrNone l D cA base pic _) rfl rfl ⟨by decide, by decide⟩ (Nat.le_of_ble_eq_true rfl) ⟨by decide, by decide⟩ (fun x72 pic3 hx4 => ?_)
    obtain ⟨rfl, rfl⟩ := hx4
    exact v_iret K dX0_detail_75 hr hlk (by decide) (by decide) (by first | exact (⟨rfl, rfl⟩) | exact (⟨rfl, by subst hw5; rfl⟩))
  · refine v_tableIn K 76 dX0_detail_1 (nI_toInt (n := 4) (by decide)) (by decide) (by decide) rfl (by decide) ?_
    refine v_aload_n K 0 dX0_detail_76 rfl rfl ?_
    refine gf_X0_21 K dX0_detail_77 f0 rfl ?_
    refine v_iload_n K 1 dX0_detail_80 rfl rfl ?_
    refine v_iald K dX0_detail_81 f4 (by omega) (by decide) ?_
    refine cl_X0_57 K dX0_detail_82 (c_X0_topicOrNone l D cA base pic _) rfl rfl ⟨by decide, by decide⟩ (Nat.le_of_ble_eq_true rfl) ⟨by decide, by decide⟩ (fun x82 pic5 hx6 => ?_)
    obtain ⟨rfl, rfl⟩ := hx6
    exact v_iret K dX0_detail_85 hr hlk (by decide) (by decide) (by first | exact (⟨rfl, rfl⟩) | exact (⟨rfl, by subst hw5; rfl⟩))

set_option maxHeartbeats 4000000 in
set_option maxRecDepth 100000 in
theorem c_X0_hasTopic (l : Launch) (D : va_G) (cA : Nat → ClassId) (base : Nat) (pic : PIC) (b aB r1 r2 r3 r4 r5 : Nat) (n : Nat) (kept fs : Int32) (rd fb : Int64) (ac t1 t2 t3 : Nat → Int32) (vl : Nat → Int64) (k : Nat) (t : Int32) (hB : BlkP pic cA b aB r1 r2 r3 r4 r5 (nI n) kept fs rd fb ac t1 t2 t3 vl) (hk : k < 32)  : CI l yX0_hasTopic cX0_hasTopic 3 (some .boolean) { frames := 0, cells := 0, slots := 0, locals := 0 } 0 0 D cA base pic [.ref aB, .int (nI k), .int t] (fun x pic1 => (pic = pic1 ∧ x = 1 ∧ hasT (t1 k) (t2 k) (t3 k) t) ∨ (pic = pic1 ∧ x = 0 ∧ ¬ hasT (t1 k) (t2 k) (t3 k) t)) := by
  refine ofI (by decide) (Nat.le_of_ble_eq_true rfl) ?_
  intro p e s m below meth c K hr hlk hnm
  obtain ⟨f0, f1, f2, f3, f4, f5⟩ := hB
  refine v_aload_n K 0 dX0_hasTopic_0 rfl rfl ?_
  refine gf_X0_15 K dX0_hasTopic_1 f0 rfl ?_
  refine v_iload_n K 1 dX0_hasTopic_4 rfl rfl ?_
  refine v_iald K dX0_hasTopic_5 f2 (by omega) (by decide) ?_
  refine v_iload_n K 2 dX0_hasTopic_6 rfl rfl ?_
  refine v_icmp_eq K 30 dX0_hasTopic_7 (by decide) rfl rfl (fun c7 => ?_) (fun c7 => ?_)
  · refine v_iconst (v := nI 1) K dX0_hasTopic_30 (by decide) ?_
    refine v_goto K 35 dX0_hasTopic_31 (by decide) ?_
    exact v_zret K dX0_hasTopic_35 hr (narB (by first | exact isB0 | exact isB1 | assumption)) hlk (by decide) (by decide) (by first | exact (Or.inl ⟨rfl, rfl, by unfold hasT; omega⟩) | exact (Or.inr ⟨rfl, rfl, by unfold hasT; omega⟩))
  · refine v_aload_n K 0 dX0_hasTopic_10 rfl rfl ?_
    refine gf_X0_18 K dX0_hasTopic_11 f0 rfl ?_
    refine v_iload_n K 1 dX0_hasTopic_14 rfl rfl ?_
    refine v_iald K dX0_hasTopic_15 f3 (by omega) (by decide) ?_
    refine v_iload_n K 2 dX0_hasTopic_16 rfl rfl ?_
    refine v_icmp_eq K 30 dX0_hasTopic_17 (by decide) rfl rfl (fun c17 => ?_) (fun c17 => ?_)
    · refine v_iconst (v := nI 1) K dX0_hasTopic_30 (by decide) ?_
      refine v_goto K 35 dX0_hasTopic_31 (by decide) ?_
      exact v_zret K dX0_hasTopic_35 hr (narB (by first | exact isB0 | exact isB1 | assumption)) hlk (by decide) (by decide) (by first | exact (Or.inl ⟨rfl, rfl, by unfold hasT; omega⟩) | exact (Or.inr ⟨rfl, rfl, by unfold hasT; omega⟩))
    · refine v_aload_n K 0 dX0_hasTopic_20 rfl rfl ?_
      refine gf_X0_21 K dX0_hasTopic_21 f0 rfl ?_
      refine v_iload_n K 1 dX0_hasTopic_24 rfl rfl ?_
      refine v_iald K dX0_hasTopic_25 f4 (by omega) (by decide) ?_
      refine v_iload_n K 2 dX0_hasTopic_26 rfl rfl ?_
      refine v_icmp_ne K 34 dX0_hasTopic_27 (by decide) rfl rfl (fun c27 => ?_) (fun c27 => ?_)
      · refine v_iconst (v := nI 0) K dX0_hasTopic_34 (by decide) ?_
        exact v_zret K dX0_hasTopic_35 hr (narB (by first | exact isB0 | exact isB1 | assumption)) hlk (by decide) (by decide) (by first | exact (Or.inl ⟨rfl, rfl, by unfold hasT; omega⟩) | exact (Or.inr ⟨rfl, rfl, by unfold hasT; omega⟩))
      · refine v_iconst (v := nI 1) K dX0_hasTopic_30 (by decide) ?_
        refine v_goto K 35 dX0_hasTopic_31 (by decide) ?_
        exact v_zret K dX0_hasTopic_35 hr (narB (by first | exact isB0 | exact isB1 | assumption)) hlk (by decide) (by decide) (by first | exact (Or.inl ⟨rfl, rfl, by unfold hasT; omega⟩) | exact (Or.inr ⟨rfl, rfl, by unfold hasT; omega⟩))

set_option maxHeartbeats 4000000 in
set_option maxRecDepth 100000 in
theorem c_X0_leaf (l : Launch) (D : va_G) (cA : Nat → ClassId) (base : Nat) (pic : PIC) (b aB r1 r2 r3 r4 r5 : Nat) (n : Nat) (kept fs : Int32) (rd fb : Int64) (ac t1 t2 t3 : Nat → Int32) (vl : Nat → Int64) (k : Nat) (hB : BlkP pic cA b aB r1 r2 r3 r4 r5 (nI n) kept fs rd fb ac t1 t2 t3 vl) (hk : k < 32)  : CL l yX0_leaf cX0_leaf 2 (some .long) { frames := 2, cells := 0, slots := 0, locals := 53 } 0 0 D cA base pic [.ref aB, .int (nI k)] (fun x pic1 => pic = pic1 ∧ x = leafF (ac k) (t1 k) (t2 k) (t3 k) (vl k) (nI k)) := by
  refine ofL (by decide) (Nat.le_of_ble_eq_true rfl) ?_
  intro p e s m below meth c K hr hlk hnm
  obtain ⟨f0, f1, f2, f3, f4, f5⟩ := hB
  refine v_aload_n K 0 dX0_leaf_0 rfl rfl ?_
  refine gf_X0_9 K dX0_leaf_1 f0 rfl ?_
  refine v_iload_n K 1 dX0_leaf_4 rfl rfl ?_
  refine v_iald K dX0_leaf_5 f1 (by omega) (by decide) ?_
  refine v_aload_n K 0 dX0_leaf_6 rfl rfl ?_
  refine gf_X0_15 K dX0_leaf_7 f0 rfl ?_
  refine v_iload_n K 1 dX0_leaf_10 rfl rfl ?_
  refine v_iald K dX0_leaf_11 f2 (by omega) (by decide) ?_
  refine v_aload_n K 0 dX0_leaf_12 rfl rfl ?_
  refine gf_X0_18 K dX0_leaf_13 f0 rfl ?_
  refine v_iload_n K 1 dX0_leaf_16 rfl rfl ?_
  refine v_iald K dX0_leaf_17 f3 (by omega) (by decide) ?_
  refine v_aload_n K 0 dX0_leaf_18 rfl rfl ?_
  refine gf_X0_21 K dX0_leaf_19 f0 rfl ?_
  refine v_iload_n K 1 dX0_leaf_22 rfl rfl ?_
  refine v_iald K dX0_leaf_23 f4 (by omega) (by decide) ?_
  refine v_aload_n K 0 dX0_leaf_24 rfl rfl ?_
  refine gf_X0_24 K dX0_leaf_25 f0 rfl ?_
  refine v_iload_n K 1 dX0_leaf_28 rfl rfl ?_
  refine v_lald K dX0_leaf_29 f5 (by omega) (by decide) ?_
  refine v_iload_n K 1 dX0_leaf_30 rfl rfl ?_
  refine cl_X0_65 K dX0_leaf_31 (c_X5_leafOf l D cA base pic _ _ _ _ _ _) rfl rfl ⟨by decide, by decide⟩ (Nat.le_of_ble_eq_true rfl) ⟨by decide, by decide⟩ (fun x31 pic1 hx2 => ?_)
  obtain ⟨rfl, rfl⟩ := hx2
  exact v_lret K dX0_leaf_34 hr hlk (by decide) (by decide) (⟨rfl, rfl⟩)

set_option maxHeartbeats 4000000 in
set_option maxRecDepth 100000 in
theorem l_X0_firstWith {p : Program} {l : Launch} {e : Env} {s : State} {m : MethodId} {args : Array Value} {below : List Frame} {meth : Method} {c : Code} {Q : State → Prop} {D : va_G} {cA : Nat → ClassId} {base : Nat} {cw : Cond} (K : KX p m c cX0_firstWith 4 s args cw RX0 D cA) (pic : PIC) (b aB r1 r2 r3 r4 r5 : Nat) (n : Nat) (kept fs : Int32) (rd fb : Int64) (ac t1 t2 t3 : Nat → Int32) (vl : Nat → Int64) (t : Int32) (f : Nat) (hf : f < 2 ^ 31) (hn : n ≤ 32) (hB : BlkP pic cA b aB r1 r2 r3 r4 r5 (nI n) kept fs rd fb ac t1 t2 t3 vl) (kr : ∀ (x : Int32) (pc : Nat) (lv : LV), decode cX0_firstWith pc = .ok (.ireturn, 1) → ((pic = pic ∧ ∃ j, x = nI j ∧ f ≤ j ∧ j < n ∧ (t.toInt = -1 ∨ hasT (t1 j) (t2 j) (t3 j) t) ∧ ∀ i, f ≤ i → i < j → ¬ (t.toInt = -1 ∨ hasT (t1 i) (t2 i) (t3 i) t)) ∨ (pic = pic ∧ x = -5 ∧ ∀ i, f ≤ i → i < n → ¬ (t.toInt = -1 ∨ hasT (t1 i) (t2 i) (t3 i) t))) → V p l e { frames := 1, cells := 0, slots := 0, locals := 22 } s m args below meth c Q D base 4 pic lv pc [.int x] 0 0) : ∀ (g i : Nat), n - i < g → f ≤ i → i < 2 ^ 31 → (∀ j, f ≤ j → j < i → ¬ (t.toInt = -1 ∨ hasT (t1 j) (t2 j) (t3 j) t)) → V p l e { frames := 1, cells := 0, slots := 0, locals := 22 } s m args below meth c Q D base 4 pic (lvOf [(0, .ref aB), (1, .int t), (3, .int (nI i))]) 2 [] 0 0 := by
  obtain ⟨f0, f1, f2, f3, f4, f5⟩ := hB
  intro g
  induction g with
  | zero => intro i h; omega
  | succ g ih =>
    intro i hg hfi hi31 hno
    refine v_iload_n K 3 dX0_firstWith_2 rfl rfl ?_
    refine v_aload_n K 0 dX0_firstWith_3 rfl rfl ?_
    refine gf_X0_32 K dX0_firstWith_4 f0 rfl ?_
    refine v_icmp_ge K 32 dX0_firstWith_7 (by decide) (nI_toInt (by omega)) (nI_toInt (by omega)) (fun c7 => ?_) (fun c7 => ?_)
    · refine v_bipush (v := -5) K dX0_firstWith_32 (by decide) ?_
      exact kr _ 34 _ dX0_firstWith_34 (by first | exact Or.inl ⟨rfl, i, rfl, hfi, by omega, Or.inl (by omega), hno⟩ | exact Or.inl ⟨rfl, i, rfl, hfi, by omega, Or.inr hp, hno⟩ | exact Or.inr ⟨rfl, rfl, fun j h1 h2 => hno j h1 (by omega)⟩)
    · refine v_iload_n K 1 dX0_firstWith_10 rfl rfl ?_
      refine v_iconst (v := -1) K dX0_firstWith_11 (by decide) ?_
      refine v_icmp_eq K 24 dX0_firstWith_12 (by decide) rfl m1T (fun c12 => ?_) (fun c12 => ?_)
      · refine v_iload_n K 3 dX0_firstWith_24 rfl rfl ?_
        exact kr _ 25 _ dX0_firstWith_25 (by first | exact Or.inl ⟨rfl, i, rfl, hfi, by omega, Or.inl (by omega), hno⟩ | exact Or.inl ⟨rfl, i, rfl, hfi, by omega, Or.inr hp, hno⟩ | exact Or.inr ⟨rfl, rfl, fun j h1 h2 => hno j h1 (by omega)⟩)
      · refine v_aload_n K 0 dX0_firstWith_15 rfl rfl ?_
        refine v_iload_n K 3 dX0_firstWith_16 rfl rfl ?_
        refine v_iload_n K 1 dX0_firstWith_17 rfl rfl ?_
        refine cl_X0_61 K dX0_firstWith_18 f0 (c_X0_hasTopic l D cA base pic b aB r1 r2 r3 r4 r5 n kept fs rd fb ac t1 t2 t3 vl i t ⟨f0, f1, f2, f3, f4, f5⟩ (by omega)) rfl rfl ⟨by decide, by decide⟩ (Nat.le_of_ble_eq_true rfl) ⟨by decide, by decide⟩ (fun x18 pic1 hx2 => ?_)
        rcases hx2 with ⟨rfl, rfl, hp⟩ | ⟨rfl, rfl, hq⟩
        · refine v_if_eq K 26 dX0_firstWith_21 (by decide) rfl (fun c => absurd c (by decide)) (fun _ => ?_)
          refine v_iload_n K 3 dX0_firstWith_24 rfl rfl ?_
          exact kr _ 25 _ dX0_firstWith_25 (by first | exact Or.inl ⟨rfl, i, rfl, hfi, by omega, Or.inl (by omega), hno⟩ | exact Or.inl ⟨rfl, i, rfl, hfi, by omega, Or.inr hp, hno⟩ | exact Or.inr ⟨rfl, rfl, fun j h1 h2 => hno j h1 (by omega)⟩)
        · refine v_if_eq K 26 dX0_firstWith_21 (by decide) rfl (fun _ => ?_) (fun c => absurd c (by decide))
          refine v_iincN K 1 dX0_firstWith_26 rfl (by decide) (by decide) ?_
          refine v_goto K 2 dX0_firstWith_29 (by decide) ?_
          refine v_at [(0, .ref aB), (1, .int t), (3, .int (nI (i + 1)))] (lcons rfl (lcons rfl (lcons rfl (lnil)))) ?_
          exact ih (i + 1) (by omega) (by omega) (by omega) (fun j h1 h2 => by
            by_cases h3 : j < i
            · exact hno j h1 h3
            · have h4 : j = i := by omega
              subst h4
              exact fun h => h.elim (by omega) hq)

set_option maxHeartbeats 4000000 in
set_option maxRecDepth 100000 in
theorem c_X0_firstWith (l : Launch) (D : va_G) (cA : Nat → ClassId) (base : Nat) (pic : PIC) (b aB r1 r2 r3 r4 r5 : Nat) (n : Nat) (kept fs : Int32) (rd fb : Int64) (ac t1 t2 t3 : Nat → Int32) (vl : Nat → Int64) (t : Int32) (f : Nat) (hB : BlkP pic cA b aB r1 r2 r3 r4 r5 (nI n) kept fs rd fb ac t1 t2 t3 vl) (hf : f < 2 ^ 31) (hn : n ≤ 32)  : CI l yX0_firstWith cX0_firstWith 4 (some .int) { frames := 1, cells := 0, slots := 0, locals := 22 } 0 0 D cA base pic [.ref aB, .int t, .int (nI f)] (fun x pic1 => (pic = pic1 ∧ ∃ j, x = nI j ∧ f ≤ j ∧ j < n ∧ (t.toInt = -1 ∨ hasT (t1 j) (t2 j) (t3 j) t) ∧ ∀ i, f ≤ i → i < j → ¬ (t.toInt = -1 ∨ hasT (t1 i) (t2 i) (t3 i) t)) ∨ (pic = pic1 ∧ x = -5 ∧ ∀ i, f ≤ i → i < n → ¬ (t.toInt = -1 ∨ hasT (t1 i) (t2 i) (t3 i) t))) := by
  refine ofI (by decide) (Nat.le_of_ble_eq_true rfl) ?_
  intro p e s m below meth c K hr hlk hnm
  obtain ⟨f0, f1, f2, f3, f4, f5⟩ := hB
  refine v_iload_n K 2 dX0_firstWith_0 rfl rfl ?_
  refine v_istore_n K 3 dX0_firstWith_1 rfl (by decide) ?_
  refine v_at [(0, .ref aB), (1, .int t), (3, .int (nI f))] (lcons rfl (lcons rfl (lcons rfl (lnil)))) ?_
  exact l_X0_firstWith K pic b aB r1 r2 r3 r4 r5 n kept fs rd fb ac t1 t2 t3 vl t f hf hn ⟨f0, f1, f2, f3, f4, f5⟩ (fun x pc lv d h => v_iret K d hr hlk (by decide) (by decide) h) (n - f + 1) f (by omega) (by omega) hf (fun j h1 h2 => absurd h1 (by omega))

set_option maxHeartbeats 4000000 in
set_option maxRecDepth 100000 in
theorem l_X0_seal {p : Program} {l : Launch} {e : Env} {s : State} {m : MethodId} {args : Array Value} {below : List Frame} {meth : Method} {c : Code} {Q : State → Prop} {D : va_G} {cA : Nat → ClassId} {base : Nat} {cw : Cond} (K : KX p m c cX0_seal 5 s args cw RX0 D cA) (b aB r1 r2 r3 r4 r5 : Nat) (n : Nat) (kept fs : Int32) (rd : Int64) (ac t1 t2 t3 : Nat → Int32) (vl : Nat → Int64) (hn : n ≤ 32) (pic0 : PIC) (kx : ∀ pic1 : PIC, BlkP pic1 cA b aB r1 r2 r3 r4 r5 (nI n) kept fs rd (fbF t1 t2 t3 n) ac t1 t2 t3 vl → (∀ q, ¬ (b ≤ q ∧ q < b + 6) → pic1 q = pic0 q) → V p l e { frames := 2, cells := 0, slots := 0, locals := 43 } s m args below meth c Q D base 5 pic1 (lvOf [(0, .ref aB)]) 48 [] 0 0) : ∀ (g i : Nat) (pic : PIC), n - i < g → i ≤ n → BlkP pic cA b aB r1 r2 r3 r4 r5 (nI n) kept fs rd (fbF t1 t2 t3 i) ac t1 t2 t3 vl → (∀ q, ¬ (b ≤ q ∧ q < b + 6) → pic q = pic0 q) → V p l e { frames := 2, cells := 0, slots := 0, locals := 43 } s m args below meth c Q D base 5 pic (lvOf [(0, .ref aB), (4, .int (nI (i)))]) 18 [] 0 0 := by
  intro g
  induction g with
  | zero => intro i pic h; omega
  | succ g ih =>
    intro i pic hg hi hB FR
    obtain ⟨f0, f1, f2, f3, f4, f5⟩ := hB
    refine v_iload K dX0_seal_18 rfl ?_
    refine v_aload_n K 0 dX0_seal_20 rfl rfl ?_
    refine gf_X0_32 K dX0_seal_21 f0 rfl ?_
    refine v_icmp_ge K 48 dX0_seal_24 (by decide) (nI_toInt (by omega)) (nI_toInt (by omega)) (fun c24 => ?_) (fun c24 => ?_)
    · obtain rfl : i = n := by omega
      refine v_at [(0, .ref aB)] (lcons rfl (lnil)) ?_
      exact kx pic ⟨f0, f1, f2, f3, f4, f5⟩ FR
    · refine v_aload_n K 0 dX0_seal_27 rfl rfl ?_
      refine v_dup K dX0_seal_28 rfl ?_
      refine gf_X0_43 K dX0_seal_29 f0 rfl ?_
      refine v_aload_n K 0 dX0_seal_32 rfl rfl ?_
      refine v_iload K dX0_seal_33 rfl ?_
      refine cl_X0_46 K dX0_seal_35 f0 (c_X0_topicBits l D cA base pic b aB r1 r2 r3 r4 r5 n kept fs rd (fbF t1 t2 t3 i) ac t1 t2 t3 vl i ⟨f0, f1, f2, f3, f4, f5⟩ (by omega)) rfl rfl ⟨by decide, by decide⟩ (Nat.le_of_ble_eq_true rfl) ⟨by decide, by decide⟩ (fun x35 pic1 hx2 => ?_)
      obtain ⟨rfl, rfl⟩ := hx2
      refine v_lor K dX0_seal_38 ?_
      refine pf_X0_43 K dX0_seal_39 f0 (Nat.le_of_ble_eq_true rfl) (fun pic5 g3 fr4 => ?_)
      replace f0 := g3
      replace f1 := (fr4 _ (by omega)).trans f1
      replace f2 := (fr4 _ (by omega)).trans f2
      replace f3 := (fr4 _ (by omega)).trans f3
      replace f4 := (fr4 _ (by omega)).trans f4
      replace f5 := (fr4 _ (by omega)).trans f5
      have FR : ∀ q, ¬ (b ≤ q ∧ q < b + 6) → pic5 q = pic0 q := fun q hq => (fr4 q (by omega)).trans (FR q hq)
      refine v_iincN K 1 dX0_seal_42 rfl (by decide) (by decide) ?_
      refine v_goto K 18 dX0_seal_45 (by decide) ?_
      refine v_at [(0, .ref aB), (4, .int (nI (i + 1)))] (lcons rfl (lcons rfl (lnil))) ?_
      exact ih (i + 1) pic5 (by omega) (by omega) ⟨f0, f1, f2, f3, f4, f5⟩ FR

set_option maxHeartbeats 4000000 in
set_option maxRecDepth 100000 in
theorem c_X0_seal (l : Launch) (D : va_G) (cA : Nat → ClassId) (base : Nat) (pic : PIC) (b aB r1 r2 r3 r4 r5 : Nat) (n : Nat) (kept fs : Int32) (rd fb : Int64) (ac t1 t2 t3 : Nat → Int32) (vl : Nat → Int64) (xs : Int32) (xr : Int64) (hB : BlkP pic cA b aB r1 r2 r3 r4 r5 (nI n) kept fs rd fb ac t1 t2 t3 vl) (hn : n ≤ 32)  : CV l yX0_seal cX0_seal 5 none { frames := 2, cells := 0, slots := 0, locals := 43 } 0 0 D cA base pic [.ref aB, .int xs, .long xr] (fun pic1 => BlkP pic1 cA b aB r1 r2 r3 r4 r5 (nI n) kept xs xr (fbF t1 t2 t3 n) ac t1 t2 t3 vl ∧ ∀ q, ¬ (b ≤ q ∧ q < b + 6) → pic1 q = pic q) := by
  refine ofV (by decide) (Nat.le_of_ble_eq_true rfl) ?_
  intro p e s m below meth c K hr hlk hnm
  have FR : ∀ q, ¬ (b ≤ q ∧ q < b + 6) → pic q = pic q := fun _ _ => rfl
  obtain ⟨f0, f1, f2, f3, f4, f5⟩ := hB
  refine v_aload_n K 0 dX0_seal_0 rfl rfl ?_
  refine v_iload_n K 1 dX0_seal_1 rfl rfl ?_
  refine pf_X0_36 K dX0_seal_2 f0 (Nat.le_of_ble_eq_true rfl) (fun pic3 g1 fr2 => ?_)
  replace f0 := g1
  replace f1 := (fr2 _ (by omega)).trans f1
  replace f2 := (fr2 _ (by omega)).trans f2
  replace f3 := (fr2 _ (by omega)).trans f3
  replace f4 := (fr2 _ (by omega)).trans f4
  replace f5 := (fr2 _ (by omega)).trans f5
  have FR : ∀ q, ¬ (b ≤ q ∧ q < b + 6) → pic3 q = pic q := fun q hq => (fr2 q (by omega)).trans (FR q hq)
  refine v_aload_n K 0 dX0_seal_5 rfl rfl ?_
  refine v_lload_n K 2 dX0_seal_6 rfl rfl ?_
  refine pf_X0_39 K dX0_seal_7 f0 (Nat.le_of_ble_eq_true rfl) (fun pic6 g4 fr5 => ?_)
  replace f0 := g4
  replace f1 := (fr5 _ (by omega)).trans f1
  replace f2 := (fr5 _ (by omega)).trans f2
  replace f3 := (fr5 _ (by omega)).trans f3
  replace f4 := (fr5 _ (by omega)).trans f4
  replace f5 := (fr5 _ (by omega)).trans f5
  have FR : ∀ q, ¬ (b ≤ q ∧ q < b + 6) → pic6 q = pic q := fun q hq => (fr5 q (by omega)).trans (FR q hq)
  refine v_aload_n K 0 dX0_seal_10 rfl rfl ?_
  refine v_lconst (v := 0) K dX0_seal_11 (by decide) ?_
  refine pf_X0_43 K dX0_seal_12 f0 (Nat.le_of_ble_eq_true rfl) (fun pic9 g7 fr8 => ?_)
  replace f0 := g7
  replace f1 := (fr8 _ (by omega)).trans f1
  replace f2 := (fr8 _ (by omega)).trans f2
  replace f3 := (fr8 _ (by omega)).trans f3
  replace f4 := (fr8 _ (by omega)).trans f4
  replace f5 := (fr8 _ (by omega)).trans f5
  have FR : ∀ q, ¬ (b ≤ q ∧ q < b + 6) → pic9 q = pic q := fun q hq => (fr8 q (by omega)).trans (FR q hq)
  refine v_iconst (v := nI 0) K dX0_seal_15 (by decide) ?_
  refine v_istore K dX0_seal_16 (by decide) ?_
  refine v_at [(0, .ref aB), (4, .int (nI (0)))] (lcons rfl (lcons rfl (lnil))) ?_
  refine l_X0_seal K b aB r1 r2 r3 r4 r5 n kept xs xr ac t1 t2 t3 vl hn pic (fun pic1 h1 h2 => ?_) (n - 0 + 1) 0 pic9 (by omega) (by omega) ⟨f0, f1, f2, f3, f4, f5⟩ FR
  exact v_vret K dX0_seal_48 hr hlk (by decide) (by decide) (⟨h1, h2⟩)

set_option maxHeartbeats 4000000 in
set_option maxRecDepth 100000 in
theorem c_X0_init (l : Launch) (D : va_G) (cA : Nat → ClassId) (base : Nat) (pic : PIC) (b aB : Nat) (f0 : pic b = some (aB, .inr (3, [.null, .null, .null, .null, .null, .int 0, .int 0, .int 0, .long 0, .long 0]))) (hz : ∀ k, 1 ≤ k → k < 6 → pic (b + k) = none)  : CV l yX0_init cX0_init 1 none { frames := 1, cells := 5, slots := 160, locals := 12 } 5 160 D cA base pic [.ref aB] (fun pic1 => (∃ r1 r2 r3 r4 r5, BlkP pic1 cA b aB r1 r2 r3 r4 r5 (nI 0) 1 0 0 0 (fun _ => 0) (fun _ => 0) (fun _ => 0) (fun _ => 0) (fun _ => 0)) ∧ ∀ q, ¬ (b ≤ q ∧ q < b + 6) → pic1 q = pic q) := by
  refine ofV (by decide) (Nat.le_of_ble_eq_true rfl) ?_
  intro p e s m below meth c K hr hlk hnm
  have FR : ∀ q, ¬ (b ≤ q ∧ q < b + 6) → pic q = pic q := fun _ _ => rfl
  have z1 := hz 1 (by omega) (by omega)
  have z2 := hz 2 (by omega) (by omega)
  have z3 := hz 3 (by omega) (by omega)
  have z4 := hz 4 (by omega) (by omega)
  have z5 := hz 5 (by omega) (by omega)
  refine v_aload_n K 0 dX0_init_0 rfl rfl ?_
  refine v_objInit K gw_52 gw_12 gw_13 dX0_init_1 (by decide) (Nat.le_of_ble_eq_true rfl) ?_
  refine v_aload_n K 0 dX0_init_4 rfl rfl ?_
  refine v_bipush (v := nI 32) K dX0_init_5 (by decide) ?_
  refine v_newI K (b + 1) gw_36 dX0_init_7 (z1) (by decide) (by decide) (by decide) (fun r1 pic1 f1 fr2 => ?_)
  replace f0 := (fr2 _ (by omega)).trans f0
  replace z2 := (fr2 _ (by omega)).trans z2
  replace z3 := (fr2 _ (by omega)).trans z3
  replace z4 := (fr2 _ (by omega)).trans z4
  replace z5 := (fr2 _ (by omega)).trans z5
  have FR : ∀ q, ¬ (b ≤ q ∧ q < b + 6) → pic1 q = pic q := fun q hq => (fr2 q (by omega)).trans (FR q hq)
  refine pf_X0_9 K hnm dX0_init_9 f0 (Nat.le_of_ble_eq_true rfl) (fun pic5 g3 fr4 => ?_)
  replace f0 := g3
  replace z2 := (fr4 _ (by omega)).trans z2
  replace z3 := (fr4 _ (by omega)).trans z3
  replace z4 := (fr4 _ (by omega)).trans z4
  replace z5 := (fr4 _ (by omega)).trans z5
  replace f1 := (fr4 _ (by omega)).trans f1
  have FR : ∀ q, ¬ (b ≤ q ∧ q < b + 6) → pic5 q = pic q := fun q hq => (fr4 q (by omega)).trans (FR q hq)
  refine v_aload_n K 0 dX0_init_12 rfl rfl ?_
  refine v_bipush (v := nI 32) K dX0_init_13 (by decide) ?_
  refine v_newI K (b + 2) gw_36 dX0_init_15 (z2) (by decide) (by decide) (by decide) (fun r2 pic6 f2 fr7 => ?_)
  replace f0 := (fr7 _ (by omega)).trans f0
  replace z3 := (fr7 _ (by omega)).trans z3
  replace z4 := (fr7 _ (by omega)).trans z4
  replace z5 := (fr7 _ (by omega)).trans z5
  replace f1 := (fr7 _ (by omega)).trans f1
  have FR : ∀ q, ¬ (b ≤ q ∧ q < b + 6) → pic6 q = pic q := fun q hq => (fr7 q (by omega)).trans (FR q hq)
  refine pf_X0_15 K hnm dX0_init_17 f0 (Nat.le_of_ble_eq_true rfl) (fun pic10 g8 fr9 => ?_)
  replace f0 := g8
  replace z3 := (fr9 _ (by omega)).trans z3
  replace z4 := (fr9 _ (by omega)).trans z4
  replace z5 := (fr9 _ (by omega)).trans z5
  replace f1 := (fr9 _ (by omega)).trans f1
  replace f2 := (fr9 _ (by omega)).trans f2
  have FR : ∀ q, ¬ (b ≤ q ∧ q < b + 6) → pic10 q = pic q := fun q hq => (fr9 q (by omega)).trans (FR q hq)
  refine v_aload_n K 0 dX0_init_20 rfl rfl ?_
  refine v_bipush (v := nI 32) K dX0_init_21 (by decide) ?_
  refine v_newI K (b + 3) gw_36 dX0_init_23 (z3) (by decide) (by decide) (by decide) (fun r3 pic11 f3 fr12 => ?_)
  replace f0 := (fr12 _ (by omega)).trans f0
  replace z4 := (fr12 _ (by omega)).trans z4
  replace z5 := (fr12 _ (by omega)).trans z5
  replace f1 := (fr12 _ (by omega)).trans f1
  replace f2 := (fr12 _ (by omega)).trans f2
  have FR : ∀ q, ¬ (b ≤ q ∧ q < b + 6) → pic11 q = pic q := fun q hq => (fr12 q (by omega)).trans (FR q hq)
  refine pf_X0_18 K hnm dX0_init_25 f0 (Nat.le_of_ble_eq_true rfl) (fun pic15 g13 fr14 => ?_)
  replace f0 := g13
  replace z4 := (fr14 _ (by omega)).trans z4
  replace z5 := (fr14 _ (by omega)).trans z5
  replace f1 := (fr14 _ (by omega)).trans f1
  replace f2 := (fr14 _ (by omega)).trans f2
  replace f3 := (fr14 _ (by omega)).trans f3
  have FR : ∀ q, ¬ (b ≤ q ∧ q < b + 6) → pic15 q = pic q := fun q hq => (fr14 q (by omega)).trans (FR q hq)
  refine v_aload_n K 0 dX0_init_28 rfl rfl ?_
  refine v_bipush (v := nI 32) K dX0_init_29 (by decide) ?_
  refine v_newI K (b + 4) gw_36 dX0_init_31 (z4) (by decide) (by decide) (by decide) (fun r4 pic16 f4 fr17 => ?_)
  replace f0 := (fr17 _ (by omega)).trans f0
  replace z5 := (fr17 _ (by omega)).trans z5
  replace f1 := (fr17 _ (by omega)).trans f1
  replace f2 := (fr17 _ (by omega)).trans f2
  replace f3 := (fr17 _ (by omega)).trans f3
  have FR : ∀ q, ¬ (b ≤ q ∧ q < b + 6) → pic16 q = pic q := fun q hq => (fr17 q (by omega)).trans (FR q hq)
  refine pf_X0_21 K hnm dX0_init_33 f0 (Nat.le_of_ble_eq_true rfl) (fun pic20 g18 fr19 => ?_)
  replace f0 := g18
  replace z5 := (fr19 _ (by omega)).trans z5
  replace f1 := (fr19 _ (by omega)).trans f1
  replace f2 := (fr19 _ (by omega)).trans f2
  replace f3 := (fr19 _ (by omega)).trans f3
  replace f4 := (fr19 _ (by omega)).trans f4
  have FR : ∀ q, ¬ (b ≤ q ∧ q < b + 6) → pic20 q = pic q := fun q hq => (fr19 q (by omega)).trans (FR q hq)
  refine v_aload_n K 0 dX0_init_36 rfl rfl ?_
  refine v_bipush (v := nI 32) K dX0_init_37 (by decide) ?_
  refine v_newL K (b + 5) gw_6 dX0_init_39 (z5) (by decide) (by decide) (by decide) (fun r5 pic21 f5 fr22 => ?_)
  replace f0 := (fr22 _ (by omega)).trans f0
  replace f1 := (fr22 _ (by omega)).trans f1
  replace f2 := (fr22 _ (by omega)).trans f2
  replace f3 := (fr22 _ (by omega)).trans f3
  replace f4 := (fr22 _ (by omega)).trans f4
  have FR : ∀ q, ¬ (b ≤ q ∧ q < b + 6) → pic21 q = pic q := fun q hq => (fr22 q (by omega)).trans (FR q hq)
  refine pf_X0_24 K hnm dX0_init_41 f0 (Nat.le_of_ble_eq_true rfl) (fun pic25 g23 fr24 => ?_)
  replace f0 := g23
  replace f1 := (fr24 _ (by omega)).trans f1
  replace f2 := (fr24 _ (by omega)).trans f2
  replace f3 := (fr24 _ (by omega)).trans f3
  replace f4 := (fr24 _ (by omega)).trans f4
  replace f5 := (fr24 _ (by omega)).trans f5
  have FR : ∀ q, ¬ (b ≤ q ∧ q < b + 6) → pic25 q = pic q := fun q hq => (fr24 q (by omega)).trans (FR q hq)
  refine v_aload_n K 0 dX0_init_44 rfl rfl ?_
  refine v_iconst (v := nI 1) K dX0_init_45 (by decide) ?_
  refine pf_X0_28 K dX0_init_46 f0 (by first | exact isB0 | exact isB1 | assumption) (Nat.le_of_ble_eq_true rfl) (fun pic28 g26 fr27 => ?_)
  replace f0 := g26
  replace f1 := (fr27 _ (by omega)).trans f1
  replace f2 := (fr27 _ (by omega)).trans f2
  replace f3 := (fr27 _ (by omega)).trans f3
  replace f4 := (fr27 _ (by omega)).trans f4
  replace f5 := (fr27 _ (by omega)).trans f5
  have FR : ∀ q, ¬ (b ≤ q ∧ q < b + 6) → pic28 q = pic q := fun q hq => (fr27 q (by omega)).trans (FR q hq)
  exact v_vret K dX0_init_49 hr hlk (by decide) (by decide) (⟨⟨r1, r2, r3, r4, r5, f0, f1, f2, f3, f4, f5⟩, FR⟩)
end
section
/-- the row of digests: how wide after k steps, which number after k steps, the one beside -/
def wF (n : Nat) : Nat → Nat
  | 0 => n
  | k + 1 => (wF n k + 1) / 2
def nF (i : Nat) : Nat → Nat
  | 0 => i
  | k + 1 => nF i k / 2
def besF (m : Nat) : Nat := if m % 2 = 0 then m + 1 else m - 1
def riseF (f : Nat → Int64) (w : Nat) : Nat → Int64 := fun i => if 2 * i + 1 < w then mixF (f (2 * i)) (f (2 * i + 1)) else f (2 * i)
def lvF (f : Nat → Int64) (n : Nat) : Nat → Nat → Int64
  | 0 => f
  | k + 1 => riseF (lvF f n k) (wF n k)
def rootF (f : Nat → Int64) (n : Nat) : Int64 := if n = 0 then 0 else lvF f n 5 0
def pdF (f : Nat → Int64) (n i : Nat) (dg : Nat → Int64) : Nat → (Nat → Int64) × Nat
  | 0 => (dg, 0)
  | k + 1 => if besF (nF i k) < wF n k then (vp_updL (pdF f n i dg k).1 (pdF f n i dg k).2 (lvF f n k (besF (nF i k))), (pdF f n i dg k).2 + 1) else pdF f n i dg k
def mixS (m : Nat) (d x : Int64) : Int64 := if m % 2 = 0 then mixF d x else mixF x d
def ldF (dg : Nat → Int64) (no : Nat) (lf : Int64) (n i : Nat) : Nat → Option (Int64 × Nat)
  | 0 => some (lf, 0)
  | k + 1 => match ldF dg no lf n i k with
    | none => none
    | some (d, t) => if besF (nF i k) < wF n k then (if t < no then some (mixS (nF i k) d (dg t), t + 1) else none) else some (d, t)
def ldOK (dg : Nat → Int64) (no : Nat) (lf : Int64) (n i : Nat) (root : Int64) : Prop := ldF dg no lf n i 5 = some (root, no)
def lfB (ac t1 t2 t3 : Nat → Int32) (vl : Nat → Int64) : Nat → Int64 := fun i => leafF (ac i) (t1 i) (t2 i) (t3 i) (vl i) (nI i)
theorem wF_le (n : Nat) : ∀ k, wF n k ≤ n
  | 0 => Nat.le_refl n
  | k + 1 => by have := wF_le n k; show (wF n k + 1) / 2 ≤ n; omega
theorem wF_0 {n : Nat} (h : 0 < n) : ∀ k, 0 < wF n k
  | 0 => h
  | k + 1 => by have := wF_0 h k; show 0 < (wF n k + 1) / 2; omega
theorem nF_le (i : Nat) : ∀ k, nF i k ≤ i
  | 0 => Nat.le_refl i
  | k + 1 => by have := nF_le i k; show nF i k / 2 ≤ i; omega
theorem nF_lt {n i : Nat} (h : i < n) : ∀ k, nF i k < wF n k
  | 0 => h
  | k + 1 => by have := nF_lt h k; show nF i k / 2 < (wF n k + 1) / 2; omega
theorem pdF_le (f : Nat → Int64) (n i : Nat) (dg : Nat → Int64) : ∀ k, (pdF f n i dg k).2 ≤ k
  | 0 => Nat.le_refl 0
  | k + 1 => by
    have := pdF_le f n i dg k
    unfold pdF
    by_cases h : besF (nF i k) < wF n k
    · rw [if_pos h]; show _ + 1 ≤ _; omega
    · rw [if_neg h]; omega
theorem xorB : ∀ m, m < 32 → nI m ^^^ nI 1 = nI (besF m) := by decide +kernel
theorem besF_le {m : Nat} (h : m < 32) : besF m < 32 := by unfold besF; split <;> omega
theorem rise_agree {f g : Nat → Int64} {w : Nat} (h : ∀ i, i < w → g i = f i) : ∀ i, i < (w + 1) / 2 → riseF g w i = riseF f w i := by
  intro i hi
  unfold riseF
  rw [h (2 * i) (by omega)]
  by_cases h1 : 2 * i + 1 < w
  · rw [if_pos h1, if_pos h1, h (2 * i + 1) h1]
  · rw [if_neg h1, if_neg h1]
theorem ldF_none {dg : Nat → Int64} {no : Nat} {lf : Int64} {n i k : Nat} (h : ldF dg no lf n i k = none) : ∀ j, ldF dg no lf n i (k + j) = none
  | 0 => h
  | j + 1 => by show ldF dg no lf n i ((k + j) + 1) = none; rw [ldF, ldF_none h j]
theorem lgc0 {x y : Int64} : (lg_cmp x y).toInt = 0 ↔ x = y := by
  unfold lg_cmp
  constructor
  · intro h
    by_cases h1 : y < x
    · rw [if_pos h1] at h; exact absurd h (by decide)
    · rw [if_neg h1] at h
      by_cases h2 : x = y
      · exact h2
      · rw [if_neg h2] at h; exact absurd h (by decide)
  · intro h
    subst h
    rw [if_neg (Int64.lt_irrefl), if_pos rfl]
    decide
def TreeP (pic : PIC) (cA : Nat → ClassId) (aT aR w : Nat) (g : Nat → Int64) : Prop := pic 7 = some (aT, .inr (7, [.ref aR, .int (nI w)])) ∧ pic 8 = some (aR, .inl (cA 1, 32, .inr (.inl g)))
def OutP (pic : PIC) (cA : Nat → ClassId) (aO aG no : Nat) (dg : Nat → Int64) : Prop := pic 9 = some (aO, .inr (5, [.ref aG, .int (nI no)])) ∧ pic 10 = some (aG, .inl (cA 1, 5, .inr (.inl dg)))
set_option maxHeartbeats 4000000 in
set_option maxRecDepth 100000 in
theorem c_X1_init (l : Launch) (D : va_G) (cA : Nat → ClassId) (base : Nat) (pic : PIC) (a0 : Nat) (f0 : pic 1 = some (a0, .inr (4, [.null, .null, .null, .null, .int 0]))) (z1 : pic 2 = none) (z2 : pic 3 = none) (z3 : pic 4 = none) (z4 : pic 5 = none)  : CV l yX1_init cX1_init 1 none { frames := 1, cells := 4, slots := 32, locals := 12 } 4 32 D cA base pic [.ref a0] (fun pic1 => (∃ r1 r2 r3 r4, CallsP pic1 cA a0 r1 r2 r3 r4 0 (fun _ => 0) (fun _ => 0) (fun _ => 0) (fun _ => 0)) ∧ ∀ q, ¬ (1 ≤ q ∧ q < 6) → pic1 q = pic q) := by
  refine ofV (by decide) (Nat.le_of_ble_eq_true rfl) ?_
  intro p e s m below meth c K hr hlk hnm
  have FR : ∀ q, ¬ (1 ≤ q ∧ q < 6) → pic q = pic q := fun _ _ => rfl
  refine v_aload_n K 0 dX1_init_0 rfl rfl ?_
  refine v_objInit K gw_35 gw_12 gw_13 dX1_init_1 (by decide) (Nat.le_of_ble_eq_true rfl) ?_
  refine v_aload_n K 0 dX1_init_4 rfl rfl ?_
  refine v_bipush (v := nI 8) K dX1_init_5 (by decide) ?_
  refine v_newI K (2) gw_36 dX1_init_7 (z1) (by decide) (by decide) (by decide) (fun r1 pic1 f1 fr2 => ?_)
  replace f0 := (fr2 _ (by omega)).trans f0
  replace z2 := (fr2 _ (by omega)).trans z2
  replace z3 := (fr2 _ (by omega)).trans z3
  replace z4 := (fr2 _ (by omega)).trans z4
  have FR : ∀ q, ¬ (1 ≤ q ∧ q < 6) → pic1 q = pic q := fun q hq => (fr2 q (by omega)).trans (FR q hq)
  refine pf_X1_9 K hnm dX1_init_9 f0 (Nat.le_of_ble_eq_true rfl) (fun pic5 g3 fr4 => ?_)
  replace f0 := g3
  replace z2 := (fr4 _ (by omega)).trans z2
  replace z3 := (fr4 _ (by omega)).trans z3
  replace z4 := (fr4 _ (by omega)).trans z4
  replace f1 := (fr4 _ (by omega)).trans f1
  have FR : ∀ q, ¬ (1 ≤ q ∧ q < 6) → pic5 q = pic q := fun q hq => (fr4 q (by omega)).trans (FR q hq)
  refine v_aload_n K 0 dX1_init_12 rfl rfl ?_
  refine v_bipush (v := nI 8) K dX1_init_13 (by decide) ?_
  refine v_newI K (3) gw_36 dX1_init_15 (z2) (by decide) (by decide) (by decide) (fun r2 pic6 f2 fr7 => ?_)
  replace f0 := (fr7 _ (by omega)).trans f0
  replace z3 := (fr7 _ (by omega)).trans z3
  replace z4 := (fr7 _ (by omega)).trans z4
  replace f1 := (fr7 _ (by omega)).trans f1
  have FR : ∀ q, ¬ (1 ≤ q ∧ q < 6) → pic6 q = pic q := fun q hq => (fr7 q (by omega)).trans (FR q hq)
  refine pf_X1_15 K hnm dX1_init_17 f0 (Nat.le_of_ble_eq_true rfl) (fun pic10 g8 fr9 => ?_)
  replace f0 := g8
  replace z3 := (fr9 _ (by omega)).trans z3
  replace z4 := (fr9 _ (by omega)).trans z4
  replace f1 := (fr9 _ (by omega)).trans f1
  replace f2 := (fr9 _ (by omega)).trans f2
  have FR : ∀ q, ¬ (1 ≤ q ∧ q < 6) → pic10 q = pic q := fun q hq => (fr9 q (by omega)).trans (FR q hq)
  refine v_aload_n K 0 dX1_init_20 rfl rfl ?_
  refine v_bipush (v := nI 8) K dX1_init_21 (by decide) ?_
  refine v_newI K (4) gw_36 dX1_init_23 (z3) (by decide) (by decide) (by decide) (fun r3 pic11 f3 fr12 => ?_)
  replace f0 := (fr12 _ (by omega)).trans f0
  replace z4 := (fr12 _ (by omega)).trans z4
  replace f1 := (fr12 _ (by omega)).trans f1
  replace f2 := (fr12 _ (by omega)).trans f2
  have FR : ∀ q, ¬ (1 ≤ q ∧ q < 6) → pic11 q = pic q := fun q hq => (fr12 q (by omega)).trans (FR q hq)
  refine pf_X1_18 K hnm dX1_init_25 f0 (Nat.le_of_ble_eq_true rfl) (fun pic15 g13 fr14 => ?_)
  replace f0 := g13
  replace z4 := (fr14 _ (by omega)).trans z4
  replace f1 := (fr14 _ (by omega)).trans f1
  replace f2 := (fr14 _ (by omega)).trans f2
  replace f3 := (fr14 _ (by omega)).trans f3
  have FR : ∀ q, ¬ (1 ≤ q ∧ q < 6) → pic15 q = pic q := fun q hq => (fr14 q (by omega)).trans (FR q hq)
  refine v_aload_n K 0 dX1_init_28 rfl rfl ?_
  refine v_bipush (v := nI 8) K dX1_init_29 (by decide) ?_
  refine v_newZ K (5) gw_40 dX1_init_31 (z4) (by decide) (by decide) (by decide) (fun r4 pic16 f4 fr17 => ?_)
  replace f0 := (fr17 _ (by omega)).trans f0
  replace f1 := (fr17 _ (by omega)).trans f1
  replace f2 := (fr17 _ (by omega)).trans f2
  replace f3 := (fr17 _ (by omega)).trans f3
  have FR : ∀ q, ¬ (1 ≤ q ∧ q < 6) → pic16 q = pic q := fun q hq => (fr17 q (by omega)).trans (FR q hq)
  refine pf_X1_21 K hnm dX1_init_33 f0 (Nat.le_of_ble_eq_true rfl) (fun pic20 g18 fr19 => ?_)
  replace f0 := g18
  replace f1 := (fr19 _ (by omega)).trans f1
  replace f2 := (fr19 _ (by omega)).trans f2
  replace f3 := (fr19 _ (by omega)).trans f3
  replace f4 := (fr19 _ (by omega)).trans f4
  have FR : ∀ q, ¬ (1 ≤ q ∧ q < 6) → pic20 q = pic q := fun q hq => (fr19 q (by omega)).trans (FR q hq)
  exact v_vret K dX1_init_36 hr hlk (by decide) (by decide) (⟨⟨r1, r2, r3, r4, f0, f1, f2, f3, f4⟩, FR⟩)

set_option maxHeartbeats 4000000 in
set_option maxRecDepth 100000 in
theorem c_X2_init (l : Launch) (D : va_G) (cA : Nat → ClassId) (base : Nat) (pic : PIC) (a0 : Nat) (f0 : pic 9 = some (a0, .inr (5, [.null, .int 0]))) (z1 : pic 10 = none)  : CV l yX2_init cX2_init 1 none { frames := 1, cells := 1, slots := 5, locals := 12 } 1 5 D cA base pic [.ref a0] (fun pic1 => (∃ r1, OutP pic1 cA a0 r1 0 (fun _ => 0)) ∧ ∀ q, ¬ (q = 9 ∨ q = 10) → pic1 q = pic q) := by
  refine ofV (by decide) (Nat.le_of_ble_eq_true rfl) ?_
  intro p e s m below meth c K hr hlk hnm
  have FR : ∀ q, ¬ (q = 9 ∨ q = 10) → pic q = pic q := fun _ _ => rfl
  refine v_aload_n K 0 dX2_init_0 rfl rfl ?_
  refine v_objInit K gw_48 gw_12 gw_13 dX2_init_1 (by decide) (Nat.le_of_ble_eq_true rfl) ?_
  refine v_aload_n K 0 dX2_init_4 rfl rfl ?_
  refine v_iconst (v := nI 5) K dX2_init_5 (by decide) ?_
  refine v_newL K (10) gw_6 dX2_init_6 (z1) (by decide) (by decide) (by decide) (fun r1 pic1 f1 fr2 => ?_)
  replace f0 := (fr2 _ (by omega)).trans f0
  have FR : ∀ q, ¬ (q = 9 ∨ q = 10) → pic1 q = pic q := fun q hq => (fr2 q (by omega)).trans (FR q hq)
  refine pf_X2_9 K hnm dX2_init_8 f0 (Nat.le_of_ble_eq_true rfl) (fun pic5 g3 fr4 => ?_)
  replace f0 := g3
  replace f1 := (fr4 _ (by omega)).trans f1
  have FR : ∀ q, ¬ (q = 9 ∨ q = 10) → pic5 q = pic q := fun q hq => (fr4 q (by omega)).trans (FR q hq)
  exact v_vret K dX2_init_11 hr hlk (by decide) (by decide) (⟨⟨r1, f0, f1⟩, FR⟩)

set_option maxHeartbeats 4000000 in
set_option maxRecDepth 100000 in
theorem c_X4_init (l : Launch) (D : va_G) (cA : Nat → ClassId) (base : Nat) (pic : PIC) (a0 : Nat) (f0 : pic 7 = some (a0, .inr (7, [.null, .int 0]))) (z1 : pic 8 = none)  : CV l yX4_init cX4_init 1 none { frames := 1, cells := 1, slots := 32, locals := 12 } 1 32 D cA base pic [.ref a0] (fun pic1 => (∃ r1, TreeP pic1 cA a0 r1 0 (fun _ => 0)) ∧ ∀ q, ¬ (q = 7 ∨ q = 8) → pic1 q = pic q) := by
  refine ofV (by decide) (Nat.le_of_ble_eq_true rfl) ?_
  intro p e s m below meth c K hr hlk hnm
  have FR : ∀ q, ¬ (q = 7 ∨ q = 8) → pic q = pic q := fun _ _ => rfl
  refine v_aload_n K 0 dX4_init_0 rfl rfl ?_
  refine v_objInit K gw_44 gw_12 gw_13 dX4_init_1 (by decide) (Nat.le_of_ble_eq_true rfl) ?_
  refine v_aload_n K 0 dX4_init_4 rfl rfl ?_
  refine v_bipush (v := nI 32) K dX4_init_5 (by decide) ?_
  refine v_newL K (8) gw_6 dX4_init_7 (z1) (by decide) (by decide) (by decide) (fun r1 pic1 f1 fr2 => ?_)
  replace f0 := (fr2 _ (by omega)).trans f0
  have FR : ∀ q, ¬ (q = 7 ∨ q = 8) → pic1 q = pic q := fun q hq => (fr2 q (by omega)).trans (FR q hq)
  refine pf_X4_9 K hnm dX4_init_9 f0 (Nat.le_of_ble_eq_true rfl) (fun pic5 g3 fr4 => ?_)
  replace f0 := g3
  replace f1 := (fr4 _ (by omega)).trans f1
  have FR : ∀ q, ¬ (q = 7 ∨ q = 8) → pic5 q = pic q := fun q hq => (fr4 q (by omega)).trans (FR q hq)
  exact v_vret K dX4_init_12 hr hlk (by decide) (by decide) (⟨⟨r1, f0, f1⟩, FR⟩)

abbrev sbE (tp bk nu : Int32) : va_E := .inr (6, [.int tp, .int bk, .int nu])
set_option maxHeartbeats 4000000 in
set_option maxRecDepth 100000 in
theorem c_X3_init (l : Launch) (D : va_G) (cA : Nat → ClassId) (base : Nat) (pic : PIC) (r a0 : Nat) (t b2 : Int32) (f0 : pic r = some (a0, sbE 0 0 0))  : CV l yX3_init cX3_init 3 none { frames := 1, cells := 0, slots := 0, locals := 12 } 0 0 D cA base pic [.ref a0, .int t, .int b2] (fun pic1 => pic1 r = some (a0, sbE t b2 0) ∧ ∀ q, ¬ (q = r) → pic1 q = pic q) := by
  refine ofV (by decide) (Nat.le_of_ble_eq_true rfl) ?_
  intro p e s m below meth c K hr hlk hnm
  have FR : ∀ q, ¬ (q = r) → pic q = pic q := fun _ _ => rfl
  refine v_aload_n K 0 dX3_init_0 rfl rfl ?_
  refine v_objInit K gw_498 gw_12 gw_13 dX3_init_1 (by decide) (Nat.le_of_ble_eq_true rfl) ?_
  refine v_aload_n K 0 dX3_init_4 rfl rfl ?_
  refine v_iload_n K 1 dX3_init_5 rfl rfl ?_
  refine pf_X3_7 K hnm dX3_init_6 f0 (Nat.le_of_ble_eq_true rfl) (fun pic3 g1 fr2 => ?_)
  replace f0 := g1
  have FR : ∀ q, ¬ (q = r) → pic3 q = pic q := fun q hq => (fr2 q (by omega)).trans (FR q hq)
  refine v_aload_n K 0 dX3_init_9 rfl rfl ?_
  refine v_iload_n K 2 dX3_init_10 rfl rfl ?_
  refine pf_X3_13 K dX3_init_11 f0 (Nat.le_of_ble_eq_true rfl) (fun pic6 g4 fr5 => ?_)
  replace f0 := g4
  have FR : ∀ q, ¬ (q = r) → pic6 q = pic q := fun q hq => (fr5 q (by omega)).trans (FR q hq)
  exact v_vret K dX3_init_14 hr hlk (by decide) (by decide) (⟨f0, FR⟩)

set_option maxHeartbeats 4000000 in
set_option maxRecDepth 100000 in
theorem c_X3_moveTo (l : Launch) (D : va_G) (cA : Nat → ClassId) (base : Nat) (pic : PIC) (r a0 : Nat) (t b1 n1 b2 n2 : Int32) (f0 : pic r = some (a0, sbE t b1 n1))  : CV l yX3_moveTo cX3_moveTo 3 none { frames := 0, cells := 0, slots := 0, locals := 0 } 0 0 D cA base pic [.ref a0, .int b2, .int n2] (fun pic1 => pic1 r = some (a0, sbE t b2 n2) ∧ ∀ q, ¬ (q = r) → pic1 q = pic q) := by
  refine ofV (by decide) (Nat.le_of_ble_eq_true rfl) ?_
  intro p e s m below meth c K hr hlk hnm
  have FR : ∀ q, ¬ (q = r) → pic q = pic q := fun _ _ => rfl
  refine v_aload_n K 0 dX3_moveTo_0 rfl rfl ?_
  refine v_iload_n K 1 dX3_moveTo_1 rfl rfl ?_
  refine pf_X3_13 K dX3_moveTo_2 f0 (Nat.le_of_ble_eq_true rfl) (fun pic3 g1 fr2 => ?_)
  replace f0 := g1
  have FR : ∀ q, ¬ (q = r) → pic3 q = pic q := fun q hq => (fr2 q (by omega)).trans (FR q hq)
  refine v_aload_n K 0 dX3_moveTo_5 rfl rfl ?_
  refine v_iload_n K 2 dX3_moveTo_6 rfl rfl ?_
  refine pf_X3_16 K dX3_moveTo_7 f0 (Nat.le_of_ble_eq_true rfl) (fun pic6 g4 fr5 => ?_)
  replace f0 := g4
  have FR : ∀ q, ¬ (q = r) → pic6 q = pic q := fun q hq => (fr5 q (by omega)).trans (FR q hq)
  exact v_vret K dX3_moveTo_10 hr hlk (by decide) (by decide) (⟨f0, FR⟩)

set_option maxHeartbeats 4000000 in
set_option maxRecDepth 100000 in
theorem c_X2_add (l : Launch) (D : va_G) (cA : Nat → ClassId) (base : Nat) (pic : PIC) (aO aG no : Nat) (dg : Nat → Int64) (x2 : Int64) (hO : OutP pic cA aO aG no dg) (hno : no ≤ 5)  : CI l yX2_add cX2_add 3 (some .boolean) { frames := 0, cells := 0, slots := 0, locals := 0 } 0 0 D cA base pic [.ref aO, .long x2] (fun x pic1 => (x = 1 ∧ no < 5 ∧ OutP pic1 cA aO aG (no + 1) (vp_updL dg no x2) ∧ ∀ q, ¬ (q = 9 ∨ q = 10) → pic1 q = pic q) ∨ (pic = pic1 ∧ x = 0 ∧ no = 5)) := by
  refine ofI (by decide) (Nat.le_of_ble_eq_true rfl) ?_
  intro p e s m below meth c K hr hlk hnm
  have FR : ∀ q, ¬ (q = 9 ∨ q = 10) → pic q = pic q := fun _ _ => rfl
  obtain ⟨f0, f1⟩ := hO
  refine v_aload_n K 0 dX2_add_0 rfl rfl ?_
  refine gf_X2_15 K dX2_add_1 f0 rfl ?_
  refine v_iconst (v := nI 5) K dX2_add_4 (by decide) ?_
  refine v_icmp_lt K 10 dX2_add_5 (by decide) (nI_toInt (by omega)) (nI_toInt (by omega)) (fun c5 => ?_) (fun c5 => ?_)
  · refine v_aload_n K 0 dX2_add_10 rfl rfl ?_
    refine gf_X2_9 K dX2_add_11 f0 rfl ?_
    refine v_aload_n K 0 dX2_add_14 rfl rfl ?_
    refine gf_X2_15 K dX2_add_15 f0 rfl ?_
    refine v_lload_n K 1 dX2_add_18 rfl rfl ?_
    refine v_last K dX2_add_19 f1 (by omega) (by decide) (fun pic3 g1 fr2 => ?_)
    replace f0 := (fr2 _ (by omega)).trans f0
    replace f1 := g1
    have FR : ∀ q, ¬ (q = 9 ∨ q = 10) → pic3 q = pic q := fun q hq => (fr2 q (by omega)).trans (FR q hq)
    refine v_aload_n K 0 dX2_add_20 rfl rfl ?_
    refine v_dup K dX2_add_21 rfl ?_
    refine gf_X2_15 K dX2_add_22 f0 rfl ?_
    refine v_iconst (v := nI 1) K dX2_add_25 (by decide) ?_
    refine v_iaddN K dX2_add_26 ?_
    refine pf_X2_15 K dX2_add_27 f0 (Nat.le_of_ble_eq_true rfl) (fun pic6 g4 fr5 => ?_)
    replace f0 := g4
    replace f1 := (fr5 _ (by omega)).trans f1
    have FR : ∀ q, ¬ (q = 9 ∨ q = 10) → pic6 q = pic q := fun q hq => (fr5 q (by omega)).trans (FR q hq)
    refine v_iconst (v := nI 1) K dX2_add_30 (by decide) ?_
    exact v_zret K dX2_add_31 hr (narB (by first | exact isB0 | exact isB1 | assumption)) hlk (by decide) (by decide) (by first | exact (Or.inl ⟨rfl, by omega, ⟨f0, f1⟩, FR⟩) | exact (Or.inr ⟨rfl, rfl, by omega⟩))
  · refine v_iconst (v := nI 0) K dX2_add_8 (by decide) ?_
    exact v_zret K dX2_add_9 hr (narB (by first | exact isB0 | exact isB1 | assumption)) hlk (by decide) (by decide) (by first | exact (Or.inl ⟨rfl, by omega, ⟨f0, f1⟩, FR⟩) | exact (Or.inr ⟨rfl, rfl, by omega⟩))

set_option maxHeartbeats 4000000 in
set_option maxRecDepth 100000 in
theorem l_X4_plant {p : Program} {l : Launch} {e : Env} {s : State} {m : MethodId} {args : Array Value} {below : List Frame} {meth : Method} {c : Code} {Q : State → Prop} {D : va_G} {cA : Nat → ClassId} {base : Nat} {cw : Cond} (K : KX p m c cX4_plant 3 s args cw RX4 D cA) (aT aR : Nat) (b aB r1 r2 r3 r4 r5 n : Nat) (kept fs : Int32) (rd fb : Int64) (ac t1 t2 t3 : Nat → Int32) (vl : Nat → Int64) (hb : 20 ≤ b) (hn : n ≤ 32) (pic0 : PIC) (kx : ∀ (pic1 : PIC) (g : Nat → Int64), TreeP pic1 cA aT aR n g → (∀ i, i < n → g i = (lfB ac t1 t2 t3 vl) i) → (∀ q, ¬ (q = 7 ∨ q = 8) → pic1 q = pic0 q) → V p l e { frames := 3, cells := 0, slots := 0, locals := 74 } s m args below meth c Q D base 3 pic1 (lvOf [(0, .ref aT)]) 35 [] 0 0) : ∀ (g i : Nat) (pic : PIC) (row : Nat → Int64), n - i < g → i ≤ n → TreeP pic cA aT aR n row → BlkP pic cA b aB r1 r2 r3 r4 r5 (nI n) kept fs rd fb ac t1 t2 t3 vl → (∀ j, j < i → row j = (lfB ac t1 t2 t3 vl) j) → (∀ q, ¬ (q = 7 ∨ q = 8) → pic q = pic0 q) → V p l e { frames := 3, cells := 0, slots := 0, locals := 74 } s m args below meth c Q D base 3 pic (lvOf [(0, .ref aT), (1, .ref aB), (2, .int (nI (i)))]) 10 [] 0 0 := by
  intro g
  induction g with
  | zero => intro i pic row h; omega
  | succ g ih =>
    intro i pic row hg hi hT hB hrow FR
    obtain ⟨e0, e1⟩ := hT
    obtain ⟨f0, f1, f2, f3, f4, f5⟩ := hB
    refine v_iload_n K 2 dX4_plant_10 rfl rfl ?_
    refine v_aload_n K 0 dX4_plant_11 rfl rfl ?_
    refine gf_X4_21 K dX4_plant_12 e0 rfl ?_
    refine v_icmp_ge K 35 dX4_plant_15 (by decide) (nI_toInt (by omega)) (nI_toInt (by omega)) (fun c15 => ?_) (fun c15 => ?_)
    · obtain rfl : i = n := by omega
      refine v_at [(0, .ref aT)] (lcons rfl (lnil)) ?_
      exact kx pic row ⟨e0, e1⟩ hrow FR
    · refine v_aload_n K 0 dX4_plant_18 rfl rfl ?_
      refine gf_X4_9 K dX4_plant_19 e0 rfl ?_
      refine v_iload_n K 2 dX4_plant_22 rfl rfl ?_
      refine v_aload_n K 1 dX4_plant_23 rfl rfl ?_
      refine v_iload_n K 2 dX4_plant_24 rfl rfl ?_
      refine cl_X4_24 K dX4_plant_25 f0 (c_X0_leaf l D cA base pic b aB r1 r2 r3 r4 r5 n kept fs rd fb ac t1 t2 t3 vl i ⟨f0, f1, f2, f3, f4, f5⟩ (by omega)) rfl rfl ⟨by decide, by decide⟩ (Nat.le_of_ble_eq_true rfl) ⟨by decide, by decide⟩ (fun x25 pic1 hx2 => ?_)
      obtain ⟨rfl, rfl⟩ := hx2
      refine v_last K dX4_plant_28 e1 (by omega) (by decide) (fun pic5 g3 fr4 => ?_)
      replace e0 := (fr4 _ (by omega)).trans e0
      replace e1 := g3
      replace f0 := (fr4 _ (by omega)).trans f0
      replace f1 := (fr4 _ (by omega)).trans f1
      replace f2 := (fr4 _ (by omega)).trans f2
      replace f3 := (fr4 _ (by omega)).trans f3
      replace f4 := (fr4 _ (by omega)).trans f4
      replace f5 := (fr4 _ (by omega)).trans f5
      have FR : ∀ q, ¬ (q = 7 ∨ q = 8) → pic5 q = pic0 q := fun q hq => (fr4 q (by omega)).trans (FR q hq)
      refine v_iincN K 1 dX4_plant_29 rfl (by decide) (by decide) ?_
      refine v_goto K 10 dX4_plant_32 (by decide) ?_
      refine v_at [(0, .ref aT), (1, .ref aB), (2, .int (nI (i + 1)))] (lcons rfl (lcons rfl (lcons rfl (lnil)))) ?_
      exact ih (i + 1) pic5 _ (by omega) (by omega) ⟨e0, e1⟩ ⟨f0, f1, f2, f3, f4, f5⟩ (fun j hj => by
        by_cases h : j = i
        · subst h; rw [pk_uLs]; rfl
        · rw [pk_uLn h]; exact hrow j (by omega)) FR

set_option maxHeartbeats 4000000 in
set_option maxRecDepth 100000 in
theorem c_X4_plant (l : Launch) (D : va_G) (cA : Nat → ClassId) (base : Nat) (pic : PIC) (aT aR w : Nat) (g0 : Nat → Int64) (b aB r1 r2 r3 r4 r5 n : Nat) (kept fs : Int32) (rd fb : Int64) (ac t1 t2 t3 : Nat → Int32) (vl : Nat → Int64) (hT : TreeP pic cA aT aR w g0) (hB : BlkP pic cA b aB r1 r2 r3 r4 r5 (nI n) kept fs rd fb ac t1 t2 t3 vl) (hb : 20 ≤ b) (hn : n ≤ 32)  : CV l yX4_plant cX4_plant 3 none { frames := 3, cells := 0, slots := 0, locals := 74 } 0 0 D cA base pic [.ref aT, .ref aB] (fun pic1 => (∃ g, TreeP pic1 cA aT aR n g ∧ ∀ i, i < n → g i = (lfB ac t1 t2 t3 vl) i) ∧ ∀ q, ¬ (q = 7 ∨ q = 8) → pic1 q = pic q) := by
  refine ofV (by decide) (Nat.le_of_ble_eq_true rfl) ?_
  intro p e s m below meth c K hr hlk hnm
  have FR : ∀ q, ¬ (q = 7 ∨ q = 8) → pic q = pic q := fun _ _ => rfl
  obtain ⟨e0, e1⟩ := hT
  obtain ⟨f0, f1, f2, f3, f4, f5⟩ := hB
  refine v_aload_n K 0 dX4_plant_0 rfl rfl ?_
  refine v_aload_n K 1 dX4_plant_1 rfl rfl ?_
  refine gf_X4_15 K dX4_plant_2 f0 rfl ?_
  refine pf_X4_21 K dX4_plant_5 e0 (Nat.le_of_ble_eq_true rfl) (fun pic3 g1 fr2 => ?_)
  replace e0 := g1
  replace e1 := (fr2 _ (by omega)).trans e1
  replace f0 := (fr2 _ (by omega)).trans f0
  replace f1 := (fr2 _ (by omega)).trans f1
  replace f2 := (fr2 _ (by omega)).trans f2
  replace f3 := (fr2 _ (by omega)).trans f3
  replace f4 := (fr2 _ (by omega)).trans f4
  replace f5 := (fr2 _ (by omega)).trans f5
  have FR : ∀ q, ¬ (q = 7 ∨ q = 8) → pic3 q = pic q := fun q hq => (fr2 q (by omega)).trans (FR q hq)
  refine v_iconst (v := nI 0) K dX4_plant_8 (by decide) ?_
  refine v_istore_n K 2 dX4_plant_9 rfl (by decide) ?_
  refine v_at [(0, .ref aT), (1, .ref aB), (2, .int (nI (0)))] (lcons rfl (lcons rfl (lcons rfl (lnil)))) ?_
  refine l_X4_plant K aT aR b aB r1 r2 r3 r4 r5 n kept fs rd fb ac t1 t2 t3 vl hb hn pic (fun pic1 g h1 h2 h3 => ?_) (n - 0 + 1) 0 pic3 _ (by omega) (by omega) ⟨e0, e1⟩ ⟨f0, f1, f2, f3, f4, f5⟩ (fun j hj => absurd hj (by omega)) FR
  exact v_vret K dX4_plant_35 hr hlk (by decide) (by decide) (⟨⟨g, h1, h2⟩, h3⟩)

set_option maxHeartbeats 4000000 in
set_option maxRecDepth 100000 in
theorem l_X4_rise {p : Program} {l : Launch} {e : Env} {s : State} {m : MethodId} {args : Array Value} {below : List Frame} {meth : Method} {c : Code} {Q : State → Prop} {D : va_G} {cA : Nat → ClassId} {base : Nat} {cw : Cond} (K : KX p m c cX4_rise 3 s args cw RX4 D cA) (aT aR w : Nat) (g0 : Nat → Int64) (hw : w ≤ 32) (pic0 : PIC) (kx : ∀ (pic1 : PIC) (g : Nat → Int64), TreeP pic1 cA aT aR w g → (∀ j, j < w / 2 → g j = mixF (g0 (2 * j)) (g0 (2 * j + 1))) → (∀ j, w / 2 ≤ j → g j = g0 j) → (∀ q, ¬ (q = 7 ∨ q = 8) → pic1 q = pic0 q) → V p l e { frames := 1, cells := 0, slots := 0, locals := 25 } s m args below meth c Q D base 3 pic1 (lvOf [(0, .ref aT), (1, .int (nI (w / 2)))]) 47 [] 0 0) : ∀ (g i : Nat) (pic : PIC) (row : Nat → Int64), w / 2 - i < g → i ≤ w / 2 → TreeP pic cA aT aR w row → (∀ j, j < i → row j = mixF (g0 (2 * j)) (g0 (2 * j + 1))) → (∀ j, i ≤ j → row j = g0 j) → (∀ q, ¬ (q = 7 ∨ q = 8) → pic q = pic0 q) → V p l e { frames := 1, cells := 0, slots := 0, locals := 25 } s m args below meth c Q D base 3 pic (lvOf [(0, .ref aT), (1, .int (nI (w / 2))), (2, .int (nI (i)))]) 9 [] 0 0 := by
  intro g
  induction g with
  | zero => intro i pic row h; omega
  | succ g ih =>
    intro i pic row hg hi hT hlo hhi FR
    obtain ⟨e0, e1⟩ := hT
    refine v_iload_n K 2 dX4_rise_9 rfl rfl ?_
    refine v_iload_n K 1 dX4_rise_10 rfl rfl ?_
    refine v_icmp_ge K 47 dX4_rise_11 (by decide) (nI_toInt (by omega)) (nI_toInt (by omega)) (fun c11 => ?_) (fun c11 => ?_)
    · obtain rfl : i = w / 2 := by omega
      refine v_at [(0, .ref aT), (1, .int (nI (w / 2)))] (lcons rfl (lcons rfl (lnil))) ?_
      exact kx pic row ⟨e0, e1⟩ hlo hhi FR
    · refine v_aload_n K 0 dX4_rise_14 rfl rfl ?_
      refine gf_X4_9 K dX4_rise_15 e0 rfl ?_
      refine v_iload_n K 2 dX4_rise_18 rfl rfl ?_
      refine v_aload_n K 0 dX4_rise_19 rfl rfl ?_
      refine gf_X4_9 K dX4_rise_20 e0 rfl ?_
      refine v_iconst (v := nI 2) K dX4_rise_23 (by decide) ?_
      refine v_iload_n K 2 dX4_rise_24 rfl rfl ?_
      refine v_imulN K dX4_rise_25 ?_
      refine v_lald K dX4_rise_26 e1 (by omega) (by decide) ?_
      refine v_aload_n K 0 dX4_rise_27 rfl rfl ?_
      refine gf_X4_9 K dX4_rise_28 e0 rfl ?_
      refine v_iconst (v := nI 2) K dX4_rise_31 (by decide) ?_
      refine v_iload_n K 2 dX4_rise_32 rfl rfl ?_
      refine v_imulN K dX4_rise_33 ?_
      refine v_iconst (v := nI 1) K dX4_rise_34 (by decide) ?_
      refine v_iaddN K dX4_rise_35 ?_
      refine v_lald K dX4_rise_36 e1 (by omega) (by decide) ?_
      refine cl_X4_28 K dX4_rise_37 (c_X5_mix l D cA base pic _ _) rfl rfl ⟨by decide, by decide⟩ (Nat.le_of_ble_eq_true rfl) ⟨by decide, by decide⟩ (fun x37 pic1 hx2 => ?_)
      obtain ⟨rfl, rfl⟩ := hx2
      refine v_last K dX4_rise_40 e1 (by omega) (by decide) (fun pic5 g3 fr4 => ?_)
      replace e0 := (fr4 _ (by omega)).trans e0
      replace e1 := g3
      have FR : ∀ q, ¬ (q = 7 ∨ q = 8) → pic5 q = pic0 q := fun q hq => (fr4 q (by omega)).trans (FR q hq)
      refine v_iincN K 1 dX4_rise_41 rfl (by decide) (by decide) ?_
      refine v_goto K 9 dX4_rise_44 (by decide) ?_
      refine v_at [(0, .ref aT), (1, .int (nI (w / 2))), (2, .int (nI (i + 1)))] (lcons rfl (lcons rfl (lcons rfl (lnil)))) ?_
      exact ih (i + 1) pic5 _ (by omega) (by omega) ⟨e0, e1⟩ (fun j hj => by
        by_cases h : j = i
        · subst h; rw [pk_uLs, hhi (2 * j) (by omega), hhi (2 * j + 1) (by omega)]
        · rw [pk_uLn h]; exact hlo j (by omega)) (fun j hj => by rw [pk_uLn (by omega)]; exact hhi j (by omega)) FR

set_option maxHeartbeats 4000000 in
set_option maxRecDepth 100000 in
theorem c_X4_rise (l : Launch) (D : va_G) (cA : Nat → ClassId) (base : Nat) (pic : PIC) (aT aR w : Nat) (g0 : Nat → Int64) (hT : TreeP pic cA aT aR w g0) (hw : w ≤ 32)  : CV l yX4_rise cX4_rise 3 none { frames := 1, cells := 0, slots := 0, locals := 25 } 0 0 D cA base pic [.ref aT] (fun pic1 => (∃ g, TreeP pic1 cA aT aR ((w + 1) / 2) g ∧ ∀ i, i < (w + 1) / 2 → g i = riseF g0 w i) ∧ ∀ q, ¬ (q = 7 ∨ q = 8) → pic1 q = pic q) := by
  refine ofV (by decide) (Nat.le_of_ble_eq_true rfl) ?_
  intro p e s m below meth c K hr hlk hnm
  have FR : ∀ q, ¬ (q = 7 ∨ q = 8) → pic q = pic q := fun _ _ => rfl
  obtain ⟨e0, e1⟩ := hT
  refine v_aload_n K 0 dX4_rise_0 rfl rfl ?_
  refine gf_X4_21 K dX4_rise_1 e0 rfl ?_
  refine v_iconst (v := nI 2) K dX4_rise_4 (by decide) ?_
  refine v_idivN K dX4_rise_5 (by omega) (by omega) (by omega) ?_
  refine v_istore_n K 1 dX4_rise_6 rfl (by decide) ?_
  refine v_iconst (v := nI 0) K dX4_rise_7 (by decide) ?_
  refine v_istore_n K 2 dX4_rise_8 rfl (by decide) ?_
  refine v_at [(0, .ref aT), (1, .int (nI (w / 2))), (2, .int (nI (0)))] (lcons rfl (lcons rfl (lcons rfl (lnil)))) ?_
  refine l_X4_rise K aT aR w g0 hw pic (fun pic1 g h1 h2 h3 h4 => ?_) (w / 2 - 0 + 1) 0 pic _ (by omega) (by omega) ⟨e0, e1⟩ (fun j hj => absurd hj (by omega)) (fun j hj => rfl) FR
  obtain ⟨e0, e1⟩ := h1
  replace FR := h4
  refine v_aload_n K 0 dX4_rise_47 rfl rfl ?_
  refine gf_X4_21 K dX4_rise_48 e0 rfl ?_
  refine v_iconst (v := nI 2) K dX4_rise_51 (by decide) ?_
  refine v_iremN K dX4_rise_52 (by omega) (by omega) (by omega) ?_
  refine v_iconst (v := nI 1) K dX4_rise_53 (by decide) ?_
  refine v_icmp_ne K 74 dX4_rise_54 (by decide) (nI_toInt (by omega)) (nI_toInt (by omega)) (fun c54 => ?_) (fun c54 => ?_)
  · refine v_aload_n K 0 dX4_rise_74 rfl rfl ?_
    refine v_iload_n K 1 dX4_rise_75 rfl rfl ?_
    refine v_aload_n K 0 dX4_rise_76 rfl rfl ?_
    refine gf_X4_21 K dX4_rise_77 e0 rfl ?_
    refine v_iconst (v := nI 2) K dX4_rise_80 (by decide) ?_
    refine v_iremN K dX4_rise_81 (by omega) (by omega) (by omega) ?_
    refine v_iaddN K dX4_rise_82 ?_
    refine pf_X4_21 K dX4_rise_83 e0 (Nat.le_of_ble_eq_true rfl) (fun pic3 g1 fr2 => ?_)
    replace e0 := g1
    replace e1 := (fr2 _ (by omega)).trans e1
    have FR : ∀ q, ¬ (q = 7 ∨ q = 8) → pic3 q = pic q := fun q hq => (fr2 q (by omega)).trans (FR q hq)
    exact v_vret K dX4_rise_86 hr hlk (by decide) (by decide) (⟨⟨_, ⟨by rw [show (w + 1) / 2 = w / 2 + w % 2 from by omega]; exact e0, e1⟩, fun i hi => by
      unfold riseF
      rw [if_pos (by omega)]; exact h2 i (by omega)⟩, FR⟩)
  · refine v_aload_n K 0 dX4_rise_57 rfl rfl ?_
    refine gf_X4_9 K dX4_rise_58 e0 rfl ?_
    refine v_iload_n K 1 dX4_rise_61 rfl rfl ?_
    refine v_aload_n K 0 dX4_rise_62 rfl rfl ?_
    refine gf_X4_9 K dX4_rise_63 e0 rfl ?_
    refine v_aload_n K 0 dX4_rise_66 rfl rfl ?_
    refine gf_X4_21 K dX4_rise_67 e0 rfl ?_
    refine v_iconst (v := nI 1) K dX4_rise_70 (by decide) ?_
    refine v_isubN K dX4_rise_71 (by omega) ?_
    refine v_lald K dX4_rise_72 e1 (by omega) (by decide) ?_
    refine v_last K dX4_rise_73 e1 (by omega) (by decide) (fun pic6 g4 fr5 => ?_)
    replace e0 := (fr5 _ (by omega)).trans e0
    replace e1 := g4
    have FR : ∀ q, ¬ (q = 7 ∨ q = 8) → pic6 q = pic q := fun q hq => (fr5 q (by omega)).trans (FR q hq)
    refine v_aload_n K 0 dX4_rise_74 rfl rfl ?_
    refine v_iload_n K 1 dX4_rise_75 rfl rfl ?_
    refine v_aload_n K 0 dX4_rise_76 rfl rfl ?_
    refine gf_X4_21 K dX4_rise_77 e0 rfl ?_
    refine v_iconst (v := nI 2) K dX4_rise_80 (by decide) ?_
    refine v_iremN K dX4_rise_81 (by omega) (by omega) (by omega) ?_
    refine v_iaddN K dX4_rise_82 ?_
    refine pf_X4_21 K dX4_rise_83 e0 (Nat.le_of_ble_eq_true rfl) (fun pic9 g7 fr8 => ?_)
    replace e0 := g7
    replace e1 := (fr8 _ (by omega)).trans e1
    have FR : ∀ q, ¬ (q = 7 ∨ q = 8) → pic9 q = pic q := fun q hq => (fr8 q (by omega)).trans (FR q hq)
    exact v_vret K dX4_rise_86 hr hlk (by decide) (by decide) (⟨⟨_, ⟨by rw [show (w + 1) / 2 = w / 2 + w % 2 from by omega]; exact e0, e1⟩, fun i hi => by
      unfold riseF
      by_cases hq : i = w / 2
      · subst hq
        rw [pk_uLs, if_neg (by omega), h3 _ (by omega)]
        exact congrArg g0 (by omega)
      · rw [pk_uLn hq, if_pos (by omega)]; exact h2 i (by omega)⟩, FR⟩)
end
section
theorem root_a {f g : Nat → Int64} {n : Nat} (hn : n ≤ 32) (hr : ∀ i, i < wF n 5 → g i = lvF f n 5 i) (h : (((wF n 4 + 1) / 2 : Nat) : Int) ≠ 0) : g 0 = rootF f n := by
  have e5 : (wF n 4 + 1) / 2 = wF n 5 := rfl
  rw [e5] at h
  rw [rootF, if_neg (fun h0 => h (by subst h0; rfl)), hr 0 (by omega)]
theorem root_b {f : Nat → Int64} {n : Nat} (hn : n ≤ 32) (h : (((wF n 4 + 1) / 2 : Nat) : Int) = 0) : (0 : Int64) = rootF f n := by
  have e5 : (wF n 4 + 1) / 2 = wF n 5 := rfl
  rw [e5] at h
  rw [rootF, if_pos]
  rcases Nat.eq_zero_or_pos n with h0 | h0
  · exact h0
  · have := wF_0 h0 5
    omega
theorem ld_out {dg : Nat → Int64} {no n i k tk : Nat} {lf d root : Int64} (hld : ldF dg no lf n i k = some (d, tk)) (hk : k < 5) (h1 : besF (nF i k) < wF n k) (h2 : ¬ tk < no) : ¬ ldOK dg no lf n i root := by
  intro h
  have hk1 : ldF dg no lf n i (k + 1) = none := by
    rw [ldF, hld]
    show (if _ then _ else _) = _
    rw [if_pos h1, if_neg h2]
  have h5 := ldF_none hk1 (4 - k)
  rw [show k + 1 + (4 - k) = 5 from by omega] at h5
  unfold ldOK at h
  rw [h5] at h
  cases h
theorem ld_ne {dg : Nat → Int64} {no n i k tk : Nat} {lf d root : Int64} (hld : ldF dg no lf n i k = some (d, tk)) (hk : k = 5) (h2 : ¬ tk = no) : ¬ ldOK dg no lf n i root := by
  intro h
  subst hk
  unfold ldOK at h
  rw [hld] at h
  exact h2 (Prod.mk.inj (Option.some.inj h)).2
theorem ld_nd {dg : Nat → Int64} {no n i k tk : Nat} {lf d root : Int64} (hld : ldF dg no lf n i k = some (d, tk)) (hk : k = 5) (h2 : ¬ d = root) : ¬ ldOK dg no lf n i root := by
  intro h
  subst hk
  unfold ldOK at h
  rw [hld] at h
  exact h2 (Prod.mk.inj (Option.some.inj h)).1
theorem ld_ok {dg : Nat → Int64} {no n i k tk : Nat} {lf d root : Int64} (hld : ldF dg no lf n i k = some (d, tk)) (hk : k = 5) (h1 : tk = no) (h2 : d = root) : ldOK dg no lf n i root := by
  subst hk; subst h1; subst h2
  exact hld
theorem wF5 {n : Nat} (hn : n ≤ 32) : wF n 5 ≤ 1 := by simp only [wF]; omega
theorem wF5z {n : Nat} (hn : n = 0) : wF n 5 = 0 := by subst hn; rfl
set_option maxHeartbeats 4000000 in
set_option maxRecDepth 100000 in
theorem c_X4_topOf (l : Launch) (D : va_G) (cA : Nat → ClassId) (base : Nat) (pic : PIC) (aT aR w : Nat) (g0 : Nat → Int64) (b aB r1 r2 r3 r4 r5 n : Nat) (kept fs : Int32) (rd fb : Int64) (ac t1 t2 t3 : Nat → Int32) (vl : Nat → Int64) (hT : TreeP pic cA aT aR w g0) (hB : BlkP pic cA b aB r1 r2 r3 r4 r5 (nI n) kept fs rd fb ac t1 t2 t3 vl) (hb : 20 ≤ b) (hn : n ≤ 32)  : CL l yX4_topOf cX4_topOf 3 (some .long) { frames := 4, cells := 0, slots := 0, locals := 96 } 0 0 D cA base pic [.ref aT, .ref aB] (fun x pic1 => x = rootF (lfB ac t1 t2 t3 vl) n ∧ (∃ w1 g, TreeP pic1 cA aT aR w1 g) ∧ ∀ q, ¬ (q = 7 ∨ q = 8) → pic1 q = pic q) := by
  refine ofL (by decide) (Nat.le_of_ble_eq_true rfl) ?_
  intro p e s m below meth c K hr hlk hnm
  have FR : ∀ q, ¬ (q = 7 ∨ q = 8) → pic q = pic q := fun _ _ => rfl
  obtain ⟨e0, e1⟩ := hT
  obtain ⟨f0, f1, f2, f3, f4, f5⟩ := hB
  have hw0 := wF_le n 0
  have hw1 := wF_le n 1
  have hw2 := wF_le n 2
  have hw3 := wF_le n 3
  have hw4 := wF_le n 4
  refine v_aload_n K 0 dX4_topOf_0 rfl rfl ?_
  refine v_aload_n K 1 dX4_topOf_1 rfl rfl ?_
  refine cl_X4_32 K dX4_topOf_2 e0 (c_X4_plant l D cA base pic aT aR w g0 b aB r1 r2 r3 r4 r5 n kept fs rd fb ac t1 t2 t3 vl ⟨e0, e1⟩ ⟨f0, f1, f2, f3, f4, f5⟩ hb hn) rfl rfl ⟨by decide, by decide⟩ (Nat.le_of_ble_eq_true rfl) ⟨by decide, by decide⟩ (fun pic1 hx2 => ?_)
  obtain ⟨⟨row0, ⟨k0, k1⟩, hrow0⟩, kf⟩ := hx2
  replace e0 := k0
  replace e1 := k1
  replace f0 := (kf _ (by omega)).trans f0
  replace f1 := (kf _ (by omega)).trans f1
  replace f2 := (kf _ (by omega)).trans f2
  replace f3 := (kf _ (by omega)).trans f3
  replace f4 := (kf _ (by omega)).trans f4
  replace f5 := (kf _ (by omega)).trans f5
  have FR : ∀ q, ¬ (q = 7 ∨ q = 8) → pic1 q = pic q := fun q hq => (kf q (by omega)).trans (FR q hq)
  refine v_iconst (v := nI 0) K dX4_topOf_5 (by decide) ?_
  refine v_istore_n K 2 dX4_topOf_6 rfl (by decide) ?_
  refine v_iload_n K 2 dX4_topOf_7 rfl rfl ?_
  refine v_iconst (v := nI 5) K dX4_topOf_8 (by decide) ?_
  refine v_icmp_ge K 22 dX4_topOf_9 (by decide) rfl rfl (fun c => absurd c (by decide)) (fun _ => ?_)
  refine v_aload_n K 0 dX4_topOf_12 rfl rfl ?_
  refine cl_X4_36 K dX4_topOf_13 e0 (c_X4_rise l D cA base pic1 aT aR (wF n 0) row0 ⟨e0, e1⟩ (Nat.le_trans (wF_le n 0) hn)) rfl rfl ⟨by decide, by decide⟩ (Nat.le_of_ble_eq_true rfl) ⟨by decide, by decide⟩ (fun pic3 hx4 => ?_)
  obtain ⟨⟨row1, ⟨k0, k1⟩, hk⟩, kf⟩ := hx4
  replace e0 := k0
  replace e1 := k1
  replace f0 := (kf _ (by omega)).trans f0
  replace f1 := (kf _ (by omega)).trans f1
  replace f2 := (kf _ (by omega)).trans f2
  replace f3 := (kf _ (by omega)).trans f3
  replace f4 := (kf _ (by omega)).trans f4
  replace f5 := (kf _ (by omega)).trans f5
  have FR : ∀ q, ¬ (q = 7 ∨ q = 8) → pic3 q = pic q := fun q hq => (kf q (by omega)).trans (FR q hq)
  have hrow1 : ∀ i, i < wF n 1 → row1 i = lvF (lfB ac t1 t2 t3 vl) n 1 i := fun i hi => (hk i hi).trans (rise_agree hrow0 i hi)
  refine v_iincN K 1 dX4_topOf_16 rfl (by decide) (by decide) ?_
  refine v_goto K 7 dX4_topOf_19 (by decide) ?_
  refine v_iload_n K 2 dX4_topOf_7 rfl rfl ?_
  refine v_iconst (v := nI 5) K dX4_topOf_8 (by decide) ?_
  refine v_icmp_ge K 22 dX4_topOf_9 (by decide) rfl rfl (fun c => absurd c (by decide)) (fun _ => ?_)
  refine v_aload_n K 0 dX4_topOf_12 rfl rfl ?_
  refine cl_X4_36 K dX4_topOf_13 e0 (c_X4_rise l D cA base pic3 aT aR (wF n 1) row1 ⟨e0, e1⟩ (Nat.le_trans (wF_le n 1) hn)) rfl rfl ⟨by decide, by decide⟩ (Nat.le_of_ble_eq_true rfl) ⟨by decide, by decide⟩ (fun pic5 hx6 => ?_)
  obtain ⟨⟨row2, ⟨k0, k1⟩, hk⟩, kf⟩ := hx6
  replace e0 := k0
  replace e1 := k1
  replace f0 := (kf _ (by omega)).trans f0
  replace f1 := (kf _ (by omega)).trans f1
  replace f2 := (kf _ (by omega)).trans f2
  replace f3 := (kf _ (by omega)).trans f3
  replace f4 := (kf _ (by omega)).trans f4
  replace f5 := (kf _ (by omega)).trans f5
  have FR : ∀ q, ¬ (q = 7 ∨ q = 8) → pic5 q = pic q := fun q hq => (kf q (by omega)).trans (FR q hq)
  have hrow2 : ∀ i, i < wF n 2 → row2 i = lvF (lfB ac t1 t2 t3 vl) n 2 i := fun i hi => (hk i hi).trans (rise_agree hrow1 i hi)
  refine v_iincN K 1 dX4_topOf_16 rfl (by decide) (by decide) ?_
  refine v_goto K 7 dX4_topOf_19 (by decide) ?_
  refine v_iload_n K 2 dX4_topOf_7 rfl rfl ?_
  refine v_iconst (v := nI 5) K dX4_topOf_8 (by decide) ?_
  refine v_icmp_ge K 22 dX4_topOf_9 (by decide) rfl rfl (fun c => absurd c (by decide)) (fun _ => ?_)
  refine v_aload_n K 0 dX4_topOf_12 rfl rfl ?_
  refine cl_X4_36 K dX4_topOf_13 e0 (c_X4_rise l D cA base pic5 aT aR (wF n 2) row2 ⟨e0, e1⟩ (Nat.le_trans (wF_le n 2) hn)) rfl rfl ⟨by decide, by decide⟩ (Nat.le_of_ble_eq_true rfl) ⟨by decide, by decide⟩ (fun pic7 hx8 => ?_)
  obtain ⟨⟨row3, ⟨k0, k1⟩, hk⟩, kf⟩ := hx8
  replace e0 := k0
  replace e1 := k1
  replace f0 := (kf _ (by omega)).trans f0
  replace f1 := (kf _ (by omega)).trans f1
  replace f2 := (kf _ (by omega)).trans f2
  replace f3 := (kf _ (by omega)).trans f3
  replace f4 := (kf _ (by omega)).trans f4
  replace f5 := (kf _ (by omega)).trans f5
  have FR : ∀ q, ¬ (q = 7 ∨ q = 8) → pic7 q = pic q := fun q hq => (kf q (by omega)).trans (FR q hq)
  have hrow3 : ∀ i, i < wF n 3 → row3 i = lvF (lfB ac t1 t2 t3 vl) n 3 i := fun i hi => (hk i hi).trans (rise_agree hrow2 i hi)
  refine v_iincN K 1 dX4_topOf_16 rfl (by decide) (by decide) ?_
  refine v_goto K 7 dX4_topOf_19 (by decide) ?_
  refine v_iload_n K 2 dX4_topOf_7 rfl rfl ?_
  refine v_iconst (v := nI 5) K dX4_topOf_8 (by decide) ?_
  refine v_icmp_ge K 22 dX4_topOf_9 (by decide) rfl rfl (fun c => absurd c (by decide)) (fun _ => ?_)
  refine v_aload_n K 0 dX4_topOf_12 rfl rfl ?_
  refine cl_X4_36 K dX4_topOf_13 e0 (c_X4_rise l D cA base pic7 aT aR (wF n 3) row3 ⟨e0, e1⟩ (Nat.le_trans (wF_le n 3) hn)) rfl rfl ⟨by decide, by decide⟩ (Nat.le_of_ble_eq_true rfl) ⟨by decide, by decide⟩ (fun pic9 hx10 => ?_)
  obtain ⟨⟨row4, ⟨k0, k1⟩, hk⟩, kf⟩ := hx10
  replace e0 := k0
  replace e1 := k1
  replace f0 := (kf _ (by omega)).trans f0
  replace f1 := (kf _ (by omega)).trans f1
  replace f2 := (kf _ (by omega)).trans f2
  replace f3 := (kf _ (by omega)).trans f3
  replace f4 := (kf _ (by omega)).trans f4
  replace f5 := (kf _ (by omega)).trans f5
  have FR : ∀ q, ¬ (q = 7 ∨ q = 8) → pic9 q = pic q := fun q hq => (kf q (by omega)).trans (FR q hq)
  have hrow4 : ∀ i, i < wF n 4 → row4 i = lvF (lfB ac t1 t2 t3 vl) n 4 i := fun i hi => (hk i hi).trans (rise_agree hrow3 i hi)
  refine v_iincN K 1 dX4_topOf_16 rfl (by decide) (by decide) ?_
  refine v_goto K 7 dX4_topOf_19 (by decide) ?_
  refine v_iload_n K 2 dX4_topOf_7 rfl rfl ?_
  refine v_iconst (v := nI 5) K dX4_topOf_8 (by decide) ?_
  refine v_icmp_ge K 22 dX4_topOf_9 (by decide) rfl rfl (fun c => absurd c (by decide)) (fun _ => ?_)
  refine v_aload_n K 0 dX4_topOf_12 rfl rfl ?_
  refine cl_X4_36 K dX4_topOf_13 e0 (c_X4_rise l D cA base pic9 aT aR (wF n 4) row4 ⟨e0, e1⟩ (Nat.le_trans (wF_le n 4) hn)) rfl rfl ⟨by decide, by decide⟩ (Nat.le_of_ble_eq_true rfl) ⟨by decide, by decide⟩ (fun pic11 hx12 => ?_)
  obtain ⟨⟨row5, ⟨k0, k1⟩, hk⟩, kf⟩ := hx12
  replace e0 := k0
  replace e1 := k1
  replace f0 := (kf _ (by omega)).trans f0
  replace f1 := (kf _ (by omega)).trans f1
  replace f2 := (kf _ (by omega)).trans f2
  replace f3 := (kf _ (by omega)).trans f3
  replace f4 := (kf _ (by omega)).trans f4
  replace f5 := (kf _ (by omega)).trans f5
  have FR : ∀ q, ¬ (q = 7 ∨ q = 8) → pic11 q = pic q := fun q hq => (kf q (by omega)).trans (FR q hq)
  have hrow5 : ∀ i, i < wF n 5 → row5 i = lvF (lfB ac t1 t2 t3 vl) n 5 i := fun i hi => (hk i hi).trans (rise_agree hrow4 i hi)
  refine v_iincN K 1 dX4_topOf_16 rfl (by decide) (by decide) ?_
  refine v_goto K 7 dX4_topOf_19 (by decide) ?_
  refine v_iload_n K 2 dX4_topOf_7 rfl rfl ?_
  refine v_iconst (v := nI 5) K dX4_topOf_8 (by decide) ?_
  refine v_icmp_ge K 22 dX4_topOf_9 (by decide) rfl rfl (fun _ => ?_) (fun c => absurd c (by decide))
  have hw5 := wF5 hn
  refine v_aload_n K 0 dX4_topOf_22 rfl rfl ?_
  refine gf_X4_21 K dX4_topOf_23 e0 rfl ?_
  refine v_if_ne K 33 dX4_topOf_26 (by decide) (nI_toInt (by omega)) (fun c26 => ?_) (fun c26 => ?_)
  · refine v_aload_n K 0 dX4_topOf_33 rfl rfl ?_
    refine gf_X4_9 K dX4_topOf_34 e0 rfl ?_
    refine v_iconst (v := nI 0) K dX4_topOf_37 (by decide) ?_
    refine v_lald K dX4_topOf_38 e1 (show (0 : Nat) < 32 by decide) (by decide) ?_
    exact v_lret K dX4_topOf_39 hr hlk (by decide) (by decide) (⟨root_a hn hrow5 c26, ⟨_, _, e0, e1⟩, FR⟩)
  · refine v_lconst (v := 0) K dX4_topOf_29 (by decide) ?_
    refine v_goto K 39 dX4_topOf_30 (by decide) ?_
    exact v_lret K dX4_topOf_39 hr hlk (by decide) (by decide) (⟨root_b hn c26, ⟨_, _, e0, e1⟩, FR⟩)

set_option maxHeartbeats 4000000 in
set_option maxRecDepth 100000 in
theorem l_X4_pathOf {p : Program} {l : Launch} {e : Env} {s : State} {m : MethodId} {args : Array Value} {below : List Frame} {meth : Method} {c : Code} {Q : State → Prop} {D : va_G} {cA : Nat → ClassId} {base : Nat} {cw : Cond} (K : KX p m c cX4_pathOf 7 s args cw RX4 D cA) (aT aR aO aG n i : Nat) (f dg : Nat → Int64) (hn : n ≤ 32) (hi : i < n) (pic0 : PIC) (kx : ∀ (pic1 : PIC), (∃ w g, TreeP pic1 cA aT aR w g) → OutP pic1 cA aO aG (pdF f n i dg 5).2 (pdF f n i dg 5).1 → (∀ q, ¬ (7 ≤ q ∧ q < 11) → pic1 q = pic0 q) → V p l e { frames := 4, cells := 0, slots := 0, locals := 96 } s m args below meth c Q D base 7 pic1 (lvOf [(0, .ref aT)]) 65 [] 0 0) : ∀ (g k : Nat) (pic : PIC) (row : Nat → Int64), 5 - k < g → k ≤ 5 → TreeP pic cA aT aR (wF n k) row → (∀ j, j < wF n k → row j = lvF f n k j) → OutP pic cA aO aG (pdF f n i dg k).2 (pdF f n i dg k).1 → (∀ q, ¬ (7 ≤ q ∧ q < 11) → pic q = pic0 q) → V p l e { frames := 4, cells := 0, slots := 0, locals := 96 } s m args below meth c Q D base 7 pic (lvOf [(0, .ref aT), (3, .ref aO), (4, .int (nI (nF i k))), (5, .int (nI (k)))]) 16 [] 0 0 := by
  intro g
  induction g with
  | zero => intro k pic row h; omega
  | succ g ih =>
    intro k pic row hg hk5 hT hrow hO FR
    obtain ⟨e0, e1⟩ := hT
    obtain ⟨o0, o1⟩ := hO
    have hw := wF_le n k
    have hnk := nF_le i k
    have hbes := besF_le (m := nF i k) (by omega)
    have hpd := pdF_le f n i dg k
    refine v_iload K dX4_pathOf_16 rfl ?_
    refine v_iconst (v := nI 5) K dX4_pathOf_18 (by decide) ?_
    refine v_icmp_ge K 65 dX4_pathOf_19 (by decide) (nI_toInt (by omega)) (nI_toInt (by omega)) (fun c19 => ?_) (fun c19 => ?_)
    · obtain rfl : k = 5 := by omega
      refine v_at [(0, .ref aT)] (lcons rfl (lnil)) ?_
      exact kx pic ⟨_, _, e0, e1⟩ ⟨o0, o1⟩ FR
    · refine v_iload K dX4_pathOf_22 rfl ?_
      refine v_iconst (v := nI 1) K dX4_pathOf_24 (by decide) ?_
      refine v_ixor K dX4_pathOf_25 ?_
      refine v_top (v := .int (nI (besF (nF i k)))) (by rw [xorB _ (by omega)]) ?_
      refine v_istore K dX4_pathOf_26 (by decide) ?_
      refine v_iload K dX4_pathOf_28 rfl ?_
      refine v_aload_n K 0 dX4_pathOf_30 rfl rfl ?_
      refine gf_X4_21 K dX4_pathOf_31 e0 rfl ?_
      refine v_icmp_ge K 49 dX4_pathOf_34 (by decide) (nI_toInt (by omega)) (nI_toInt (by omega)) (fun c34 => ?_) (fun c34 => ?_)
      · refine v_aload_n K 0 dX4_pathOf_49 rfl rfl ?_
        refine cl_X4_36 K dX4_pathOf_50 e0 (c_X4_rise l D cA base pic aT aR (wF n k) row ⟨e0, e1⟩ (Nat.le_trans (wF_le n k) hn)) rfl rfl ⟨by decide, by decide⟩ (Nat.le_of_ble_eq_true rfl) ⟨by decide, by decide⟩ (fun pic1 hx2 => ?_)
        obtain ⟨⟨row1, ⟨k0, k1⟩, hk⟩, kf⟩ := hx2
        replace e0 := k0
        replace e1 := k1
        replace o0 := (kf _ (by omega)).trans o0
        replace o1 := (kf _ (by omega)).trans o1
        have FR : ∀ q, ¬ (7 ≤ q ∧ q < 11) → pic1 q = pic0 q := fun q hq => (kf q (by omega)).trans (FR q hq)
        have hrow1 : ∀ j, j < wF n (k + 1) → row1 j = lvF f n (k + 1) j := fun j hj => (hk j hj).trans (rise_agree hrow j hj)
        refine v_iload K dX4_pathOf_53 rfl ?_
        refine v_iconst (v := nI 2) K dX4_pathOf_55 (by decide) ?_
        refine v_idivN K dX4_pathOf_56 (by omega) (by omega) (by omega) ?_
        refine v_istore K dX4_pathOf_57 (by decide) ?_
        refine v_iincN K 1 dX4_pathOf_59 rfl (by decide) (by decide) ?_
        refine v_goto K 16 dX4_pathOf_62 (by decide) ?_
        refine v_at [(0, .ref aT), (3, .ref aO), (4, .int (nI (nF i (k + 1)))), (5, .int (nI ((k + 1))))] (lcons rfl (lcons rfl (lcons rfl (lcons rfl (lnil))))) ?_
        exact ih (k + 1) pic1 row1 (by omega) (by omega) ⟨e0, e1⟩ hrow1 (by rw [pdF, if_neg (by omega)]; exact ⟨o0, o1⟩) FR
      · refine v_aload_n K 3 dX4_pathOf_37 rfl rfl ?_
        refine v_aload_n K 0 dX4_pathOf_38 rfl rfl ?_
        refine gf_X4_9 K dX4_pathOf_39 e0 rfl ?_
        refine v_iload K dX4_pathOf_42 rfl ?_
        refine v_lald K dX4_pathOf_44 e1 (by omega) (by decide) ?_
        refine v_top (v := .long (lvF f n k (besF (nF i k)))) (by rw [hrow _ (by omega)]) ?_
        refine cl_X4_42 K dX4_pathOf_45 o0 (c_X2_add l D cA base pic aO aG (pdF f n i dg k).2 (pdF f n i dg k).1 _ ⟨o0, o1⟩ (by omega)) rfl rfl ⟨by decide, by decide⟩ (Nat.le_of_ble_eq_true rfl) ⟨by decide, by decide⟩ (fun x45 pic3 hx4 => ?_)
        rcases hx4 with ⟨rfl, -, ⟨k0, k1⟩, kf⟩ | ⟨rfl, rfl, h5⟩
        · replace e0 := (kf _ (by omega)).trans e0
          replace e1 := (kf _ (by omega)).trans e1
          replace o0 := k0
          replace o1 := k1
          have FR : ∀ q, ¬ (7 ≤ q ∧ q < 11) → pic3 q = pic0 q := fun q hq => (kf q (by omega)).trans (FR q hq)
          refine v_pop K dX4_pathOf_48 rfl ?_
          refine v_aload_n K 0 dX4_pathOf_49 rfl rfl ?_
          refine cl_X4_36 K dX4_pathOf_50 e0 (c_X4_rise l D cA base pic3 aT aR (wF n k) row ⟨e0, e1⟩ (Nat.le_trans (wF_le n k) hn)) rfl rfl ⟨by decide, by decide⟩ (Nat.le_of_ble_eq_true rfl) ⟨by decide, by decide⟩ (fun pic5 hx6 => ?_)
          obtain ⟨⟨row1, ⟨k0, k1⟩, hk⟩, kf⟩ := hx6
          replace e0 := k0
          replace e1 := k1
          replace o0 := (kf _ (by omega)).trans o0
          replace o1 := (kf _ (by omega)).trans o1
          have FR : ∀ q, ¬ (7 ≤ q ∧ q < 11) → pic5 q = pic0 q := fun q hq => (kf q (by omega)).trans (FR q hq)
          have hrow1 : ∀ j, j < wF n (k + 1) → row1 j = lvF f n (k + 1) j := fun j hj => (hk j hj).trans (rise_agree hrow j hj)
          refine v_iload K dX4_pathOf_53 rfl ?_
          refine v_iconst (v := nI 2) K dX4_pathOf_55 (by decide) ?_
          refine v_idivN K dX4_pathOf_56 (by omega) (by omega) (by omega) ?_
          refine v_istore K dX4_pathOf_57 (by decide) ?_
          refine v_iincN K 1 dX4_pathOf_59 rfl (by decide) (by decide) ?_
          refine v_goto K 16 dX4_pathOf_62 (by decide) ?_
          refine v_at [(0, .ref aT), (3, .ref aO), (4, .int (nI (nF i (k + 1)))), (5, .int (nI ((k + 1))))] (lcons rfl (lcons rfl (lcons rfl (lcons rfl (lnil))))) ?_
          exact ih (k + 1) pic5 row1 (by omega) (by omega) ⟨e0, e1⟩ hrow1 (by rw [pdF, if_pos (by omega)]; exact ⟨o0, o1⟩) FR
        · exact absurd h5 (by omega)

set_option maxHeartbeats 4000000 in
set_option maxRecDepth 100000 in
theorem c_X4_pathOf (l : Launch) (D : va_G) (cA : Nat → ClassId) (base : Nat) (pic : PIC) (aT aR w : Nat) (g0 : Nat → Int64) (b aB r1 r2 r3 r4 r5 n : Nat) (kept fs : Int32) (rd fb : Int64) (ac t1 t2 t3 : Nat → Int32) (vl : Nat → Int64) (aO aG no i : Nat) (dg : Nat → Int64) (hT : TreeP pic cA aT aR w g0) (hB : BlkP pic cA b aB r1 r2 r3 r4 r5 (nI n) kept fs rd fb ac t1 t2 t3 vl) (hO : OutP pic cA aO aG no dg) (hb : 20 ≤ b) (hn : n ≤ 32) (hi : i < n)  : CV l yX4_pathOf cX4_pathOf 7 none { frames := 4, cells := 0, slots := 0, locals := 96 } 0 0 D cA base pic [.ref aT, .ref aB, .int (nI i), .ref aO] (fun pic1 => (∃ w1 g, TreeP pic1 cA aT aR w1 g) ∧ OutP pic1 cA aO aG (pdF (lfB ac t1 t2 t3 vl) n i dg 5).2 (pdF (lfB ac t1 t2 t3 vl) n i dg 5).1 ∧ ∀ q, ¬ (7 ≤ q ∧ q < 11) → pic1 q = pic q) := by
  refine ofV (by decide) (Nat.le_of_ble_eq_true rfl) ?_
  intro p e s m below meth c K hr hlk hnm
  have FR : ∀ q, ¬ (7 ≤ q ∧ q < 11) → pic q = pic q := fun _ _ => rfl
  obtain ⟨e0, e1⟩ := hT
  obtain ⟨f0, f1, f2, f3, f4, f5⟩ := hB
  obtain ⟨o0, o1⟩ := hO
  refine v_aload_n K 3 dX4_pathOf_0 rfl rfl ?_
  refine v_iconst (v := nI 0) K dX4_pathOf_1 (by decide) ?_
  refine pf_X4_39 K dX4_pathOf_2 o0 (Nat.le_of_ble_eq_true rfl) (fun pic3 g1 fr2 => ?_)
  replace e0 := (fr2 _ (by omega)).trans e0
  replace e1 := (fr2 _ (by omega)).trans e1
  replace f0 := (fr2 _ (by omega)).trans f0
  replace f1 := (fr2 _ (by omega)).trans f1
  replace f2 := (fr2 _ (by omega)).trans f2
  replace f3 := (fr2 _ (by omega)).trans f3
  replace f4 := (fr2 _ (by omega)).trans f4
  replace f5 := (fr2 _ (by omega)).trans f5
  replace o0 := g1
  replace o1 := (fr2 _ (by omega)).trans o1
  have FR : ∀ q, ¬ (7 ≤ q ∧ q < 11) → pic3 q = pic q := fun q hq => (fr2 q (by omega)).trans (FR q hq)
  refine v_aload_n K 0 dX4_pathOf_5 rfl rfl ?_
  refine v_aload_n K 1 dX4_pathOf_6 rfl rfl ?_
  refine cl_X4_32 K dX4_pathOf_7 e0 (c_X4_plant l D cA base pic3 aT aR w g0 b aB r1 r2 r3 r4 r5 n kept fs rd fb ac t1 t2 t3 vl ⟨e0, e1⟩ ⟨f0, f1, f2, f3, f4, f5⟩ hb hn) rfl rfl ⟨by decide, by decide⟩ (Nat.le_of_ble_eq_true rfl) ⟨by decide, by decide⟩ (fun pic4 hx5 => ?_)
  obtain ⟨⟨row0, ⟨k0, k1⟩, hrow0⟩, kf⟩ := hx5
  replace e0 := k0
  replace e1 := k1
  replace f0 := (kf _ (by omega)).trans f0
  replace f1 := (kf _ (by omega)).trans f1
  replace f2 := (kf _ (by omega)).trans f2
  replace f3 := (kf _ (by omega)).trans f3
  replace f4 := (kf _ (by omega)).trans f4
  replace f5 := (kf _ (by omega)).trans f5
  replace o0 := (kf _ (by omega)).trans o0
  replace o1 := (kf _ (by omega)).trans o1
  have FR : ∀ q, ¬ (7 ≤ q ∧ q < 11) → pic4 q = pic q := fun q hq => (kf q (by omega)).trans (FR q hq)
  refine v_iload_n K 2 dX4_pathOf_10 rfl rfl ?_
  refine v_istore K dX4_pathOf_11 (by decide) ?_
  refine v_iconst (v := nI 0) K dX4_pathOf_13 (by decide) ?_
  refine v_istore K dX4_pathOf_14 (by decide) ?_
  refine v_at [(0, .ref aT), (3, .ref aO), (4, .int (nI (nF i 0))), (5, .int (nI 0))] (lcons rfl (lcons rfl (lcons rfl (lcons rfl (lnil))))) ?_
  refine l_X4_pathOf K aT aR aO aG n i (lfB ac t1 t2 t3 vl) dg hn hi pic (fun pic1 h1 h2 h3 => ?_) 6 0 pic4 row0 (by omega) (by omega) ⟨e0, e1⟩ hrow0 ⟨o0, o1⟩ FR
  exact v_vret K dX4_pathOf_65 hr hlk (by decide) (by decide) (⟨h1, h2, h3⟩)

set_option maxHeartbeats 4000000 in
set_option maxRecDepth 100000 in
theorem l_X2_leadsTo {p : Program} {l : Launch} {e : Env} {s : State} {m : MethodId} {args : Array Value} {below : List Frame} {meth : Method} {c : Code} {Q : State → Prop} {D : va_G} {cA : Nat → ClassId} {base : Nat} {cw : Cond} (K : KX p m c cX2_leadsTo 15 s args cw RX2 D cA) (pic : PIC) (aO aG no n i : Nat) (dg : Nat → Int64) (root lf : Int64) (hO : OutP pic cA aO aG no dg) (hno : no ≤ 5) (hn : n ≤ 32) (hi : i < n) (kr : ∀ (x : Int32) (pc : Nat) (lv : LV), decode cX2_leadsTo pc = .ok (.ireturn, 1) → ((x = 1 ∧ ldOK dg no lf n i root) ∨ (x = 0 ∧ ¬ ldOK dg no lf n i root)) → V p l e { frames := 1, cells := 0, slots := 0, locals := 25 } s m args below meth c Q D base 15 pic lv pc [.int x] 0 0) : ∀ (g k tk : Nat) (d : Int64), 5 - k < g → k ≤ 5 → tk ≤ no → ldF dg no lf n i k = some (d, tk) → V p l e { frames := 1, cells := 0, slots := 0, locals := 25 } s m args below meth c Q D base 15 pic (lvOf [(0, .ref aO), (1, .long root), (7, .long (d)), (9, .int (nI (nF i k))), (10, .int (nI (wF n k))), (11, .int (nI (tk))), (12, .int (nI (k)))]) 17 [] 0 0 := by
  obtain ⟨o0, o1⟩ := hO
  intro g
  induction g with
  | zero => intro k tk d h; omega
  | succ g ih =>
    intro k tk d hg hk5 htk hld
    have hw := wF_le n k
    have hnk := nF_le i k
    have hbes := besF_le (m := nF i k) (by omega)
    refine v_iload K dX2_leadsTo_17 rfl ?_
    refine v_iconst (v := nI 5) K dX2_leadsTo_19 (by decide) ?_
    refine v_icmp_ge K 104 dX2_leadsTo_20 (by decide) (nI_toInt (by omega)) (nI_toInt (by omega)) (fun c20 => ?_) (fun c20 => ?_)
    · refine v_iload K dX2_leadsTo_104 rfl ?_
      refine v_aload_n K 0 dX2_leadsTo_106 rfl rfl ?_
      refine gf_X2_15 K dX2_leadsTo_107 o0 rfl ?_
      refine v_icmp_ne K 124 dX2_leadsTo_110 (by decide) (nI_toInt (by omega)) (nI_toInt (by omega)) (fun c110 => ?_) (fun c110 => ?_)
      · refine v_iconst (v := nI 0) K dX2_leadsTo_124 (by decide) ?_
        exact kr _ 125 _ dX2_leadsTo_125 (Or.inr ⟨rfl, ld_ne hld (by omega) (by omega)⟩)
      · refine v_lload K dX2_leadsTo_113 rfl ?_
        refine v_lload_n K 1 dX2_leadsTo_115 rfl rfl ?_
        refine v_lcmp K dX2_leadsTo_116 ?_
        refine v_if_ne K 124 dX2_leadsTo_117 (by decide) rfl (fun c117 => ?_) (fun c117 => ?_)
        · refine v_iconst (v := nI 0) K dX2_leadsTo_124 (by decide) ?_
          exact kr _ 125 _ dX2_leadsTo_125 (Or.inr ⟨rfl, ld_nd hld (by omega) (fun h => c117 (lgc0.mpr h))⟩)
        · refine v_iconst (v := nI 1) K dX2_leadsTo_120 (by decide) ?_
          refine v_goto K 125 dX2_leadsTo_121 (by decide) ?_
          exact kr _ 125 _ dX2_leadsTo_125 (Or.inl ⟨rfl, ld_ok hld (by omega) (by omega) (lgc0.mp c117)⟩)
    · refine v_iload K dX2_leadsTo_23 rfl ?_
      refine v_iconst (v := nI 1) K dX2_leadsTo_25 (by decide) ?_
      refine v_ixor K dX2_leadsTo_26 ?_
      refine v_top (v := .int (nI (besF (nF i k)))) (by rw [xorB _ (by omega)]) ?_
      refine v_iload K dX2_leadsTo_27 rfl ?_
      refine v_icmp_ge K 81 dX2_leadsTo_29 (by decide) (nI_toInt (by omega)) (nI_toInt (by omega)) (fun c29 => ?_) (fun c29 => ?_)
      · refine v_iload K dX2_leadsTo_81 rfl ?_
        refine v_iconst (v := nI 2) K dX2_leadsTo_83 (by decide) ?_
        refine v_idivN K dX2_leadsTo_84 (by omega) (by omega) (by omega) ?_
        refine v_istore K dX2_leadsTo_85 (by decide) ?_
        refine v_iload K dX2_leadsTo_87 rfl ?_
        refine v_iconst (v := nI 2) K dX2_leadsTo_89 (by decide) ?_
        refine v_idivN K dX2_leadsTo_90 (by omega) (by omega) (by omega) ?_
        refine v_iload K dX2_leadsTo_91 rfl ?_
        refine v_iconst (v := nI 2) K dX2_leadsTo_93 (by decide) ?_
        refine v_iremN K dX2_leadsTo_94 (by omega) (by omega) (by omega) ?_
        refine v_iaddN K dX2_leadsTo_95 ?_
        refine v_top (v := .int (nI (wF n (k + 1)))) (by rw [show wF n (k + 1) = wF n k / 2 + wF n k % 2 from by show (wF n k + 1) / 2 = _; omega]) ?_
        refine v_istore K dX2_leadsTo_96 (by decide) ?_
        refine v_iincN K 1 dX2_leadsTo_98 rfl (by decide) (by decide) ?_
        refine v_goto K 17 dX2_leadsTo_101 (by decide) ?_
        refine v_at [(0, .ref aO), (1, .long root), (7, .long (d)), (9, .int (nI (nF i (k + 1)))), (10, .int (nI (wF n (k + 1)))), (11, .int (nI (tk))), (12, .int (nI ((k + 1))))] (lcons rfl (lcons rfl (lcons rfl (lcons rfl (lcons rfl (lcons rfl (lcons rfl (lnil)))))))) ?_
        exact ih (k + 1) tk d (by omega) (by omega) htk (by rw [ldF, hld]; show (if _ then _ else _) = _; rw [if_neg (by omega)])
      · refine v_iload K dX2_leadsTo_32 rfl ?_
        refine v_aload_n K 0 dX2_leadsTo_34 rfl rfl ?_
        refine gf_X2_15 K dX2_leadsTo_35 o0 rfl ?_
        refine v_icmp_lt K 43 dX2_leadsTo_38 (by decide) (nI_toInt (by omega)) (nI_toInt (by omega)) (fun c38 => ?_) (fun c38 => ?_)
        · refine v_aload_n K 0 dX2_leadsTo_43 rfl rfl ?_
          refine gf_X2_9 K dX2_leadsTo_44 o0 rfl ?_
          refine v_iload K dX2_leadsTo_47 rfl ?_
          refine v_lald K dX2_leadsTo_49 o1 (by omega) (by decide) ?_
          refine v_lstore K dX2_leadsTo_50 (by decide) ?_
          refine v_iload K dX2_leadsTo_52 rfl ?_
          refine v_iconst (v := nI 2) K dX2_leadsTo_54 (by decide) ?_
          refine v_iremN K dX2_leadsTo_55 (by omega) (by omega) (by omega) ?_
          refine v_if_ne K 69 dX2_leadsTo_56 (by decide) (nI_toInt (by omega)) (fun c56 => ?_) (fun c56 => ?_)
          · refine v_lload K dX2_leadsTo_69 rfl ?_
            refine v_lload K dX2_leadsTo_71 rfl ?_
            refine cl_X2_19 K dX2_leadsTo_73 (c_X5_mix l D cA base pic _ _) rfl rfl ⟨by decide, by decide⟩ (Nat.le_of_ble_eq_true rfl) ⟨by decide, by decide⟩ (fun x73 pic1 hx2 => ?_)
            obtain ⟨rfl, rfl⟩ := hx2
            refine v_top (v := .long (mixS (nF i k) d (dg tk))) (by rw [mixS, if_neg (by omega)]) ?_
            refine v_lstore K dX2_leadsTo_76 (by decide) ?_
            refine v_iincN K 1 dX2_leadsTo_78 rfl (by decide) (by decide) ?_
            refine v_iload K dX2_leadsTo_81 rfl ?_
            refine v_iconst (v := nI 2) K dX2_leadsTo_83 (by decide) ?_
            refine v_idivN K dX2_leadsTo_84 (by omega) (by omega) (by omega) ?_
            refine v_istore K dX2_leadsTo_85 (by decide) ?_
            refine v_iload K dX2_leadsTo_87 rfl ?_
            refine v_iconst (v := nI 2) K dX2_leadsTo_89 (by decide) ?_
            refine v_idivN K dX2_leadsTo_90 (by omega) (by omega) (by omega) ?_
            refine v_iload K dX2_leadsTo_91 rfl ?_
            refine v_iconst (v := nI 2) K dX2_leadsTo_93 (by decide) ?_
            refine v_iremN K dX2_leadsTo_94 (by omega) (by omega) (by omega) ?_
            refine v_iaddN K dX2_leadsTo_95 ?_
            refine v_top (v := .int (nI (wF n (k + 1)))) (by rw [show wF n (k + 1) = wF n k / 2 + wF n k % 2 from by show (wF n k + 1) / 2 = _; omega]) ?_
            refine v_istore K dX2_leadsTo_96 (by decide) ?_
            refine v_iincN K 1 dX2_leadsTo_98 rfl (by decide) (by decide) ?_
            refine v_goto K 17 dX2_leadsTo_101 (by decide) ?_
            refine v_at [(0, .ref aO), (1, .long root), (7, .long (mixS (nF i k) d (dg tk))), (9, .int (nI (nF i (k + 1)))), (10, .int (nI (wF n (k + 1)))), (11, .int (nI (tk + 1))), (12, .int (nI ((k + 1))))] (lcons rfl (lcons rfl (lcons rfl (lcons rfl (lcons rfl (lcons rfl (lcons rfl (lnil)))))))) ?_
            exact ih (k + 1) (tk + 1) (mixS (nF i k) d (dg tk)) (by omega) (by omega) (by omega) (by rw [ldF, hld]; show (if _ then _ else _) = _; rw [if_pos (by omega), if_pos (by omega)])
          · refine v_lload K dX2_leadsTo_59 rfl ?_
            refine v_lload K dX2_leadsTo_61 rfl ?_
            refine cl_X2_19 K dX2_leadsTo_63 (c_X5_mix l D cA base pic _ _) rfl rfl ⟨by decide, by decide⟩ (Nat.le_of_ble_eq_true rfl) ⟨by decide, by decide⟩ (fun x63 pic3 hx4 => ?_)
            obtain ⟨rfl, rfl⟩ := hx4
            refine v_goto K 76 dX2_leadsTo_66 (by decide) ?_
            refine v_top (v := .long (mixS (nF i k) d (dg tk))) (by rw [mixS, if_pos (by omega)]) ?_
            refine v_lstore K dX2_leadsTo_76 (by decide) ?_
            refine v_iincN K 1 dX2_leadsTo_78 rfl (by decide) (by decide) ?_
            refine v_iload K dX2_leadsTo_81 rfl ?_
            refine v_iconst (v := nI 2) K dX2_leadsTo_83 (by decide) ?_
            refine v_idivN K dX2_leadsTo_84 (by omega) (by omega) (by omega) ?_
            refine v_istore K dX2_leadsTo_85 (by decide) ?_
            refine v_iload K dX2_leadsTo_87 rfl ?_
            refine v_iconst (v := nI 2) K dX2_leadsTo_89 (by decide) ?_
            refine v_idivN K dX2_leadsTo_90 (by omega) (by omega) (by omega) ?_
            refine v_iload K dX2_leadsTo_91 rfl ?_
            refine v_iconst (v := nI 2) K dX2_leadsTo_93 (by decide) ?_
            refine v_iremN K dX2_leadsTo_94 (by omega) (by omega) (by omega) ?_
            refine v_iaddN K dX2_leadsTo_95 ?_
            refine v_top (v := .int (nI (wF n (k + 1)))) (by rw [show wF n (k + 1) = wF n k / 2 + wF n k % 2 from by show (wF n k + 1) / 2 = _; omega]) ?_
            refine v_istore K dX2_leadsTo_96 (by decide) ?_
            refine v_iincN K 1 dX2_leadsTo_98 rfl (by decide) (by decide) ?_
            refine v_goto K 17 dX2_leadsTo_101 (by decide) ?_
            refine v_at [(0, .ref aO), (1, .long root), (7, .long (mixS (nF i k) d (dg tk))), (9, .int (nI (nF i (k + 1)))), (10, .int (nI (wF n (k + 1)))), (11, .int (nI (tk + 1))), (12, .int (nI ((k + 1))))] (lcons rfl (lcons rfl (lcons rfl (lcons rfl (lcons rfl (lcons rfl (lcons rfl (lnil)))))))) ?_
            exact ih (k + 1) (tk + 1) (mixS (nF i k) d (dg tk)) (by omega) (by omega) (by omega) (by rw [ldF, hld]; show (if _ then _ else _) = _; rw [if_pos (by omega), if_pos (by omega)])
        · refine v_iconst (v := nI 0) K dX2_leadsTo_41 (by decide) ?_
          exact kr _ 42 _ dX2_leadsTo_42 (Or.inr ⟨rfl, ld_out hld (by omega) (by omega) (by omega)⟩)

set_option maxHeartbeats 4000000 in
set_option maxRecDepth 100000 in
theorem c_X2_leadsTo (l : Launch) (D : va_G) (cA : Nat → ClassId) (base : Nat) (pic : PIC) (aO aG no n i : Nat) (dg : Nat → Int64) (root lf : Int64) (hO : OutP pic cA aO aG no dg) (hno : no ≤ 5) (hn : n ≤ 32) (hi : i < n)  : CI l yX2_leadsTo cX2_leadsTo 15 (some .boolean) { frames := 1, cells := 0, slots := 0, locals := 25 } 0 0 D cA base pic [.ref aO, .long root, .long lf, .int (nI i), .int (nI n)] (fun x pic1 => (pic = pic1 ∧ x = 1 ∧ ldOK dg no lf n i root) ∨ (pic = pic1 ∧ x = 0 ∧ ¬ ldOK dg no lf n i root)) := by
  refine ofI (by decide) (Nat.le_of_ble_eq_true rfl) ?_
  intro p e s m below meth c K hr hlk hnm
  obtain ⟨o0, o1⟩ := hO
  refine v_lload_n K 3 dX2_leadsTo_0 rfl rfl ?_
  refine v_lstore K dX2_leadsTo_1 (by decide) ?_
  refine v_iload K dX2_leadsTo_3 rfl ?_
  refine v_istore K dX2_leadsTo_5 (by decide) ?_
  refine v_iload K dX2_leadsTo_7 rfl ?_
  refine v_istore K dX2_leadsTo_9 (by decide) ?_
  refine v_iconst (v := nI 0) K dX2_leadsTo_11 (by decide) ?_
  refine v_istore K dX2_leadsTo_12 (by decide) ?_
  refine v_iconst (v := nI 0) K dX2_leadsTo_14 (by decide) ?_
  refine v_istore K dX2_leadsTo_15 (by decide) ?_
  refine v_at [(0, .ref aO), (1, .long root), (7, .long lf), (9, .int (nI (nF i 0))), (10, .int (nI (wF n 0))), (11, .int (nI 0)), (12, .int (nI 0))] (lcons rfl (lcons rfl (lcons rfl (lcons rfl (lcons rfl (lcons rfl (lcons rfl (lnil)))))))) ?_
  exact l_X2_leadsTo K pic aO aG no n i dg root lf ⟨o0, o1⟩ hno hn hi (fun x pc lv d h => v_zret K d hr (narB (h.elim (fun h => Or.inr h.1) (fun h => Or.inl h.1))) hlk (by decide) (by decide) (h.elim (fun h => Or.inl ⟨rfl, h⟩) (fun h => Or.inr ⟨rfl, h⟩))) 6 0 0 lf (by omega) (by omega) (by omega) rfl
end
