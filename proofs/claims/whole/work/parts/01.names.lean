-- ===== PART A: goes FIRST, ahead of the names: the tables' words, and 'selects' of the private methods out of them =====
/-- a private method of a class that the tables say can be made, by its rows of tables_1 -/
def lw_okq (q : MethodName × Nat) : Prop := (q.1.cls ≠ "java/lang/invoke/MethodHandle" ∧ q.1.cls ≠ "java/lang/invoke/VarHandle") ∧ Cond.instantiable q.1.cls q.2 ∈ tables_1 ∧ Cond.privateMethod q.1 ∈ tables_1 ∧ Cond.instanceMethod q.1 ∈ tables_1
theorem lw_p0 : lw_okq (⟨"EventRows", "failInnermost", "()I"⟩, 9) := ⟨⟨by decide +kernel, by decide +kernel⟩, List.mem_of_getElem? (i := 17) (by decide +kernel), List.mem_of_getElem? (i := 167) (by decide +kernel), List.mem_of_getElem? (i := 168) (by decide +kernel)⟩
theorem lw_p1 : lw_okq (⟨"EventRows$Tree", "plant", "(LEventRows$Block;)V"⟩, 2) := ⟨⟨by decide +kernel, by decide +kernel⟩, List.mem_of_getElem? (i := 52) (by decide +kernel), List.mem_of_getElem? (i := 228) (by decide +kernel), List.mem_of_getElem? (i := 229) (by decide +kernel)⟩
theorem lw_p2 : lw_okq (⟨"EventRows$Tree", "rise", "()V"⟩, 2) := ⟨⟨by decide +kernel, by decide +kernel⟩, List.mem_of_getElem? (i := 52) (by decide +kernel), List.mem_of_getElem? (i := 245) (by decide +kernel), List.mem_of_getElem? (i := 246) (by decide +kernel)⟩
theorem lw_p3 : lw_okq (⟨"EventRows$Block", "topicBits", "(I)J"⟩, 10) := ⟨⟨by decide +kernel, by decide +kernel⟩, List.mem_of_getElem? (i := 83) (by decide +kernel), List.mem_of_getElem? (i := 254) (by decide +kernel), List.mem_of_getElem? (i := 255) (by decide +kernel)⟩
theorem lw_p4 : lw_okq (⟨"EventRows", "keptEventsFrom", "(I)I"⟩, 9) := ⟨⟨by decide +kernel, by decide +kernel⟩, List.mem_of_getElem? (i := 17) (by decide +kernel), List.mem_of_getElem? (i := 269) (by decide +kernel), List.mem_of_getElem? (i := 270) (by decide +kernel)⟩
theorem lw_p5 : lw_okq (⟨"EventRows", "blockAt", "(I)LEventRows$Block;"⟩, 9) := ⟨⟨by decide +kernel, by decide +kernel⟩, List.mem_of_getElem? (i := 17) (by decide +kernel), List.mem_of_getElem? (i := 273) (by decide +kernel), List.mem_of_getElem? (i := 274) (by decide +kernel)⟩
theorem lw_p6 : lw_okq (⟨"EventRows", "moveSubscribersBack", "()V"⟩, 9) := ⟨⟨by decide +kernel, by decide +kernel⟩, List.mem_of_getElem? (i := 17) (by decide +kernel), List.mem_of_getElem? (i := 277) (by decide +kernel), List.mem_of_getElem? (i := 278) (by decide +kernel)⟩
theorem lw_p7 : lw_okq (⟨"EventRows", "subscriberAt", "(I)LEventRows$Subscriber;"⟩, 9) := ⟨⟨by decide +kernel, by decide +kernel⟩, List.mem_of_getElem? (i := 17) (by decide +kernel), List.mem_of_getElem? (i := 281) (by decide +kernel), List.mem_of_getElem? (i := 282) (by decide +kernel)⟩
theorem lw_p8 : lw_okq (⟨"EventRows$Block", "hasTopic", "(II)Z"⟩, 10) := ⟨⟨by decide +kernel, by decide +kernel⟩, List.mem_of_getElem? (i := 83) (by decide +kernel), List.mem_of_getElem? (i := 326) (by decide +kernel), List.mem_of_getElem? (i := 327) (by decide +kernel)⟩
theorem lw_p9 : lw_okq (⟨"EventRows", "firstKeptWith", "(III)I"⟩, 9) := ⟨⟨by decide +kernel, by decide +kernel⟩, List.mem_of_getElem? (i := 17) (by decide +kernel), List.mem_of_getElem? (i := 387) (by decide +kernel), List.mem_of_getElem? (i := 388) (by decide +kernel)⟩
theorem lw_p10 : lw_okq (⟨"java/lang/NullPointerException", "getExtendedNPEMessage", "()Ljava/lang/String;"⟩, 8) := ⟨⟨by decide +kernel, by decide +kernel⟩, List.mem_of_getElem? (i := 398) (by decide +kernel), List.mem_of_getElem? (i := 423) (by decide +kernel), List.mem_of_getElem? (i := 424) (by decide +kernel)⟩
theorem lw_p11 : lw_okq (⟨"java/lang/Throwable", "fillInStackTrace", "(I)Ljava/lang/Throwable;"⟩, 6) := ⟨⟨by decide +kernel, by decide +kernel⟩, List.mem_of_getElem? (i := 433) (by decide +kernel), List.mem_of_getElem? (i := 431) (by decide +kernel), List.mem_of_getElem? (i := 432) (by decide +kernel)⟩
theorem lw_p12 : lw_okq (⟨"EventRows", "neededBlock", "(I)LEventRows$Block;"⟩, 9) := ⟨⟨by decide +kernel, by decide +kernel⟩, List.mem_of_getElem? (i := 17) (by decide +kernel), List.mem_of_getElem? (i := 513) (by decide +kernel), List.mem_of_getElem? (i := 514) (by decide +kernel)⟩
theorem lw_p13 : lw_okq (⟨"EventRowsModel", "left", "()I"⟩, 24) := ⟨⟨by decide +kernel, by decide +kernel⟩, List.mem_of_getElem? (i := 549) (by decide +kernel), List.mem_of_getElem? (i := 640) (by decide +kernel), List.mem_of_getElem? (i := 641) (by decide +kernel)⟩
theorem lw_p14 : lw_okq (⟨"EventRowsModel", "fails", "()I"⟩, 24) := ⟨⟨by decide +kernel, by decide +kernel⟩, List.mem_of_getElem? (i := 549) (by decide +kernel), List.mem_of_getElem? (i := 644) (by decide +kernel), List.mem_of_getElem? (i := 645) (by decide +kernel)⟩
theorem lw_p15 : lw_okq (⟨"EventRowsModel", "over", "()V"⟩, 24) := ⟨⟨by decide +kernel, by decide +kernel⟩, List.mem_of_getElem? (i := 549) (by decide +kernel), List.mem_of_getElem? (i := 648) (by decide +kernel), List.mem_of_getElem? (i := 649) (by decide +kernel)⟩
def lw_privs_1 : List (MethodName × Nat) := [(⟨"EventRows", "failInnermost", "()I"⟩, 9), (⟨"EventRows$Tree", "plant", "(LEventRows$Block;)V"⟩, 2), (⟨"EventRows$Tree", "rise", "()V"⟩, 2), (⟨"EventRows$Block", "topicBits", "(I)J"⟩, 10), (⟨"EventRows", "keptEventsFrom", "(I)I"⟩, 9), (⟨"EventRows", "blockAt", "(I)LEventRows$Block;"⟩, 9), (⟨"EventRows", "moveSubscribersBack", "()V"⟩, 9), (⟨"EventRows", "subscriberAt", "(I)LEventRows$Subscriber;"⟩, 9), (⟨"EventRows$Block", "hasTopic", "(II)Z"⟩, 10), (⟨"EventRows", "firstKeptWith", "(III)I"⟩, 9), (⟨"java/lang/NullPointerException", "getExtendedNPEMessage", "()Ljava/lang/String;"⟩, 8), (⟨"java/lang/Throwable", "fillInStackTrace", "(I)Ljava/lang/Throwable;"⟩, 6), (⟨"EventRows", "neededBlock", "(I)LEventRows$Block;"⟩, 9), (⟨"EventRowsModel", "left", "()I"⟩, 24), (⟨"EventRowsModel", "fails", "()I"⟩, 24), (⟨"EventRowsModel", "over", "()V"⟩, 24)]
theorem lw_r1 : ∀ q ∈ lw_privs_1, lw_okq q := List.forall_mem_cons.mpr ⟨lw_p0, List.forall_mem_cons.mpr ⟨lw_p1, List.forall_mem_cons.mpr ⟨lw_p2, List.forall_mem_cons.mpr ⟨lw_p3, List.forall_mem_cons.mpr ⟨lw_p4, List.forall_mem_cons.mpr ⟨lw_p5, List.forall_mem_cons.mpr ⟨lw_p6, List.forall_mem_cons.mpr ⟨lw_p7, List.forall_mem_cons.mpr ⟨lw_p8, List.forall_mem_cons.mpr ⟨lw_p9, List.forall_mem_cons.mpr ⟨lw_p10, List.forall_mem_cons.mpr ⟨lw_p11, List.forall_mem_cons.mpr ⟨lw_p12, List.forall_mem_cons.mpr ⟨lw_p13, List.forall_mem_cons.mpr ⟨lw_p14, List.forall_mem_cons.mpr ⟨lw_p15, fun _ h => absurd h List.not_mem_nil⟩⟩⟩⟩⟩⟩⟩⟩⟩⟩⟩⟩⟩⟩⟩⟩
theorem lw_p16 : lw_okq (⟨"EventRowsModel", "leaves", "(I)V"⟩, 24) := ⟨⟨by decide +kernel, by decide +kernel⟩, List.mem_of_getElem? (i := 549) (by decide +kernel), List.mem_of_getElem? (i := 677) (by decide +kernel), List.mem_of_getElem? (i := 678) (by decide +kernel)⟩
theorem lw_p17 : lw_okq (⟨"EventRowsModel", "rises", "(I)I"⟩, 24) := ⟨⟨by decide +kernel, by decide +kernel⟩, List.mem_of_getElem? (i := 549) (by decide +kernel), List.mem_of_getElem? (i := 690) (by decide +kernel), List.mem_of_getElem? (i := 691) (by decide +kernel)⟩
theorem lw_p18 : lw_okq (⟨"EventRowsModel", "isBlock", "(I)Z"⟩, 24) := ⟨⟨by decide +kernel, by decide +kernel⟩, List.mem_of_getElem? (i := 549) (by decide +kernel), List.mem_of_getElem? (i := 702) (by decide +kernel), List.mem_of_getElem? (i := 703) (by decide +kernel)⟩
theorem lw_p19 : lw_okq (⟨"EventRowsModel", "topicMany", "(I)I"⟩, 24) := ⟨⟨by decide +kernel, by decide +kernel⟩, List.mem_of_getElem? (i := 549) (by decide +kernel), List.mem_of_getElem? (i := 715) (by decide +kernel), List.mem_of_getElem? (i := 716) (by decide +kernel)⟩
theorem lw_p20 : lw_okq (⟨"EventRowsModel", "has", "(II)Z"⟩, 24) := ⟨⟨by decide +kernel, by decide +kernel⟩, List.mem_of_getElem? (i := 549) (by decide +kernel), List.mem_of_getElem? (i := 739) (by decide +kernel), List.mem_of_getElem? (i := 740) (by decide +kernel)⟩
def lw_privs_2 : List (MethodName × Nat) := [(⟨"EventRowsModel", "leaves", "(I)V"⟩, 24), (⟨"EventRowsModel", "rises", "(I)I"⟩, 24), (⟨"EventRowsModel", "isBlock", "(I)Z"⟩, 24), (⟨"EventRowsModel", "topicMany", "(I)I"⟩, 24), (⟨"EventRowsModel", "has", "(II)Z"⟩, 24)]
theorem lw_r2 : ∀ q ∈ lw_privs_2, lw_okq q := List.forall_mem_cons.mpr ⟨lw_p16, List.forall_mem_cons.mpr ⟨lw_p17, List.forall_mem_cons.mpr ⟨lw_p18, List.forall_mem_cons.mpr ⟨lw_p19, List.forall_mem_cons.mpr ⟨lw_p20, fun _ h => absurd h List.not_mem_nil⟩⟩⟩⟩⟩
def lw_privs : List (MethodName × Nat) := lw_privs_1 ++ (lw_privs_2)
def lw_tbl : List Cond := k2_sels lw_privs ++ tables_1
theorem lw_privs_ok : ∀ q ∈ lw_privs, lw_okq q := by
  show ∀ q ∈ lw_privs_1 ++ (lw_privs_2), lw_okq q
  exact List.forall_mem_append.mpr ⟨lw_r1, lw_r2⟩

/-! ===== BEGIN words of one list among another's, by their places ===== -/
theorem goodIn_r {big : List Cond} (ws : List Cond) (ps : List Nat) (hp : ws = ps.filterMap (fun i => big[i]?)) (h : ws.all goodWord = true) : GoodIn big ws := by
  intro w hw
  have h1 := List.all_eq_true.mp h w hw
  rw [hp] at hw
  obtain ⟨i, -, hi⟩ := List.mem_filterMap.mp hw
  have hm : w ∈ big := by first | exact List.mem_of_getElem? hi | exact List.getElem?_mem hi
  exact ⟨hm, good_of_word h1⟩
theorem goodIn_app {big a b : List Cond} (ha : GoodIn big a) (hb : GoodIn big b) : GoodIn big (a ++ b) := fun w h => (List.mem_append.mp h).elim (ha w) (hb w)
theorem goodIn_ca {big a b : List Cond} {c : Cond} (ha : GoodIn big (c :: a)) (hb : GoodIn big b) : GoodIn big (c :: (a ++ b)) := fun w h => (List.mem_cons.mp h).elim (fun e => ha w (List.mem_cons.mpr (Or.inl e))) (fun h => (List.mem_append.mp h).elim (fun h => ha w (List.mem_cons.mpr (Or.inr h))) (hb w))
theorem goodIn_sub {big ws : List Cond} (hm : ∀ w ∈ ws, w ∈ big) (h : ws.all goodWord = true) : GoodIn big ws := fun w hw => ⟨hm w hw, good_of_word (List.all_eq_true.mp h w hw)⟩
/-! ===== END ===== -/
def RX0 : String := "EventRows$Block"
def TX0 : u_T := fun k => match k with
  | 0 => ("EventRows$Block", "accounts", "[I", true)
  | 1 => ("EventRows$Block", "firstTopics", "[I", true)
  | 2 => ("EventRows$Block", "secondTopics", "[I", true)
  | 3 => ("EventRows$Block", "thirdTopics", "[I", true)
  | 4 => ("EventRows$Block", "values", "[J", true)
  | 5 => ("EventRows$Block", "count", "I", false)
  | 6 => ("EventRows$Block", "kept", "Z", false)
  | 7 => ("EventRows$Block", "firstSerial", "I", false)
  | 8 => ("EventRows$Block", "rootDigest", "J", false)
  | _ => ("EventRows$Block", "filterBits", "J", false)
def tyX0 : Nat → FieldType := fun k => match k with
  | 0 => .array .int
  | 1 => .array .int
  | 2 => .array .int
  | 3 => .array .int
  | 4 => .array .long
  | 5 => .int
  | 6 => .boolean
  | 7 => .int
  | 8 => .long
  | _ => .long
abbrev wsX00 : List Cond := u_ws RX0 TX0 10
theorem nmX0 : ∀ a, a < 10 → ∀ b, b < 10 → a ≠ b → (TX0 a).2.1 ≠ (TX0 b).2.1 := by decide +kernel
theorem tyX0_ok : ∀ k, k < 10 → parseFieldDescriptor (TX0 k).2.2.1 = some (tyX0 k) := by decide +kernel
abbrev cX0_init : ByteArray := prog_2_method_1_code
def yX0_init : MethodName := ⟨RX0, "<init>", "()V"⟩
abbrev cX0_add : ByteArray := prog_2_method_2_code
def yX0_add : MethodName := ⟨RX0, "add", "(IIIIJ)V"⟩
abbrev cX0_clear : ByteArray := prog_2_method_3_code
def yX0_clear : MethodName := ⟨RX0, "clear", "()V"⟩
abbrev cX0_seal : ByteArray := prog_2_method_4_code
def yX0_seal : MethodName := ⟨RX0, "seal", "(IJ)V"⟩
abbrev cX0_topicBits : ByteArray := prog_2_method_5_code
def yX0_topicBits : MethodName := ⟨RX0, "topicBits", "(I)J"⟩
abbrev cX0_hasEvent : ByteArray := prog_2_method_6_code
def yX0_hasEvent : MethodName := ⟨RX0, "hasEvent", "(I)Z"⟩
abbrev cX0_detail : ByteArray := prog_2_method_7_code
def yX0_detail : MethodName := ⟨RX0, "detail", "(II)I"⟩
abbrev cX0_topicOrNone : ByteArray := prog_2_method_8_code
def yX0_topicOrNone : MethodName := ⟨RX0, "topicOrNone", "(I)I"⟩
abbrev cX0_firstWith : ByteArray := prog_2_method_9_code
def yX0_firstWith : MethodName := ⟨RX0, "firstWith", "(II)I"⟩
abbrev cX0_hasTopic : ByteArray := prog_2_method_10_code
def yX0_hasTopic : MethodName := ⟨RX0, "hasTopic", "(II)Z"⟩
abbrev cX0_leaf : ByteArray := prog_2_method_11_code
def yX0_leaf : MethodName := ⟨RX0, "leaf", "(I)J"⟩
def RX1 : String := "EventRows$Calls"
def TX1 : u_T := fun k => match k with
  | 0 => ("EventRows$Calls", "limits", "[I", true)
  | 1 => ("EventRows$Calls", "used", "[I", true)
  | 2 => ("EventRows$Calls", "eventsBefore", "[I", true)
  | 3 => ("EventRows$Calls", "caught", "[Z", true)
  | _ => ("EventRows$Calls", "depth", "I", false)
def tyX1 : Nat → FieldType := fun k => match k with
  | 0 => .array .int
  | 1 => .array .int
  | 2 => .array .int
  | 3 => .array .boolean
  | _ => .int
abbrev wsX10 : List Cond := u_ws RX1 TX1 5
theorem nmX1 : ∀ a, a < 5 → ∀ b, b < 5 → a ≠ b → (TX1 a).2.1 ≠ (TX1 b).2.1 := by decide +kernel
theorem tyX1_ok : ∀ k, k < 5 → parseFieldDescriptor (TX1 k).2.2.1 = some (tyX1 k) := by decide +kernel
abbrev cX1_init : ByteArray := prog_3_method_1_code
def yX1_init : MethodName := ⟨RX1, "<init>", "()V"⟩
abbrev cX1_usedOfInnermost : ByteArray := prog_3_method_2_code
def yX1_usedOfInnermost : MethodName := ⟨RX1, "usedOfInnermost", "()I"⟩
abbrev cX1_leftOfInnermost : ByteArray := prog_3_method_3_code
def yX1_leftOfInnermost : MethodName := ⟨RX1, "leftOfInnermost", "()I"⟩
abbrev cX1_pay : ByteArray := prog_3_method_4_code
def yX1_pay : MethodName := ⟨RX1, "pay", "(I)Z"⟩
abbrev cX1_push : ByteArray := prog_3_method_5_code
def yX1_push : MethodName := ⟨RX1, "push", "(IZI)V"⟩
abbrev cX1_pop : ByteArray := prog_3_method_6_code
def yX1_pop : MethodName := ⟨RX1, "pop", "()I"⟩
abbrev cX1_fail : ByteArray := prog_3_method_7_code
def yX1_fail : MethodName := ⟨RX1, "fail", "(LEventRows$Block;)I"⟩
def RX2 : String := "EventRows$Out"
def TX2 : u_T := fun k => match k with
  | 0 => ("EventRows$Out", "digests", "[J", true)
  | _ => ("EventRows$Out", "count", "I", false)
def tyX2 : Nat → FieldType := fun k => match k with
  | 0 => .array .long
  | _ => .int
abbrev wsX20 : List Cond := u_ws RX2 TX2 2
theorem nmX2 : ∀ a, a < 2 → ∀ b, b < 2 → a ≠ b → (TX2 a).2.1 ≠ (TX2 b).2.1 := by decide +kernel
theorem tyX2_ok : ∀ k, k < 2 → parseFieldDescriptor (TX2 k).2.2.1 = some (tyX2 k) := by decide +kernel
abbrev cX2_init : ByteArray := prog_4_method_1_code
def yX2_init : MethodName := ⟨RX2, "<init>", "()V"⟩
abbrev cX2_add : ByteArray := prog_4_method_2_code
def yX2_add : MethodName := ⟨RX2, "add", "(J)Z"⟩
abbrev cX2_leadsTo : ByteArray := prog_4_method_3_code
def yX2_leadsTo : MethodName := ⟨RX2, "leadsTo", "(JJII)Z"⟩
def RX3 : String := "EventRows$Subscriber"
def TX3 : u_T := fun k => match k with
  | 0 => ("EventRows$Subscriber", "topic", "I", true)
  | 1 => ("EventRows$Subscriber", "block", "I", false)
  | _ => ("EventRows$Subscriber", "number", "I", false)
def tyX3 : Nat → FieldType := fun k => match k with
  | 0 => .int
  | 1 => .int
  | _ => .int
abbrev wsX30 : List Cond := u_ws RX3 TX3 3
theorem nmX3 : ∀ a, a < 3 → ∀ b, b < 3 → a ≠ b → (TX3 a).2.1 ≠ (TX3 b).2.1 := by decide +kernel
theorem tyX3_ok : ∀ k, k < 3 → parseFieldDescriptor (TX3 k).2.2.1 = some (tyX3 k) := by decide +kernel
abbrev cX3_init : ByteArray := prog_5_method_1_code
def yX3_init : MethodName := ⟨RX3, "<init>", "(II)V"⟩
abbrev cX3_moveTo : ByteArray := prog_5_method_2_code
def yX3_moveTo : MethodName := ⟨RX3, "moveTo", "(II)V"⟩
def RX4 : String := "EventRows$Tree"
def TX4 : u_T := fun k => match k with
  | 0 => ("EventRows$Tree", "row", "[J", true)
  | _ => ("EventRows$Tree", "width", "I", false)
def tyX4 : Nat → FieldType := fun k => match k with
  | 0 => .array .long
  | _ => .int
abbrev wsX40 : List Cond := u_ws RX4 TX4 2
theorem nmX4 : ∀ a, a < 2 → ∀ b, b < 2 → a ≠ b → (TX4 a).2.1 ≠ (TX4 b).2.1 := by decide +kernel
theorem tyX4_ok : ∀ k, k < 2 → parseFieldDescriptor (TX4 k).2.2.1 = some (tyX4 k) := by decide +kernel
abbrev cX4_init : ByteArray := prog_6_method_1_code
def yX4_init : MethodName := ⟨RX4, "<init>", "()V"⟩
abbrev cX4_plant : ByteArray := prog_6_method_2_code
def yX4_plant : MethodName := ⟨RX4, "plant", "(LEventRows$Block;)V"⟩
abbrev cX4_rise : ByteArray := prog_6_method_3_code
def yX4_rise : MethodName := ⟨RX4, "rise", "()V"⟩
abbrev cX4_topOf : ByteArray := prog_6_method_4_code
def yX4_topOf : MethodName := ⟨RX4, "topOf", "(LEventRows$Block;)J"⟩
abbrev cX4_pathOf : ByteArray := prog_6_method_5_code
def yX4_pathOf : MethodName := ⟨RX4, "pathOf", "(LEventRows$Block;ILEventRows$Out;)V"⟩
def RX5 : String := "EventRows"
def TX5 : u_T := fun k => match k with
  | 0 => ("EventRows", "calls", "LEventRows$Calls;", true)
  | 1 => ("EventRows", "blocks", "[LEventRows$Block;", true)
  | 2 => ("EventRows", "tree", "LEventRows$Tree;", true)
  | 3 => ("EventRows", "outRow", "LEventRows$Out;", true)
  | 4 => ("EventRows", "subscribers", "[LEventRows$Subscriber;", true)
  | 5 => ("EventRows", "open", "LEventRows$Block;", false)
  | 6 => ("EventRows", "blockCount", "I", false)
  | 7 => ("EventRows", "subscriberCount", "I", false)
  | _ => ("EventRows", "closedEvents", "I", false)
def tyX5 : Nat → FieldType := fun k => match k with
  | 0 => .object "EventRows$Calls"
  | 1 => .array (.object "EventRows$Block")
  | 2 => .object "EventRows$Tree"
  | 3 => .object "EventRows$Out"
  | 4 => .array (.object "EventRows$Subscriber")
  | 5 => .object "EventRows$Block"
  | 6 => .int
  | 7 => .int
  | _ => .int
abbrev wsX50 : List Cond := u_ws RX5 TX5 9
theorem nmX5 : ∀ a, a < 9 → ∀ b, b < 9 → a ≠ b → (TX5 a).2.1 ≠ (TX5 b).2.1 := by decide +kernel
theorem tyX5_ok : ∀ k, k < 9 → parseFieldDescriptor (TX5 k).2.2.1 = some (tyX5 k) := by decide +kernel
abbrev cX5_init : ByteArray := prog_1_method_1_code
def yX5_init : MethodName := ⟨RX5, "<init>", "()V"⟩
abbrev cX5_begin : ByteArray := prog_1_method_2_code
def yX5_begin : MethodName := ⟨RX5, "begin", "(IZ)I"⟩
abbrev cX5_tell : ByteArray := prog_1_method_3_code
def yX5_tell : MethodName := ⟨RX5, "tell", "(IIIIJ)I"⟩
abbrev cX5_end : ByteArray := prog_1_method_4_code
def yX5_end : MethodName := ⟨RX5, "end", "(Z)I"⟩
abbrev cX5_told : ByteArray := prog_1_method_5_code
def yX5_told : MethodName := ⟨RX5, "told", "(I)I"⟩
abbrev cX5_close : ByteArray := prog_1_method_6_code
def yX5_close : MethodName := ⟨RX5, "close", "()I"⟩
abbrev cX5_back : ByteArray := prog_1_method_7_code
def yX5_back : MethodName := ⟨RX5, "back", "(I)I"⟩
abbrev cX5_prune : ByteArray := prog_1_method_8_code
def yX5_prune : MethodName := ⟨RX5, "prune", "(I)I"⟩
abbrev cX5_size : ByteArray := prog_1_method_9_code
def yX5_size : MethodName := ⟨RX5, "size", "(II)I"⟩
abbrev cX5_event : ByteArray := prog_1_method_10_code
def yX5_event : MethodName := ⟨RX5, "event", "(III)I"⟩
abbrev cX5_value : ByteArray := prog_1_method_11_code
def yX5_value : MethodName := ⟨RX5, "value", "(II)J"⟩
abbrev cX5_root : ByteArray := prog_1_method_12_code
def yX5_root : MethodName := ⟨RX5, "root", "(I)J"⟩
abbrev cX5_filter : ByteArray := prog_1_method_13_code
def yX5_filter : MethodName := ⟨RX5, "filter", "(I)J"⟩
abbrev cX5_may : ByteArray := prog_1_method_14_code
def yX5_may : MethodName := ⟨RX5, "may", "(II)I"⟩
abbrev cX5_find : ByteArray := prog_1_method_15_code
def yX5_find : MethodName := ⟨RX5, "find", "(III)I"⟩
abbrev cX5_path : ByteArray := prog_1_method_16_code
def yX5_path : MethodName := ⟨RX5, "path", "(II)I"⟩
abbrev cX5_out : ByteArray := prog_1_method_17_code
def yX5_out : MethodName := ⟨RX5, "out", "(I)J"⟩
abbrev cX5_lay : ByteArray := prog_1_method_18_code
def yX5_lay : MethodName := ⟨RX5, "lay", "(J)I"⟩
abbrev cX5_wipe : ByteArray := prog_1_method_19_code
def yX5_wipe : MethodName := ⟨RX5, "wipe", "()I"⟩
abbrev cX5_proved : ByteArray := prog_1_method_20_code
def yX5_proved : MethodName := ⟨RX5, "proved", "(IIIIIIJ)I"⟩
abbrev cX5_subscribe : ByteArray := prog_1_method_21_code
def yX5_subscribe : MethodName := ⟨RX5, "subscribe", "(II)I"⟩
abbrev cX5_next : ByteArray := prog_1_method_22_code
def yX5_next : MethodName := ⟨RX5, "next", "(I)I"⟩
abbrev cX5_place : ByteArray := prog_1_method_23_code
def yX5_place : MethodName := ⟨RX5, "place", "(I)I"⟩
abbrev cX5_failInnermost : ByteArray := prog_1_method_24_code
def yX5_failInnermost : MethodName := ⟨RX5, "failInnermost", "()I"⟩
abbrev cX5_blockAt : ByteArray := prog_1_method_25_code
def yX5_blockAt : MethodName := ⟨RX5, "blockAt", "(I)LEventRows$Block;"⟩
abbrev cX5_neededBlock : ByteArray := prog_1_method_26_code
def yX5_neededBlock : MethodName := ⟨RX5, "neededBlock", "(I)LEventRows$Block;"⟩
abbrev cX5_keptEventsFrom : ByteArray := prog_1_method_27_code
def yX5_keptEventsFrom : MethodName := ⟨RX5, "keptEventsFrom", "(I)I"⟩
abbrev cX5_firstKeptWith : ByteArray := prog_1_method_28_code
def yX5_firstKeptWith : MethodName := ⟨RX5, "firstKeptWith", "(III)I"⟩
abbrev cX5_subscriberAt : ByteArray := prog_1_method_29_code
def yX5_subscriberAt : MethodName := ⟨RX5, "subscriberAt", "(I)LEventRows$Subscriber;"⟩
abbrev cX5_moveSubscribersBack : ByteArray := prog_1_method_30_code
def yX5_moveSubscribersBack : MethodName := ⟨RX5, "moveSubscribersBack", "()V"⟩
abbrev cX5_isTopic : ByteArray := prog_1_method_31_code
def yX5_isTopic : MethodName := ⟨RX5, "isTopic", "(I)Z"⟩
abbrev cX5_isTopicOrNone : ByteArray := prog_1_method_32_code
def yX5_isTopicOrNone : MethodName := ⟨RX5, "isTopicOrNone", "(I)Z"⟩
abbrev cX5_isEvent : ByteArray := prog_1_method_33_code
def yX5_isEvent : MethodName := ⟨RX5, "isEvent", "(IIII)Z"⟩
abbrev cX5_topicCount : ByteArray := prog_1_method_34_code
def yX5_topicCount : MethodName := ⟨RX5, "topicCount", "(II)I"⟩
abbrev cX5_bitsOf : ByteArray := prog_1_method_35_code
def yX5_bitsOf : MethodName := ⟨RX5, "bitsOf", "(I)J"⟩
abbrev cX5_mix : ByteArray := prog_1_method_36_code
def yX5_mix : MethodName := ⟨RX5, "mix", "(JJ)J"⟩
abbrev cX5_leafOf : ByteArray := prog_1_method_37_code
def yX5_leafOf : MethodName := ⟨RX5, "leafOf", "(IIIIJI)J"⟩
def RX6 : String := "EventRowsModel"
def TX6 : u_T := fun k => match k with
  | 0 => ("EventRowsModel", "thrown", "I", false)
  | 1 => ("EventRowsModel", "account", "[I", true)
  | 2 => ("EventRowsModel", "topics", "[I", true)
  | 3 => ("EventRowsModel", "value", "[J", true)
  | 4 => ("EventRowsModel", "serial", "[I", true)
  | 5 => ("EventRowsModel", "size", "[I", true)
  | 6 => ("EventRowsModel", "pruned", "[Z", true)
  | 7 => ("EventRowsModel", "root", "[J", true)
  | 8 => ("EventRowsModel", "filter", "[J", true)
  | 9 => ("EventRowsModel", "blocks", "I", false)
  | 10 => ("EventRowsModel", "closed", "I", false)
  | 11 => ("EventRowsModel", "open", "I", false)
  | 12 => ("EventRowsModel", "depth", "I", false)
  | 13 => ("EventRowsModel", "limit", "[I", true)
  | 14 => ("EventRowsModel", "used", "[I", true)
  | 15 => ("EventRowsModel", "caught", "[Z", true)
  | 16 => ("EventRowsModel", "begun", "[I", true)
  | 17 => ("EventRowsModel", "out", "[J", true)
  | 18 => ("EventRowsModel", "outSize", "I", false)
  | 19 => ("EventRowsModel", "subscribers", "I", false)
  | 20 => ("EventRowsModel", "topicOf", "[I", true)
  | 21 => ("EventRowsModel", "placeBlock", "[I", true)
  | 22 => ("EventRowsModel", "placeAt", "[I", true)
  | _ => ("EventRowsModel", "level", "[J", true)
def tyX6 : Nat → FieldType := fun k => match k with
  | 0 => .int
  | 1 => .array .int
  | 2 => .array .int
  | 3 => .array .long
  | 4 => .array .int
  | 5 => .array .int
  | 6 => .array .boolean
  | 7 => .array .long
  | 8 => .array .long
  | 9 => .int
  | 10 => .int
  | 11 => .int
  | 12 => .int
  | 13 => .array .int
  | 14 => .array .int
  | 15 => .array .boolean
  | 16 => .array .int
  | 17 => .array .long
  | 18 => .int
  | 19 => .int
  | 20 => .array .int
  | 21 => .array .int
  | 22 => .array .int
  | _ => .array .long
abbrev wsX60 : List Cond := u_ws RX6 TX6 24
theorem nmX6 : ∀ a, a < 24 → ∀ b, b < 24 → a ≠ b → (TX6 a).2.1 ≠ (TX6 b).2.1 := by decide +kernel
theorem tyX6_ok : ∀ k, k < 24 → parseFieldDescriptor (TX6 k).2.2.1 = some (tyX6 k) := by decide +kernel
abbrev cX6_init : ByteArray := prog_8_method_1_code
def yX6_init : MethodName := ⟨RX6, "<init>", "()V"⟩
abbrev cX6_thrown : ByteArray := prog_8_method_2_code
def yX6_thrown : MethodName := ⟨RX6, "thrown", "()I"⟩
abbrev cX6_in : ByteArray := prog_8_method_3_code
def yX6_in : MethodName := ⟨RX6, "in", "(JJJ)Z"⟩
abbrev cX6_isBlock : ByteArray := prog_8_method_4_code
def yX6_isBlock : MethodName := ⟨RX6, "isBlock", "(I)Z"⟩
abbrev cX6_left : ByteArray := prog_8_method_5_code
def yX6_left : MethodName := ⟨RX6, "left", "()I"⟩
abbrev cX6_over : ByteArray := prog_8_method_6_code
def yX6_over : MethodName := ⟨RX6, "over", "()V"⟩
abbrev cX6_fails : ByteArray := prog_8_method_7_code
def yX6_fails : MethodName := ⟨RX6, "fails", "()I"⟩
abbrev cX6_begin : ByteArray := prog_8_method_8_code
def yX6_begin : MethodName := ⟨RX6, "begin", "(IZ)I"⟩
abbrev cX6_isEvent : ByteArray := prog_8_method_9_code
def yX6_isEvent : MethodName := ⟨RX6, "isEvent", "(IIII)Z"⟩
abbrev cX6_tell : ByteArray := prog_8_method_10_code
def yX6_tell : MethodName := ⟨RX6, "tell", "(IIIIJ)I"⟩
abbrev cX6_end : ByteArray := prog_8_method_11_code
def yX6_end : MethodName := ⟨RX6, "end", "(Z)I"⟩
abbrev cX6_told : ByteArray := prog_8_method_12_code
def yX6_told : MethodName := ⟨RX6, "told", "(I)I"⟩
abbrev cX6_mix : ByteArray := prog_8_method_13_code
def yX6_mix : MethodName := ⟨RX6, "mix", "(JJ)J"⟩
abbrev cX6_leaf : ByteArray := prog_8_method_14_code
def yX6_leaf : MethodName := ⟨RX6, "leaf", "(IIIIJI)J"⟩
abbrev cX6_leaves : ByteArray := prog_8_method_15_code
def yX6_leaves : MethodName := ⟨RX6, "leaves", "(I)V"⟩
abbrev cX6_rises : ByteArray := prog_8_method_16_code
def yX6_rises : MethodName := ⟨RX6, "rises", "(I)I"⟩
abbrev cX6_bitsOf : ByteArray := prog_8_method_17_code
def yX6_bitsOf : MethodName := ⟨RX6, "bitsOf", "(I)J"⟩
abbrev cX6_close : ByteArray := prog_8_method_18_code
def yX6_close : MethodName := ⟨RX6, "close", "()I"⟩
abbrev cX6_back : ByteArray := prog_8_method_19_code
def yX6_back : MethodName := ⟨RX6, "back", "(I)I"⟩
abbrev cX6_prune : ByteArray := prog_8_method_20_code
def yX6_prune : MethodName := ⟨RX6, "prune", "(I)I"⟩
abbrev cX6_size : ByteArray := prog_8_method_21_code
def yX6_size : MethodName := ⟨RX6, "size", "(II)I"⟩
abbrev cX6_topicMany : ByteArray := prog_8_method_22_code
def yX6_topicMany : MethodName := ⟨RX6, "topicMany", "(I)I"⟩
abbrev cX6_event : ByteArray := prog_8_method_23_code
def yX6_event : MethodName := ⟨RX6, "event", "(III)I"⟩
abbrev cX6_value : ByteArray := prog_8_method_24_code
def yX6_value : MethodName := ⟨RX6, "value", "(II)J"⟩
abbrev cX6_root : ByteArray := prog_8_method_25_code
def yX6_root : MethodName := ⟨RX6, "root", "(I)J"⟩
abbrev cX6_filter : ByteArray := prog_8_method_26_code
def yX6_filter : MethodName := ⟨RX6, "filter", "(I)J"⟩
abbrev cX6_may : ByteArray := prog_8_method_27_code
def yX6_may : MethodName := ⟨RX6, "may", "(II)I"⟩
abbrev cX6_has : ByteArray := prog_8_method_28_code
def yX6_has : MethodName := ⟨RX6, "has", "(II)Z"⟩
abbrev cX6_find : ByteArray := prog_8_method_29_code
def yX6_find : MethodName := ⟨RX6, "find", "(III)I"⟩
abbrev cX6_path : ByteArray := prog_8_method_30_code
def yX6_path : MethodName := ⟨RX6, "path", "(II)I"⟩
abbrev cX6_out : ByteArray := prog_8_method_31_code
def yX6_out : MethodName := ⟨RX6, "out", "(I)J"⟩
abbrev cX6_lay : ByteArray := prog_8_method_32_code
def yX6_lay : MethodName := ⟨RX6, "lay", "(J)I"⟩
abbrev cX6_wipe : ByteArray := prog_8_method_33_code
def yX6_wipe : MethodName := ⟨RX6, "wipe", "()I"⟩
abbrev cX6_proved : ByteArray := prog_8_method_34_code
def yX6_proved : MethodName := ⟨RX6, "proved", "(IIIIIIJ)I"⟩
abbrev cX6_subscribe : ByteArray := prog_8_method_35_code
def yX6_subscribe : MethodName := ⟨RX6, "subscribe", "(II)I"⟩
abbrev cX6_next : ByteArray := prog_8_method_36_code
def yX6_next : MethodName := ⟨RX6, "next", "(I)I"⟩
abbrev cX6_place : ByteArray := prog_8_method_37_code
def yX6_place : MethodName := ⟨RX6, "place", "(I)I"⟩
def RJx00060 : String := "java/lang/ArrayIndexOutOfBoundsException"
def TJx00060 : u_T := fun k => match k with
  | 0 => ("java/lang/Throwable", "backtrace", "Ljava/lang/Object;", false)
  | 1 => ("java/lang/Throwable", "detailMessage", "Ljava/lang/String;", false)
  | 2 => ("java/lang/Throwable", "cause", "Ljava/lang/Throwable;", false)
  | 3 => ("java/lang/Throwable", "stackTrace", "[Ljava/lang/StackTraceElement;", false)
  | 4 => ("java/lang/Throwable", "depth", "I", false)
  | _ => ("java/lang/Throwable", "suppressedExceptions", "Ljava/util/List;", false)
def tyJx00060 : Nat → FieldType := fun k => match k with
  | 0 => .object "java/lang/Object"
  | 1 => .object "java/lang/String"
  | 2 => .object "java/lang/Throwable"
  | 3 => .array (.object "java/lang/StackTraceElement")
  | 4 => .int
  | _ => .object "java/util/List"
abbrev wsJx000600 : List Cond := u_ws RJx00060 TJx00060 6
theorem nmJx00060 : ∀ a, a < 6 → ∀ b, b < 6 → a ≠ b → (TJx00060 a).2.1 ≠ (TJx00060 b).2.1 := by decide +kernel
theorem tyJx00060_ok : ∀ k, k < 6 → parseFieldDescriptor (TJx00060 k).2.2.1 = some (tyJx00060 k) := by decide +kernel
abbrev cJx00060_init_a7421 : ByteArray := prog_9_method_2_code
def yJx00060_init_a7421 : MethodName := ⟨RJx00060, "<init>", "(Ljava/lang/String;)V"⟩
def RJ9 : String := "java/lang/Math"
def TJ9 : u_T := fun k => match k with
  | _ => ("", "", "", false)
def tyJ9 : Nat → FieldType := fun k => match k with
  | _ => .int
abbrev wsJ90 : List Cond := u_ws RJ9 TJ9 0
theorem nmJ9 : ∀ a, a < 0 → ∀ b, b < 0 → a ≠ b → (TJ9 a).2.1 ≠ (TJ9 b).2.1 := by decide +kernel
theorem tyJ9_ok : ∀ k, k < 0 → parseFieldDescriptor (TJ9 k).2.2.1 = some (tyJ9 k) := by decide +kernel
abbrev cJ9_min_7cf53 : ByteArray := prog_12_method_69_code
def yJ9_min_7cf53 : MethodName := ⟨RJ9, "min", "(II)I"⟩
def RJx5d777 : String := "java/lang/NullPointerException"
def TJx5d777 : u_T := fun k => match k with
  | 0 => ("java/lang/Throwable", "backtrace", "Ljava/lang/Object;", false)
  | 1 => ("java/lang/Throwable", "detailMessage", "Ljava/lang/String;", false)
  | 2 => ("java/lang/Throwable", "cause", "Ljava/lang/Throwable;", false)
  | 3 => ("java/lang/Throwable", "stackTrace", "[Ljava/lang/StackTraceElement;", false)
  | 4 => ("java/lang/Throwable", "depth", "I", false)
  | 5 => ("java/lang/Throwable", "suppressedExceptions", "Ljava/util/List;", false)
  | 6 => ("java/lang/NullPointerException", "extendedMessageState", "I", false)
  | _ => ("java/lang/NullPointerException", "extendedMessage", "Ljava/lang/String;", false)
def tyJx5d777 : Nat → FieldType := fun k => match k with
  | 0 => .object "java/lang/Object"
  | 1 => .object "java/lang/String"
  | 2 => .object "java/lang/Throwable"
  | 3 => .array (.object "java/lang/StackTraceElement")
  | 4 => .int
  | 5 => .object "java/util/List"
  | 6 => .int
  | _ => .object "java/lang/String"
abbrev wsJx5d7770 : List Cond := u_ws RJx5d777 TJx5d777 8
theorem nmJx5d777 : ∀ a, a < 8 → ∀ b, b < 8 → a ≠ b → (TJx5d777 a).2.1 ≠ (TJx5d777 b).2.1 := by decide +kernel
theorem tyJx5d777_ok : ∀ k, k < 8 → parseFieldDescriptor (TJx5d777 k).2.2.1 = some (tyJx5d777 k) := by decide +kernel
abbrev cJx5d777_init_da8c8 : ByteArray := prog_13_method_1_code
def yJx5d777_init_da8c8 : MethodName := ⟨RJx5d777, "<init>", "()V"⟩
abbrev cJx5d777_init_a7421 : ByteArray := prog_13_method_2_code
def yJx5d777_init_a7421 : MethodName := ⟨RJx5d777, "<init>", "(Ljava/lang/String;)V"⟩
abbrev cJx5d777_fillInStackTrace_cddbd : ByteArray := prog_13_method_3_code
def yJx5d777_fillInStackTrace_cddbd : MethodName := ⟨RJx5d777, "fillInStackTrace", "()Ljava/lang/Throwable;"⟩
def RJ0 : String := "java/lang/String"
def TJ0 : u_T := fun k => match k with
  | 0 => ("java/lang/String", "value", "[B", true)
  | _ => ("java/lang/String", "coder", "B", true)
def tyJ0 : Nat → FieldType := fun k => match k with
  | 0 => .array .byte
  | _ => .byte
abbrev wsJ00 : List Cond := u_ws RJ0 TJ0 2
theorem nmJ0 : ∀ a, a < 2 → ∀ b, b < 2 → a ≠ b → (TJ0 a).2.1 ≠ (TJ0 b).2.1 := by decide +kernel
theorem tyJ0_ok : ∀ k, k < 2 → parseFieldDescriptor (TJ0 k).2.2.1 = some (tyJ0 k) := by decide +kernel
def RL : String := "EventRowsLaw"
abbrev cL_value : ByteArray := method_3_code
def yL_value : MethodName := ⟨RL, "value", "(LEventRows;II[J)I"⟩
abbrev cL_root : ByteArray := method_4_code
def yL_root : MethodName := ⟨RL, "root", "(LEventRows;I[J)I"⟩
abbrev cL_filter : ByteArray := method_5_code
def yL_filter : MethodName := ⟨RL, "filter", "(LEventRows;I[J)I"⟩
abbrev cL_out : ByteArray := method_6_code
def yL_out : MethodName := ⟨RL, "out", "(LEventRows;I[J)I"⟩
abbrev cL_law : ByteArray := code
def yL_law : MethodName := ⟨RL, "law", "([I)Z"⟩
abbrev vwCl : List vw_C := [(RJ0, TJ0, 2), (RJx00060, TJx00060, 6), (RJx5d777, TJx5d777, 8), (RX0, TX0, 10), (RX1, TX1, 5), (RX2, TX2, 2), (RX3, TX3, 3), (RX4, TX4, 2), (RX5, TX5, 9), (RX6, TX6, 24)]
