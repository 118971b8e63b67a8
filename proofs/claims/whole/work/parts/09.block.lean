/-- a block: its object at role b, its rows at b + 1 to b + 5 -/
def BlkP (pic : PIC) (cA : Nat → ClassId) (b aB r1 r2 r3 r4 r5 : Nat) (cnt kept fs : Int32) (rd fb : Int64) (ac t1 t2 t3 : Nat → Int32) (vl : Nat → Int64) : Prop :=
  pic b = some (aB, bkE r1 r2 r3 r4 r5 cnt kept fs rd fb) ∧ pic (b + 1) = some (r1, .inl (cA 0, 32, .inl ac)) ∧ pic (b + 2) = some (r2, .inl (cA 0, 32, .inl t1)) ∧ pic (b + 3) = some (r3, .inl (cA 0, 32, .inl t2)) ∧ pic (b + 4) = some (r4, .inl (cA 0, 32, .inl t3)) ∧ pic (b + 5) = some (r5, .inl (cA 1, 32, .inr (.inl vl)))
theorem BlkP.kept {pic pic1 : PIC} {cA : Nat → ClassId} {b aB r1 r2 r3 r4 r5 : Nat} {cnt kept fs : Int32} {rd fb : Int64} {ac t1 t2 t3 : Nat → Int32} {vl : Nat → Int64} (h : BlkP pic cA b aB r1 r2 r3 r4 r5 cnt kept fs rd fb ac t1 t2 t3 vl) (hk : ∀ q, b ≤ q → q < b + 6 → pic1 q = pic q) : BlkP pic1 cA b aB r1 r2 r3 r4 r5 cnt kept fs rd fb ac t1 t2 t3 vl :=
  ⟨(hk b (by omega) (by omega)).trans h.1, (hk (b + 1) (by omega) (by omega)).trans h.2.1, (hk (b + 2) (by omega) (by omega)).trans h.2.2.1, (hk (b + 3) (by omega) (by omega)).trans h.2.2.2.1, (hk (b + 4) (by omega) (by omega)).trans h.2.2.2.2.1, (hk (b + 5) (by omega) (by omega)).trans h.2.2.2.2.2⟩
def orO (d : Int64) (t : Int32) : Int64 := if t.toInt = -1 then d else d ||| bitF t
/-- the filter bits of one event, and of the first n -/
def tbF (a b c : Int32) : Int64 := orO (orO (bitF a) b) c
def fbF (t1 t2 t3 : Nat → Int32) : Nat → Int64
  | 0 => 0
  | n + 1 => fbF t1 t2 t3 n ||| tbF (t1 n) (t2 n) (t3 n)
def hasT (a b c t : Int32) : Prop := a.toInt = t.toInt ∨ b.toInt = t.toInt ∨ c.toInt = t.toInt
def detF (ac a b c fs : Int32) (k : Nat) (w : Nat) : Int32 := match w with
  | 0 => ac
  | 1 => tcF b c
  | 2 => a
  | 3 => tonF b
  | 4 => tonF c
  | _ => fs + nI k
set_option maxHeartbeats 4000000 in
set_option maxRecDepth 100000 in
theorem c_X0_add (l : Launch) (D : va_G) (cA : Nat → ClassId) (base : Nat) (pic : PIC) (b aB r1 r2 r3 r4 r5 : Nat) (n : Nat) (kept fs : Int32) (rd fb : Int64) (ac t1 t2 t3 : Nat → Int32) (vl : Nat → Int64) (x1 x2 x3 x4 : Int32) (xv : Int64) (hB : BlkP pic cA b aB r1 r2 r3 r4 r5 (nI n) kept fs rd fb ac t1 t2 t3 vl) (hn : n < 32)  : CV l yX0_add cX0_add 7 none { frames := 0, cells := 0, slots := 0, locals := 0 } 0 0 D cA base pic [.ref aB, .int x1, .int x2, .int x3, .int x4, .long xv] (fun pic1 => BlkP pic1 cA b aB r1 r2 r3 r4 r5 (nI (n + 1)) kept fs rd fb (upd ac n x1) (upd t1 n x2) (upd t2 n x3) (upd t3 n x4) (vp_updL vl n xv) ∧ ∀ q, ¬ (b ≤ q ∧ q < b + 6) → pic1 q = pic q) := by
  refine ofV (by decide) (Nat.le_of_ble_eq_true rfl) ?_
  intro p e s m below meth c K hr hlk hnm
  have FR : ∀ q, ¬ (b ≤ q ∧ q < b + 6) → pic q = pic q := fun _ _ => rfl
  obtain ⟨f0, f1, f2, f3, f4, f5⟩ := hB
  refine v_aload_n K 0 dX0_add_0 rfl rfl ?_
  refine gf_X0_9 K dX0_add_1 f0 rfl ?_
  refine v_aload_n K 0 dX0_add_4 rfl rfl ?_
  refine gf_X0_32 K dX0_add_5 f0 rfl ?_
  refine v_iload_n K 1 dX0_add_8 rfl rfl ?_
  refine v_iast K dX0_add_9 f1 (by omega) (by decide) (fun pic3 zg1 zf2 => ?_)
  replace f0 := (zf2 _ (by omega)).trans f0
  replace f1 := zg1
  replace f2 := (zf2 _ (by omega)).trans f2
  replace f3 := (zf2 _ (by omega)).trans f3
  replace f4 := (zf2 _ (by omega)).trans f4
  replace f5 := (zf2 _ (by omega)).trans f5
  have FR : ∀ q, ¬ (b ≤ q ∧ q < b + 6) → pic3 q = pic q := fun q hq => (zf2 q (by omega)).trans (FR q hq)
  refine v_aload_n K 0 dX0_add_10 rfl rfl ?_
  refine gf_X0_15 K dX0_add_11 f0 rfl ?_
  refine v_aload_n K 0 dX0_add_14 rfl rfl ?_
  refine gf_X0_32 K dX0_add_15 f0 rfl ?_
  refine v_iload_n K 2 dX0_add_18 rfl rfl ?_
  refine v_iast K dX0_add_19 f2 (by omega) (by decide) (fun pic6 zg4 zf5 => ?_)
  replace f0 := (zf5 _ (by omega)).trans f0
  replace f1 := (zf5 _ (by omega)).trans f1
  replace f2 := zg4
  replace f3 := (zf5 _ (by omega)).trans f3
  replace f4 := (zf5 _ (by omega)).trans f4
  replace f5 := (zf5 _ (by omega)).trans f5
  have FR : ∀ q, ¬ (b ≤ q ∧ q < b + 6) → pic6 q = pic q := fun q hq => (zf5 q (by omega)).trans (FR q hq)
  refine v_aload_n K 0 dX0_add_20 rfl rfl ?_
  refine gf_X0_18 K dX0_add_21 f0 rfl ?_
  refine v_aload_n K 0 dX0_add_24 rfl rfl ?_
  refine gf_X0_32 K dX0_add_25 f0 rfl ?_
  refine v_iload_n K 3 dX0_add_28 rfl rfl ?_
  refine v_iast K dX0_add_29 f3 (by omega) (by decide) (fun pic9 zg7 zf8 => ?_)
  replace f0 := (zf8 _ (by omega)).trans f0
  replace f1 := (zf8 _ (by omega)).trans f1
  replace f2 := (zf8 _ (by omega)).trans f2
  replace f3 := zg7
  replace f4 := (zf8 _ (by omega)).trans f4
  replace f5 := (zf8 _ (by omega)).trans f5
  have FR : ∀ q, ¬ (b ≤ q ∧ q < b + 6) → pic9 q = pic q := fun q hq => (zf8 q (by omega)).trans (FR q hq)
  refine v_aload_n K 0 dX0_add_30 rfl rfl ?_
  refine gf_X0_21 K dX0_add_31 f0 rfl ?_
  refine v_aload_n K 0 dX0_add_34 rfl rfl ?_
  refine gf_X0_32 K dX0_add_35 f0 rfl ?_
  refine v_iload K dX0_add_38 rfl ?_
  refine v_iast K dX0_add_40 f4 (by omega) (by decide) (fun pic12 zg10 zf11 => ?_)
  replace f0 := (zf11 _ (by omega)).trans f0
  replace f1 := (zf11 _ (by omega)).trans f1
  replace f2 := (zf11 _ (by omega)).trans f2
  replace f3 := (zf11 _ (by omega)).trans f3
  replace f4 := zg10
  replace f5 := (zf11 _ (by omega)).trans f5
  have FR : ∀ q, ¬ (b ≤ q ∧ q < b + 6) → pic12 q = pic q := fun q hq => (zf11 q (by omega)).trans (FR q hq)
  refine v_aload_n K 0 dX0_add_41 rfl rfl ?_
  refine gf_X0_24 K dX0_add_42 f0 rfl ?_
  refine v_aload_n K 0 dX0_add_45 rfl rfl ?_
  refine gf_X0_32 K dX0_add_46 f0 rfl ?_
  refine v_lload K dX0_add_49 rfl ?_
  refine v_last K dX0_add_51 f5 (by omega) (by decide) (fun pic15 zg13 zf14 => ?_)
  replace f0 := (zf14 _ (by omega)).trans f0
  replace f1 := (zf14 _ (by omega)).trans f1
  replace f2 := (zf14 _ (by omega)).trans f2
  replace f3 := (zf14 _ (by omega)).trans f3
  replace f4 := (zf14 _ (by omega)).trans f4
  replace f5 := zg13
  have FR : ∀ q, ¬ (b ≤ q ∧ q < b + 6) → pic15 q = pic q := fun q hq => (zf14 q (by omega)).trans (FR q hq)
  refine v_aload_n K 0 dX0_add_52 rfl rfl ?_
  refine v_dup K dX0_add_53 rfl ?_
  refine gf_X0_32 K dX0_add_54 f0 rfl ?_
  refine v_iconst (v := nI 1) K dX0_add_57 (by decide) ?_
  refine v_iaddN K dX0_add_58 ?_
  refine pf_X0_32 K dX0_add_59 f0 (Nat.le_of_ble_eq_true rfl) (fun pic18 zg16 zf17 => ?_)
  replace f0 := zg16
  replace f1 := (zf17 _ (by omega)).trans f1
  replace f2 := (zf17 _ (by omega)).trans f2
  replace f3 := (zf17 _ (by omega)).trans f3
  replace f4 := (zf17 _ (by omega)).trans f4
  replace f5 := (zf17 _ (by omega)).trans f5
  have FR : ∀ q, ¬ (b ≤ q ∧ q < b + 6) → pic18 q = pic q := fun q hq => (zf17 q (by omega)).trans (FR q hq)
  exact v_vret K dX0_add_62 hr hlk (by decide) (by decide) (⟨⟨f0, f1, f2, f3, f4, f5⟩, FR⟩)

set_option maxHeartbeats 4000000 in
set_option maxRecDepth 100000 in
theorem c_X0_clear (l : Launch) (D : va_G) (cA : Nat → ClassId) (base : Nat) (pic : PIC) (b aB r1 r2 r3 r4 r5 : Nat) (cnt kept fs : Int32) (rd fb : Int64) (ac t1 t2 t3 : Nat → Int32) (vl : Nat → Int64) (hB : BlkP pic cA b aB r1 r2 r3 r4 r5 cnt kept fs rd fb ac t1 t2 t3 vl)  : CV l yX0_clear cX0_clear 1 none { frames := 0, cells := 0, slots := 0, locals := 0 } 0 0 D cA base pic [.ref aB] (fun pic1 => BlkP pic1 cA b aB r1 r2 r3 r4 r5 (nI 0) 1 fs rd fb ac t1 t2 t3 vl ∧ ∀ q, ¬ (b ≤ q ∧ q < b + 6) → pic1 q = pic q) := by
  refine ofV (by decide) (Nat.le_of_ble_eq_true rfl) ?_
  intro p e s m below meth c K hr hlk hnm
  have FR : ∀ q, ¬ (b ≤ q ∧ q < b + 6) → pic q = pic q := fun _ _ => rfl
  obtain ⟨f0, f1, f2, f3, f4, f5⟩ := hB
  refine v_aload_n K 0 dX0_clear_0 rfl rfl ?_
  refine v_iconst (v := nI 0) K dX0_clear_1 (by decide) ?_
  refine pf_X0_32 K dX0_clear_2 f0 (Nat.le_of_ble_eq_true rfl) (fun pic3 zg1 zf2 => ?_)
  replace f0 := zg1
  replace f1 := (zf2 _ (by omega)).trans f1
  replace f2 := (zf2 _ (by omega)).trans f2
  replace f3 := (zf2 _ (by omega)).trans f3
  replace f4 := (zf2 _ (by omega)).trans f4
  replace f5 := (zf2 _ (by omega)).trans f5
  have FR : ∀ q, ¬ (b ≤ q ∧ q < b + 6) → pic3 q = pic q := fun q hq => (zf2 q (by omega)).trans (FR q hq)
  refine v_aload_n K 0 dX0_clear_5 rfl rfl ?_
  refine v_iconst (v := nI 1) K dX0_clear_6 (by decide) ?_
  refine pf_X0_28 K dX0_clear_7 f0 (by first | exact isB0 | exact isB1 | assumption) (Nat.le_of_ble_eq_true rfl) (fun pic6 zg4 zf5 => ?_)
  replace f0 := zg4
  replace f1 := (zf5 _ (by omega)).trans f1
  replace f2 := (zf5 _ (by omega)).trans f2
  replace f3 := (zf5 _ (by omega)).trans f3
  replace f4 := (zf5 _ (by omega)).trans f4
  replace f5 := (zf5 _ (by omega)).trans f5
  have FR : ∀ q, ¬ (b ≤ q ∧ q < b + 6) → pic6 q = pic q := fun q hq => (zf5 q (by omega)).trans (FR q hq)
  exact v_vret K dX0_clear_10 hr hlk (by decide) (by decide) (⟨⟨f0, f1, f2, f3, f4, f5⟩, FR⟩)

set_option maxHeartbeats 4000000 in
set_option maxRecDepth 100000 in
theorem c_X0_topicBits (l : Launch) (D : va_G) (cA : Nat → ClassId) (base : Nat) (pic : PIC) (b aB r1 r2 r3 r4 r5 : Nat) (n : Nat) (kept fs : Int32) (rd fb : Int64) (ac t1 t2 t3 : Nat → Int32) (vl : Nat → Int64) (k : Nat) (hB : BlkP pic cA b aB r1 r2 r3 r4 r5 (nI n) kept fs rd fb ac t1 t2 t3 vl) (hk : k < 32)  : CL l yX0_topicBits cX0_topicBits 4 (some .long) { frames := 1, cells := 0, slots := 0, locals := 20 } 0 0 D cA base pic [.ref aB, .int (nI k)] (fun x pic1 => pic = pic1 ∧ x = tbF (t1 k) (t2 k) (t3 k)) := by
  refine ofL (by decide) (Nat.le_of_ble_eq_true rfl) ?_
  intro p e s m below meth c K hr hlk hnm
  obtain ⟨f0, f1, f2, f3, f4, f5⟩ := hB
  refine v_aload_n K 0 dX0_topicBits_0 rfl rfl ?_
  refine gf_X0_15 K dX0_topicBits_1 f0 rfl ?_
  refine v_iload_n K 1 dX0_topicBits_4 rfl rfl ?_
  refine v_iald K dX0_topicBits_5 f2 (by omega) (by decide) ?_
  refine cl_X0_50 K dX0_topicBits_6 (c_X5_bitsOf l D cA base pic _) rfl rfl ⟨by decide, by decide⟩ (Nat.le_of_ble_eq_true rfl) ⟨by decide, by decide⟩ (fun x6 pic1 hx2 => ?_)
  obtain ⟨rfl, rfl⟩ := hx2
  refine v_lstore_n K 2 dX0_topicBits_9 rfl (by decide) ?_
  refine v_aload_n K 0 dX0_topicBits_10 rfl rfl ?_
  refine gf_X0_18 K dX0_topicBits_11 f0 rfl ?_
  refine v_iload_n K 1 dX0_topicBits_14 rfl rfl ?_
  refine v_iald K dX0_topicBits_15 f3 (by omega) (by decide) ?_
  refine v_iconst (v := -1) K dX0_topicBits_16 (by decide) ?_
  refine v_icmp_eq K 32 dX0_topicBits_17 (by decide) rfl m1T (fun c17 => ?_) (fun c17 => ?_)
  · refine v_aload_n K 0 dX0_topicBits_32 rfl rfl ?_
    refine gf_X0_21 K dX0_topicBits_33 f0 rfl ?_
    refine v_iload_n K 1 dX0_topicBits_36 rfl rfl ?_
    refine v_iald K dX0_topicBits_37 f4 (by omega) (by decide) ?_
    refine v_iconst (v := -1) K dX0_topicBits_38 (by decide) ?_
    refine v_icmp_eq K 54 dX0_topicBits_39 (by decide) rfl m1T (fun c39 => ?_) (fun c39 => ?_)
    · refine v_lload_n K 2 dX0_topicBits_54 rfl rfl ?_
      exact v_lret K dX0_topicBits_55 hr hlk (by decide) (by decide) (⟨rfl, by simp only [tbF, orO]; repeat (first | rw [if_pos (by omega)] | rw [if_neg (by omega)])⟩)
    · refine v_lload_n K 2 dX0_topicBits_42 rfl rfl ?_
      refine v_aload_n K 0 dX0_topicBits_43 rfl rfl ?_
      refine gf_X0_21 K dX0_topicBits_44 f0 rfl ?_
      refine v_iload_n K 1 dX0_topicBits_47 rfl rfl ?_
      refine v_iald K dX0_topicBits_48 f4 (by omega) (by decide) ?_
      refine cl_X0_50 K dX0_topicBits_49 (c_X5_bitsOf l D cA base pic _) rfl rfl ⟨by decide, by decide⟩ (Nat.le_of_ble_eq_true rfl) ⟨by decide, by decide⟩ (fun x49 pic3 hx4 => ?_)
      obtain ⟨rfl, rfl⟩ := hx4
      refine v_lor K dX0_topicBits_52 ?_
      refine v_lstore_n K 2 dX0_topicBits_53 rfl (by decide) ?_
      refine v_lload_n K 2 dX0_topicBits_54 rfl rfl ?_
      exact v_lret K dX0_topicBits_55 hr hlk (by decide) (by decide) (⟨rfl, by simp only [tbF, orO]; repeat (first | rw [if_pos (by omega)] | rw [if_neg (by omega)])⟩)
  · refine v_lload_n K 2 dX0_topicBits_20 rfl rfl ?_
    refine v_aload_n K 0 dX0_topicBits_21 rfl rfl ?_
    refine gf_X0_18 K dX0_topicBits_22 f0 rfl ?_
    refine v_iload_n K 1 dX0_topicBits_25 rfl rfl ?_
    refine v_iald K dX0_topicBits_26 f3 (by omega) (by decide) ?_
    refine cl_X0_50 K dX0_topicBits_27 (c_X5_bitsOf l D cA base pic _) rfl rfl ⟨by decide, by decide⟩ (Nat.le_of_ble_eq_true rfl) ⟨by decide, by decide⟩ (fun x27 pic5 hx6 => ?_)
    obtain ⟨rfl, rfl⟩ := hx6
    refine v_lor K dX0_topicBits_30 ?_
    refine v_lstore_n K 2 dX0_topicBits_31 rfl (by decide) ?_
    refine v_aload_n K 0 dX0_topicBits_32 rfl rfl ?_
    refine gf_X0_21 K dX0_topicBits_33 f0 rfl ?_
    refine v_iload_n K 1 dX0_topicBits_36 rfl rfl ?_
    refine v_iald K dX0_topicBits_37 f4 (by omega) (by decide) ?_
    refine v_iconst (v := -1) K dX0_topicBits_38 (by decide) ?_
    refine v_icmp_eq K 54 dX0_topicBits_39 (by decide) rfl m1T (fun c39 => ?_) (fun c39 => ?_)
    · refine v_lload_n K 2 dX0_topicBits_54 rfl rfl ?_
      exact v_lret K dX0_topicBits_55 hr hlk (by decide) (by decide) (⟨rfl, by simp only [tbF, orO]; repeat (first | rw [if_pos (by omega)] | rw [if_neg (by omega)])⟩)
    · refine v_lload_n K 2 dX0_topicBits_42 rfl rfl ?_
      refine v_aload_n K 0 dX0_topicBits_43 rfl rfl ?_
      refine gf_X0_21 K dX0_topicBits_44 f0 rfl ?_
      refine v_iload_n K 1 dX0_topicBits_47 rfl rfl ?_
      refine v_iald K dX0_topicBits_48 f4 (by omega) (by decide) ?_
      refine cl_X0_50 K dX0_topicBits_49 (c_X5_bitsOf l D cA base pic _) rfl rfl ⟨by decide, by decide⟩ (Nat.le_of_ble_eq_true rfl) ⟨by decide, by decide⟩ (fun x49 pic7 hx8 => ?_)
      obtain ⟨rfl, rfl⟩ := hx8
      refine v_lor K dX0_topicBits_52 ?_
      refine v_lstore_n K 2 dX0_topicBits_53 rfl (by decide) ?_
      refine v_lload_n K 2 dX0_topicBits_54 rfl rfl ?_
      exact v_lret K dX0_topicBits_55 hr hlk (by decide) (by decide) (⟨rfl, by simp only [tbF, orO]; repeat (first | rw [if_pos (by omega)] | rw [if_neg (by omega)])⟩)

set_option maxHeartbeats 4000000 in
set_option maxRecDepth 100000 in
theorem c_X0_hasEvent (l : Launch) (D : va_G) (cA : Nat → ClassId) (base : Nat) (pic : PIC) (b aB r1 r2 r3 r4 r5 : Nat) (n : Nat) (kept fs : Int32) (rd fb : Int64) (ac t1 t2 t3 : Nat → Int32) (vl : Nat → Int64) (i : Int32) (hB : BlkP pic cA b aB r1 r2 r3 r4 r5 (nI n) kept fs rd fb ac t1 t2 t3 vl) (hn : n ≤ 32)  : CI l yX0_hasEvent cX0_hasEvent 2 (some .boolean) { frames := 0, cells := 0, slots := 0, locals := 0 } 0 0 D cA base pic [.ref aB, .int i] (fun x pic1 => (pic = pic1 ∧ x = 1 ∧ (0 ≤ i.toInt ∧ i.toInt < n)) ∨ (pic = pic1 ∧ x = 0 ∧ ¬ (0 ≤ i.toInt ∧ i.toInt < n))) := by
  refine ofI (by decide) (Nat.le_of_ble_eq_true rfl) ?_
  intro p e s m below meth c K hr hlk hnm
  obtain ⟨f0, f1, f2, f3, f4, f5⟩ := hB
  refine v_iload_n K 1 dX0_hasEvent_0 rfl rfl ?_
  refine v_if_lt K 16 dX0_hasEvent_1 (by decide) rfl (fun c1 => ?_) (fun c1 => ?_)
  · refine v_iconst (v := nI 0) K dX0_hasEvent_16 (by decide) ?_
    exact v_zret K dX0_hasEvent_17 hr (narB (by first | exact isB0 | exact isB1 | assumption)) hlk (by decide) (by decide) (by first | exact (Or.inl ⟨rfl, rfl, by omega, by omega⟩) | exact (Or.inr ⟨rfl, rfl, by omega⟩))
  · refine v_iload_n K 1 dX0_hasEvent_4 rfl rfl ?_
    refine v_aload_n K 0 dX0_hasEvent_5 rfl rfl ?_
    refine gf_X0_32 K dX0_hasEvent_6 f0 rfl ?_
    refine v_icmp_ge K 16 dX0_hasEvent_9 (by decide) rfl (nI_toInt (by omega)) (fun c9 => ?_) (fun c9 => ?_)
    · refine v_iconst (v := nI 0) K dX0_hasEvent_16 (by decide) ?_
      exact v_zret K dX0_hasEvent_17 hr (narB (by first | exact isB0 | exact isB1 | assumption)) hlk (by decide) (by decide) (by first | exact (Or.inl ⟨rfl, rfl, by omega, by omega⟩) | exact (Or.inr ⟨rfl, rfl, by omega⟩))
    · refine v_iconst (v := nI 1) K dX0_hasEvent_12 (by decide) ?_
      refine v_goto K 17 dX0_hasEvent_13 (by decide) ?_
      exact v_zret K dX0_hasEvent_17 hr (narB (by first | exact isB0 | exact isB1 | assumption)) hlk (by decide) (by decide) (by first | exact (Or.inl ⟨rfl, rfl, by omega, by omega⟩) | exact (Or.inr ⟨rfl, rfl, by omega⟩))

set_option maxHeartbeats 4000000 in
set_option maxRecDepth 100000 in
theorem c_X0_detail (l : Launch) (D : va_G) (cA : Nat → ClassId) (base : Nat) (pic : PIC) (b aB r1 r2 r3 r4 r5 : Nat) (n : Nat) (kept fs : Int32) (rd fb : Int64) (ac t1 t2 t3 : Nat → Int32) (vl : Nat → Int64) (k w : Nat) (hB : BlkP pic cA b aB r1 r2 r3 r4 r5 (nI n) kept fs rd fb ac t1 t2 t3 vl) (hk : k < 32) (hw : w ≤ 5)  : CI l yX0_detail cX0_detail 3 (some .int) { frames := 1, cells := 0, slots := 0, locals := 21 } 0 0 D cA base pic [.ref aB, .int (nI k), .int (nI w)] (fun x pic1 => pic = pic1 ∧ x = detF (ac k) (t1 k) (t2 k) (t3 k) fs k w) := by
  refine ofI (by decide) (Nat.le_of_ble_eq_true rfl) ?_
  intro p e s m below meth c K hr hlk hnm
  obtain ⟨f0, f1, f2, f3, f4, f5⟩ := hB
  refine v_iload_n K 2 dX0_detail_0 rfl rfl ?_
  rcases (show w = 5 ∨ w = 0 ∨ w = 1 ∨ w = 2 ∨ w = 3 ∨ w = 4 by omega) with hw5 | rfl | rfl | rfl | rfl | rfl
  · refine v_tableOut K 86 dX0_detail_1 (nI_toInt (by omega)) (by omega) (by decide) ?_
    refine v_aload_n K 0 dX0_detail_86 rfl rfl ?_
    refine gf_X0_36 K dX0_detail_87 f0 rfl ?_
    refine v_iload_n K 1 dX0_detail_90 rfl rfl ?_
    refine v_iadd K dX0_detail_91 ?_
    exact v_iret K dX0_detail_92 hr hlk (by decide) (by decide) (by first | exact (⟨rfl, rfl⟩) | exact (⟨rfl, by subst hw5; rfl⟩))
  · refine v_tableIn K 36 dX0_detail_1 (nI_toInt (n := 0) (by decide)) (by decide) (by decide) rfl (by decide) ?_
    refine v_aload_n K 0 dX0_detail_36 rfl rfl ?_
    refine gf_X0_9 K dX0_detail_37 f0 rfl ?_
    refine v_iload_n K 1 dX0_detail_40 rfl rfl ?_
    refine v_iald K dX0_detail_41 f1 (by omega) (by decide) ?_
    exact v_iret K dX0_detail_42 hr hlk (by decide) (by decide) (by first | exact (⟨rfl, rfl⟩) | exact (⟨rfl, by subst hw5; rfl⟩))
  · refine v_tableIn K 43 dX0_detail_1 (nI_toInt (n := 1) (by decide)) (by decide) (by decide) rfl (by decide) ?_
    refine v_aload_n K 0 dX0_detail_43 rfl rfl ?_
    refine gf_X0_18 K dX0_detail_44 f0 rfl ?_
    refine v_iload_n K 1 dX0_detail_47 rfl rfl ?_
    refine v_iald K dX0_detail_48 f3 (by omega) (by decide) ?_
    refine v_aload_n K 0 dX0_detail_49 rfl rfl ?_
    refine gf_X0_21 K dX0_detail_50 f0 rfl ?_
    refine v_iload_n K 1 dX0_detail_53 rfl rfl ?_
    refine v_iald K dX0_detail_54 f4 (by omega) (by decide) ?_
    refine cl_X0_53 K dX0_detail_55 (c_X5_topicCount l D cA base pic _ _) rfl rfl ⟨by decide, by decide⟩ (Nat.le_of_ble_eq_true rfl) ⟨by decide, by decide⟩ (fun x55 pic1 hx2 => ?_)
    obtain ⟨rfl, rfl⟩ := hx2
    exact v_iret K dX0_detail_58 hr hlk (by decide) (by decide) (by first | exact (⟨rfl, rfl⟩) | exact (⟨rfl, by subst hw5; rfl⟩))
  · refine v_tableIn K 59 dX0_detail_1 (nI_toInt (n := 2) (by decide)) (by decide) (by decide) rfl (by decide) ?_
    refine v_aload_n K 0 dX0_detail_59 rfl rfl ?_
    refine gf_X0_15 K dX0_detail_60 f0 rfl ?_
    refine v_iload_n K 1 dX0_detail_63 rfl rfl ?_
    refine v_iald K dX0_detail_64 f2 (by omega) (by decide) ?_
    exact v_iret K dX0_detail_65 hr hlk (by decide) (by decide) (by first | exact (⟨rfl, rfl⟩) | exact (⟨rfl, by subst hw5; rfl⟩))
  · refine v_tableIn K 66 dX0_detail_1 (nI_toInt (n := 3) (by decide)) (by decide) (by decide) rfl (by decide) ?_
    refine v_aload_n K 0 dX0_detail_66 rfl rfl ?_
    refine gf_X0_18 K dX0_detail_67 f0 rfl ?_
    refine v_iload_n K 1 dX0_detail_70 rfl rfl ?_
    refine v_iald K dX0_detail_71 f3 (by omega) (by decide) ?_
    refine cl_X0_57 K dX0_detail_72 (c_X0_topicOrNone l D cA base pic _) rfl rfl ⟨by decide, by decide⟩ (Nat.le_of_ble_eq_true rfl) ⟨by decide, by decide⟩ (fun x72 pic3 hx4 => ?_)
    obtain ⟨rfl, rfl⟩ := hx4
    exact v_iret K dX0_detail_75 hr hlk (by decide) (by decide) (by first | exact (⟨rfl, rfl⟩) | exact (⟨rfl, by subst hw5; rfl⟩))
  · refine v_tableIn K 76 dX0_detail_1 (nI_toInt (n := 4) (by decide)) (by decide) (by decide) rfl (by decide) ?_
    refine v_aload_n K 0 dX0_detail_76 rfl rfl ?_
    refine gf_X0_21 K dX0_detail_77 f0 rfl ?_
    refine v_iload_n K 1 dX0_detail_80 rfl rfl ?_
    refine v_iald K dX0_detail_81 f4 (by omega) (by decide) ?_
    refine cl_X0_57 K dX0_detail_82 (c_X0_topicOrNone l D cA base pic _) rfl rfl ⟨by decide, by decide⟩ (Nat.le_of_ble_eq_true rfl) ⟨by decide, by decide⟩ (fun x82 pic5 hx6 => ?_)
    obtain ⟨rfl, rfl⟩ := hx6
    exact v_iret K dX0_detail_85 hr hlk (by decide) (by decide) (by first | exact (⟨rfl, rfl⟩) | exact (⟨rfl, by subst hw5; rfl⟩))

set_option maxHeartbeats 4000000 in
set_option maxRecDepth 100000 in
theorem c_X0_hasTopic (l : Launch) (D : va_G) (cA : Nat → ClassId) (base : Nat) (pic : PIC) (b aB r1 r2 r3 r4 r5 : Nat) (n : Nat) (kept fs : Int32) (rd fb : Int64) (ac t1 t2 t3 : Nat → Int32) (vl : Nat → Int64) (k : Nat) (t : Int32) (hB : BlkP pic cA b aB r1 r2 r3 r4 r5 (nI n) kept fs rd fb ac t1 t2 t3 vl) (hk : k < 32)  : CI l yX0_hasTopic cX0_hasTopic 3 (some .boolean) { frames := 0, cells := 0, slots := 0, locals := 0 } 0 0 D cA base pic [.ref aB, .int (nI k), .int t] (fun x pic1 => (pic = pic1 ∧ x = 1 ∧ hasT (t1 k) (t2 k) (t3 k) t) ∨ (pic = pic1 ∧ x = 0 ∧ ¬ hasT (t1 k) (t2 k) (t3 k) t)) := by
  refine ofI (by decide) (Nat.le_of_ble_eq_true rfl) ?_
  intro p e s m below meth c K hr hlk hnm
  obtain ⟨f0, f1, f2, f3, f4, f5⟩ := hB
  refine v_aload_n K 0 dX0_hasTopic_0 rfl rfl ?_
  refine gf_X0_15 K dX0_hasTopic_1 f0 rfl ?_
  refine v_iload_n K 1 dX0_hasTopic_4 rfl rfl ?_
  refine v_iald K dX0_hasTopic_5 f2 (by omega) (by decide) ?_
  refine v_iload_n K 2 dX0_hasTopic_6 rfl rfl ?_
  refine v_icmp_eq K 30 dX0_hasTopic_7 (by decide) rfl rfl (fun c7 => ?_) (fun c7 => ?_)
  · refine v_iconst (v := nI 1) K dX0_hasTopic_30 (by decide) ?_
    refine v_goto K 35 dX0_hasTopic_31 (by decide) ?_
    exact v_zret K dX0_hasTopic_35 hr (narB (by first | exact isB0 | exact isB1 | assumption)) hlk (by decide) (by decide) (by first | exact (Or.inl ⟨rfl, rfl, by unfold hasT; omega⟩) | exact (Or.inr ⟨rfl, rfl, by unfold hasT; omega⟩))
  · refine v_aload_n K 0 dX0_hasTopic_10 rfl rfl ?_
    refine gf_X0_18 K dX0_hasTopic_11 f0 rfl ?_
    refine v_iload_n K 1 dX0_hasTopic_14 rfl rfl ?_
    refine v_iald K dX0_hasTopic_15 f3 (by omega) (by decide) ?_
    refine v_iload_n K 2 dX0_hasTopic_16 rfl rfl ?_
    refine v_icmp_eq K 30 dX0_hasTopic_17 (by decide) rfl rfl (fun c17 => ?_) (fun c17 => ?_)
    · refine v_iconst (v := nI 1) K dX0_hasTopic_30 (by decide) ?_
      refine v_goto K 35 dX0_hasTopic_31 (by decide) ?_
      exact v_zret K dX0_hasTopic_35 hr (narB (by first | exact isB0 | exact isB1 | assumption)) hlk (by decide) (by decide) (by first | exact (Or.inl ⟨rfl, rfl, by unfold hasT; omega⟩) | exact (Or.inr ⟨rfl, rfl, by unfold hasT; omega⟩))
    · refine v_aload_n K 0 dX0_hasTopic_20 rfl rfl ?_
      refine gf_X0_21 K dX0_hasTopic_21 f0 rfl ?_
      refine v_iload_n K 1 dX0_hasTopic_24 rfl rfl ?_
      refine v_iald K dX0_hasTopic_25 f4 (by omega) (by decide) ?_
      refine v_iload_n K 2 dX0_hasTopic_26 rfl rfl ?_
      refine v_icmp_ne K 34 dX0_hasTopic_27 (by decide) rfl rfl (fun c27 => ?_) (fun c27 => ?_)
      · refine v_iconst (v := nI 0) K dX0_hasTopic_34 (by decide) ?_
        exact v_zret K dX0_hasTopic_35 hr (narB (by first | exact isB0 | exact isB1 | assumption)) hlk (by decide) (by decide) (by first | exact (Or.inl ⟨rfl, rfl, by unfold hasT; omega⟩) | exact (Or.inr ⟨rfl, rfl, by unfold hasT; omega⟩))
      · refine v_iconst (v := nI 1) K dX0_hasTopic_30 (by decide) ?_
        refine v_goto K 35 dX0_hasTopic_31 (by decide) ?_
        exact v_zret K dX0_hasTopic_35 hr (narB (by first | exact isB0 | exact isB1 | assumption)) hlk (by decide) (by decide) (by first | exact (Or.inl ⟨rfl, rfl, by unfold hasT; omega⟩) | exact (Or.inr ⟨rfl, rfl, by unfold hasT; omega⟩))

set_option maxHeartbeats 4000000 in
set_option maxRecDepth 100000 in
theorem c_X0_leaf (l : Launch) (D : va_G) (cA : Nat → ClassId) (base : Nat) (pic : PIC) (b aB r1 r2 r3 r4 r5 : Nat) (n : Nat) (kept fs : Int32) (rd fb : Int64) (ac t1 t2 t3 : Nat → Int32) (vl : Nat → Int64) (k : Nat) (hB : BlkP pic cA b aB r1 r2 r3 r4 r5 (nI n) kept fs rd fb ac t1 t2 t3 vl) (hk : k < 32)  : CL l yX0_leaf cX0_leaf 2 (some .long) { frames := 2, cells := 0, slots := 0, locals := 53 } 0 0 D cA base pic [.ref aB, .int (nI k)] (fun x pic1 => pic = pic1 ∧ x = leafF (ac k) (t1 k) (t2 k) (t3 k) (vl k) (nI k)) := by
  refine ofL (by decide) (Nat.le_of_ble_eq_true rfl) ?_
  intro p e s m below meth c K hr hlk hnm
  obtain ⟨f0, f1, f2, f3, f4, f5⟩ := hB
  refine v_aload_n K 0 dX0_leaf_0 rfl rfl ?_
  refine gf_X0_9 K dX0_leaf_1 f0 rfl ?_
  refine v_iload_n K 1 dX0_leaf_4 rfl rfl ?_
  refine v_iald K dX0_leaf_5 f1 (by omega) (by decide) ?_
  refine v_aload_n K 0 dX0_leaf_6 rfl rfl ?_
  refine gf_X0_15 K dX0_leaf_7 f0 rfl ?_
  refine v_iload_n K 1 dX0_leaf_10 rfl rfl ?_
  refine v_iald K dX0_leaf_11 f2 (by omega) (by decide) ?_
  refine v_aload_n K 0 dX0_leaf_12 rfl rfl ?_
  refine gf_X0_18 K dX0_leaf_13 f0 rfl ?_
  refine v_iload_n K 1 dX0_leaf_16 rfl rfl ?_
  refine v_iald K dX0_leaf_17 f3 (by omega) (by decide) ?_
  refine v_aload_n K 0 dX0_leaf_18 rfl rfl ?_
  refine gf_X0_21 K dX0_leaf_19 f0 rfl ?_
  refine v_iload_n K 1 dX0_leaf_22 rfl rfl ?_
  refine v_iald K dX0_leaf_23 f4 (by omega) (by decide) ?_
  refine v_aload_n K 0 dX0_leaf_24 rfl rfl ?_
  refine gf_X0_24 K dX0_leaf_25 f0 rfl ?_
  refine v_iload_n K 1 dX0_leaf_28 rfl rfl ?_
  refine v_lald K dX0_leaf_29 f5 (by omega) (by decide) ?_
  refine v_iload_n K 1 dX0_leaf_30 rfl rfl ?_
  refine cl_X0_65 K dX0_leaf_31 (c_X5_leafOf l D cA base pic _ _ _ _ _ _) rfl rfl ⟨by decide, by decide⟩ (Nat.le_of_ble_eq_true rfl) ⟨by decide, by decide⟩ (fun x31 pic1 hx2 => ?_)
  obtain ⟨rfl, rfl⟩ := hx2
  exact v_lret K dX0_leaf_34 hr hlk (by decide) (by decide) (⟨rfl, rfl⟩)

set_option maxHeartbeats 4000000 in
set_option maxRecDepth 100000 in
theorem l_X0_firstWith {p : Program} {l : Launch} {e : Env} {s : State} {m : MethodId} {args : Array Value} {below : List Frame} {meth : Method} {c : Code} {Q : State → Prop} {D : va_G} {cA : Nat → ClassId} {base : Nat} {cw : Cond} (K : KX p m c cX0_firstWith 4 s args cw RX0 D cA) (pic : PIC) (b aB r1 r2 r3 r4 r5 : Nat) (n : Nat) (kept fs : Int32) (rd fb : Int64) (ac t1 t2 t3 : Nat → Int32) (vl : Nat → Int64) (t : Int32) (f : Nat) (hf : f < 2 ^ 31) (hn : n ≤ 32) (hB : BlkP pic cA b aB r1 r2 r3 r4 r5 (nI n) kept fs rd fb ac t1 t2 t3 vl) (kr : ∀ (x : Int32) (pc : Nat) (lv : LV), decode cX0_firstWith pc = .ok (.ireturn, 1) → ((pic = pic ∧ ∃ j, x = nI j ∧ f ≤ j ∧ j < n ∧ (t.toInt = -1 ∨ hasT (t1 j) (t2 j) (t3 j) t) ∧ ∀ i, f ≤ i → i < j → ¬ (t.toInt = -1 ∨ hasT (t1 i) (t2 i) (t3 i) t)) ∨ (pic = pic ∧ x = -5 ∧ ∀ i, f ≤ i → i < n → ¬ (t.toInt = -1 ∨ hasT (t1 i) (t2 i) (t3 i) t))) → V p l e { frames := 1, cells := 0, slots := 0, locals := 22 } s m args below meth c Q D base 4 pic lv pc [.int x] 0 0) : ∀ (g i : Nat), n - i < g → f ≤ i → i < 2 ^ 31 → (∀ j, f ≤ j → j < i → ¬ (t.toInt = -1 ∨ hasT (t1 j) (t2 j) (t3 j) t)) → V p l e { frames := 1, cells := 0, slots := 0, locals := 22 } s m args below meth c Q D base 4 pic (lvOf [(0, .ref aB), (1, .int t), (3, .int (nI i))]) 2 [] 0 0 := by
  obtain ⟨f0, f1, f2, f3, f4, f5⟩ := hB
  intro g
  induction g with
  | zero => intro i h; omega
  | succ g ih =>
    intro i hg hfi hi31 hno
    refine v_iload_n K 3 dX0_firstWith_2 rfl rfl ?_
    refine v_aload_n K 0 dX0_firstWith_3 rfl rfl ?_
    refine gf_X0_32 K dX0_firstWith_4 f0 rfl ?_
    refine v_icmp_ge K 32 dX0_firstWith_7 (by decide) (nI_toInt (by omega)) (nI_toInt (by omega)) (fun c7 => ?_) (fun c7 => ?_)
    · refine v_bipush (v := -5) K dX0_firstWith_32 (by decide) ?_
      exact kr _ 34 _ dX0_firstWith_34 (by first | exact Or.inl ⟨rfl, i, rfl, hfi, by omega, Or.inl (by omega), hno⟩ | exact Or.inl ⟨rfl, i, rfl, hfi, by omega, Or.inr hp, hno⟩ | exact Or.inr ⟨rfl, rfl, fun j h1 h2 => hno j h1 (by omega)⟩)
    · refine v_iload_n K 1 dX0_firstWith_10 rfl rfl ?_
      refine v_iconst (v := -1) K dX0_firstWith_11 (by decide) ?_
      refine v_icmp_eq K 24 dX0_firstWith_12 (by decide) rfl m1T (fun c12 => ?_) (fun c12 => ?_)
      · refine v_iload_n K 3 dX0_firstWith_24 rfl rfl ?_
        exact kr _ 25 _ dX0_firstWith_25 (by first | exact Or.inl ⟨rfl, i, rfl, hfi, by omega, Or.inl (by omega), hno⟩ | exact Or.inl ⟨rfl, i, rfl, hfi, by omega, Or.inr hp, hno⟩ | exact Or.inr ⟨rfl, rfl, fun j h1 h2 => hno j h1 (by omega)⟩)
      · refine v_aload_n K 0 dX0_firstWith_15 rfl rfl ?_
        refine v_iload_n K 3 dX0_firstWith_16 rfl rfl ?_
        refine v_iload_n K 1 dX0_firstWith_17 rfl rfl ?_
        refine cl_X0_61 K dX0_firstWith_18 f0 (c_X0_hasTopic l D cA base pic b aB r1 r2 r3 r4 r5 n kept fs rd fb ac t1 t2 t3 vl i t ⟨f0, f1, f2, f3, f4, f5⟩ (by omega)) rfl rfl ⟨by decide, by decide⟩ (Nat.le_of_ble_eq_true rfl) ⟨by decide, by decide⟩ (fun x18 pic1 hx2 => ?_)
        rcases hx2 with ⟨rfl, rfl, hp⟩ | ⟨rfl, rfl, hq⟩
        · refine v_if_eq K 26 dX0_firstWith_21 (by decide) rfl (fun c => absurd c (by decide)) (fun _ => ?_)
          refine v_iload_n K 3 dX0_firstWith_24 rfl rfl ?_
          exact kr _ 25 _ dX0_firstWith_25 (by first | exact Or.inl ⟨rfl, i, rfl, hfi, by omega, Or.inl (by omega), hno⟩ | exact Or.inl ⟨rfl, i, rfl, hfi, by omega, Or.inr hp, hno⟩ | exact Or.inr ⟨rfl, rfl, fun j h1 h2 => hno j h1 (by omega)⟩)
        · refine v_if_eq K 26 dX0_firstWith_21 (by decide) rfl (fun _ => ?_) (fun c => absurd c (by decide))
          refine v_iincN K 1 dX0_firstWith_26 rfl (by decide) (by decide) ?_
          refine v_goto K 2 dX0_firstWith_29 (by decide) ?_
          refine v_at [(0, .ref aB), (1, .int t), (3, .int (nI (i + 1)))] (lcons rfl (lcons rfl (lcons rfl (lnil)))) ?_
          exact ih (i + 1) (by omega) (by omega) (by omega) (fun j h1 h2 => by
            by_cases h3 : j < i
            · exact hno j h1 h3
            · have h4 : j = i := by omega
              subst h4
              exact fun h => h.elim (by omega) hq)

set_option maxHeartbeats 4000000 in
set_option maxRecDepth 100000 in
theorem c_X0_firstWith (l : Launch) (D : va_G) (cA : Nat → ClassId) (base : Nat) (pic : PIC) (b aB r1 r2 r3 r4 r5 : Nat) (n : Nat) (kept fs : Int32) (rd fb : Int64) (ac t1 t2 t3 : Nat → Int32) (vl : Nat → Int64) (t : Int32) (f : Nat) (hB : BlkP pic cA b aB r1 r2 r3 r4 r5 (nI n) kept fs rd fb ac t1 t2 t3 vl) (hf : f < 2 ^ 31) (hn : n ≤ 32)  : CI l yX0_firstWith cX0_firstWith 4 (some .int) { frames := 1, cells := 0, slots := 0, locals := 22 } 0 0 D cA base pic [.ref aB, .int t, .int (nI f)] (fun x pic1 => (pic = pic1 ∧ ∃ j, x = nI j ∧ f ≤ j ∧ j < n ∧ (t.toInt = -1 ∨ hasT (t1 j) (t2 j) (t3 j) t) ∧ ∀ i, f ≤ i → i < j → ¬ (t.toInt = -1 ∨ hasT (t1 i) (t2 i) (t3 i) t)) ∨ (pic = pic1 ∧ x = -5 ∧ ∀ i, f ≤ i → i < n → ¬ (t.toInt = -1 ∨ hasT (t1 i) (t2 i) (t3 i) t))) := by
  refine ofI (by decide) (Nat.le_of_ble_eq_true rfl) ?_
  intro p e s m below meth c K hr hlk hnm
  obtain ⟨f0, f1, f2, f3, f4, f5⟩ := hB
  refine v_iload_n K 2 dX0_firstWith_0 rfl rfl ?_
  refine v_istore_n K 3 dX0_firstWith_1 rfl (by decide) ?_
  refine v_at [(0, .ref aB), (1, .int t), (3, .int (nI f))] (lcons rfl (lcons rfl (lcons rfl (lnil)))) ?_
  exact l_X0_firstWith K pic b aB r1 r2 r3 r4 r5 n kept fs rd fb ac t1 t2 t3 vl t f hf hn ⟨f0, f1, f2, f3, f4, f5⟩ (fun x pc lv d h => v_iret K d hr hlk (by decide) (by decide) h) (n - f + 1) f (by omega) (by omega) hf (fun j h1 h2 => absurd h1 (by omega))

set_option maxHeartbeats 4000000 in
set_option maxRecDepth 100000 in
theorem l_X0_seal {p : Program} {l : Launch} {e : Env} {s : State} {m : MethodId} {args : Array Value} {below : List Frame} {meth : Method} {c : Code} {Q : State → Prop} {D : va_G} {cA : Nat → ClassId} {base : Nat} {cw : Cond} (K : KX p m c cX0_seal 5 s args cw RX0 D cA) (b aB r1 r2 r3 r4 r5 : Nat) (n : Nat) (kept fs : Int32) (rd : Int64) (ac t1 t2 t3 : Nat → Int32) (vl : Nat → Int64) (hn : n ≤ 32) (pic0 : PIC) (kx : ∀ pic1 : PIC, BlkP pic1 cA b aB r1 r2 r3 r4 r5 (nI n) kept fs rd (fbF t1 t2 t3 n) ac t1 t2 t3 vl → (∀ q, ¬ (b ≤ q ∧ q < b + 6) → pic1 q = pic0 q) → V p l e { frames := 2, cells := 0, slots := 0, locals := 43 } s m args below meth c Q D base 5 pic1 (lvOf [(0, .ref aB)]) 48 [] 0 0) : ∀ (g i : Nat) (pic : PIC), n - i < g → i ≤ n → BlkP pic cA b aB r1 r2 r3 r4 r5 (nI n) kept fs rd (fbF t1 t2 t3 i) ac t1 t2 t3 vl → (∀ q, ¬ (b ≤ q ∧ q < b + 6) → pic q = pic0 q) → V p l e { frames := 2, cells := 0, slots := 0, locals := 43 } s m args below meth c Q D base 5 pic (lvOf [(0, .ref aB), (4, .int (nI (i)))]) 18 [] 0 0 := by
  intro g
  induction g with
  | zero => intro i pic h; omega
  | succ g ih =>
    intro i pic hg hi hB FR
    obtain ⟨f0, f1, f2, f3, f4, f5⟩ := hB
    refine v_iload K dX0_seal_18 rfl ?_
    refine v_aload_n K 0 dX0_seal_20 rfl rfl ?_
    refine gf_X0_32 K dX0_seal_21 f0 rfl ?_
    refine v_icmp_ge K 48 dX0_seal_24 (by decide) (nI_toInt (by omega)) (nI_toInt (by omega)) (fun c24 => ?_) (fun c24 => ?_)
    · obtain rfl : i = n := by omega
      refine v_at [(0, .ref aB)] (lcons rfl (lnil)) ?_
      exact kx pic ⟨f0, f1, f2, f3, f4, f5⟩ FR
    · refine v_aload_n K 0 dX0_seal_27 rfl rfl ?_
      refine v_dup K dX0_seal_28 rfl ?_
      refine gf_X0_43 K dX0_seal_29 f0 rfl ?_
      refine v_aload_n K 0 dX0_seal_32 rfl rfl ?_
      refine v_iload K dX0_seal_33 rfl ?_
      refine cl_X0_46 K dX0_seal_35 f0 (c_X0_topicBits l D cA base pic b aB r1 r2 r3 r4 r5 n kept fs rd (fbF t1 t2 t3 i) ac t1 t2 t3 vl i ⟨f0, f1, f2, f3, f4, f5⟩ (by omega)) rfl rfl ⟨by decide, by decide⟩ (Nat.le_of_ble_eq_true rfl) ⟨by decide, by decide⟩ (fun x35 pic1 hx2 => ?_)
      obtain ⟨rfl, rfl⟩ := hx2
      refine v_lor K dX0_seal_38 ?_
      refine pf_X0_43 K dX0_seal_39 f0 (Nat.le_of_ble_eq_true rfl) (fun pic5 zg3 zf4 => ?_)
      replace f0 := zg3
      replace f1 := (zf4 _ (by omega)).trans f1
      replace f2 := (zf4 _ (by omega)).trans f2
      replace f3 := (zf4 _ (by omega)).trans f3
      replace f4 := (zf4 _ (by omega)).trans f4
      replace f5 := (zf4 _ (by omega)).trans f5
      have FR : ∀ q, ¬ (b ≤ q ∧ q < b + 6) → pic5 q = pic0 q := fun q hq => (zf4 q (by omega)).trans (FR q hq)
      refine v_iincN K 1 dX0_seal_42 rfl (by decide) (by decide) ?_
      refine v_goto K 18 dX0_seal_45 (by decide) ?_
      refine v_at [(0, .ref aB), (4, .int (nI (i + 1)))] (lcons rfl (lcons rfl (lnil))) ?_
      exact ih (i + 1) pic5 (by omega) (by omega) ⟨f0, f1, f2, f3, f4, f5⟩ FR

set_option maxHeartbeats 4000000 in
set_option maxRecDepth 100000 in
theorem c_X0_seal (l : Launch) (D : va_G) (cA : Nat → ClassId) (base : Nat) (pic : PIC) (b aB r1 r2 r3 r4 r5 : Nat) (n : Nat) (kept fs : Int32) (rd fb : Int64) (ac t1 t2 t3 : Nat → Int32) (vl : Nat → Int64) (xs : Int32) (xr : Int64) (hB : BlkP pic cA b aB r1 r2 r3 r4 r5 (nI n) kept fs rd fb ac t1 t2 t3 vl) (hn : n ≤ 32)  : CV l yX0_seal cX0_seal 5 none { frames := 2, cells := 0, slots := 0, locals := 43 } 0 0 D cA base pic [.ref aB, .int xs, .long xr] (fun pic1 => BlkP pic1 cA b aB r1 r2 r3 r4 r5 (nI n) kept xs xr (fbF t1 t2 t3 n) ac t1 t2 t3 vl ∧ ∀ q, ¬ (b ≤ q ∧ q < b + 6) → pic1 q = pic q) := by
  refine ofV (by decide) (Nat.le_of_ble_eq_true rfl) ?_
  intro p e s m below meth c K hr hlk hnm
  have FR : ∀ q, ¬ (b ≤ q ∧ q < b + 6) → pic q = pic q := fun _ _ => rfl
  obtain ⟨f0, f1, f2, f3, f4, f5⟩ := hB
  refine v_aload_n K 0 dX0_seal_0 rfl rfl ?_
  refine v_iload_n K 1 dX0_seal_1 rfl rfl ?_
  refine pf_X0_36 K dX0_seal_2 f0 (Nat.le_of_ble_eq_true rfl) (fun pic3 zg1 zf2 => ?_)
  replace f0 := zg1
  replace f1 := (zf2 _ (by omega)).trans f1
  replace f2 := (zf2 _ (by omega)).trans f2
  replace f3 := (zf2 _ (by omega)).trans f3
  replace f4 := (zf2 _ (by omega)).trans f4
  replace f5 := (zf2 _ (by omega)).trans f5
  have FR : ∀ q, ¬ (b ≤ q ∧ q < b + 6) → pic3 q = pic q := fun q hq => (zf2 q (by omega)).trans (FR q hq)
  refine v_aload_n K 0 dX0_seal_5 rfl rfl ?_
  refine v_lload_n K 2 dX0_seal_6 rfl rfl ?_
  refine pf_X0_39 K dX0_seal_7 f0 (Nat.le_of_ble_eq_true rfl) (fun pic6 zg4 zf5 => ?_)
  replace f0 := zg4
  replace f1 := (zf5 _ (by omega)).trans f1
  replace f2 := (zf5 _ (by omega)).trans f2
  replace f3 := (zf5 _ (by omega)).trans f3
  replace f4 := (zf5 _ (by omega)).trans f4
  replace f5 := (zf5 _ (by omega)).trans f5
  have FR : ∀ q, ¬ (b ≤ q ∧ q < b + 6) → pic6 q = pic q := fun q hq => (zf5 q (by omega)).trans (FR q hq)
  refine v_aload_n K 0 dX0_seal_10 rfl rfl ?_
  refine v_lconst (v := 0) K dX0_seal_11 (by decide) ?_
  refine pf_X0_43 K dX0_seal_12 f0 (Nat.le_of_ble_eq_true rfl) (fun pic9 zg7 zf8 => ?_)
  replace f0 := zg7
  replace f1 := (zf8 _ (by omega)).trans f1
  replace f2 := (zf8 _ (by omega)).trans f2
  replace f3 := (zf8 _ (by omega)).trans f3
  replace f4 := (zf8 _ (by omega)).trans f4
  replace f5 := (zf8 _ (by omega)).trans f5
  have FR : ∀ q, ¬ (b ≤ q ∧ q < b + 6) → pic9 q = pic q := fun q hq => (zf8 q (by omega)).trans (FR q hq)
  refine v_iconst (v := nI 0) K dX0_seal_15 (by decide) ?_
  refine v_istore K dX0_seal_16 (by decide) ?_
  refine v_at [(0, .ref aB), (4, .int (nI (0)))] (lcons rfl (lcons rfl (lnil))) ?_
  refine l_X0_seal K b aB r1 r2 r3 r4 r5 n kept xs xr ac t1 t2 t3 vl hn pic (fun pic1 h1 h2 => ?_) (n - 0 + 1) 0 pic9 (by omega) (by omega) ⟨f0, f1, f2, f3, f4, f5⟩ FR
  exact v_vret K dX0_seal_48 hr hlk (by decide) (by decide) (⟨h1, h2⟩)

set_option maxHeartbeats 4000000 in
set_option maxRecDepth 100000 in
theorem c_X0_init (l : Launch) (D : va_G) (cA : Nat → ClassId) (base : Nat) (pic : PIC) (b aB : Nat) (f0 : pic b = some (aB, .inr (3, [.null, .null, .null, .null, .null, .int 0, .int 0, .int 0, .long 0, .long 0]))) (hz : ∀ k, 1 ≤ k → k < 6 → pic (b + k) = none)  : CV l yX0_init cX0_init 1 none { frames := 1, cells := 5, slots := 160, locals := 12 } 5 160 D cA base pic [.ref aB] (fun pic1 => (∃ r1 r2 r3 r4 r5, BlkP pic1 cA b aB r1 r2 r3 r4 r5 (nI 0) 1 0 0 0 (fun _ => 0) (fun _ => 0) (fun _ => 0) (fun _ => 0) (fun _ => 0)) ∧ ∀ q, ¬ (b ≤ q ∧ q < b + 6) → pic1 q = pic q) := by
  refine ofV (by decide) (Nat.le_of_ble_eq_true rfl) ?_
  intro p e s m below meth c K hr hlk hnm
  have FR : ∀ q, ¬ (b ≤ q ∧ q < b + 6) → pic q = pic q := fun _ _ => rfl
  have z1 := hz 1 (by omega) (by omega)
  have z2 := hz 2 (by omega) (by omega)
  have z3 := hz 3 (by omega) (by omega)
  have z4 := hz 4 (by omega) (by omega)
  have z5 := hz 5 (by omega) (by omega)
  refine v_aload_n K 0 dX0_init_0 rfl rfl ?_
  refine v_objInit K gw_52 gw_12 gw_13 dX0_init_1 (by decide) (Nat.le_of_ble_eq_true rfl) ?_
  refine v_aload_n K 0 dX0_init_4 rfl rfl ?_
  refine v_bipush (v := nI 32) K dX0_init_5 (by decide) ?_
  refine v_newI K (b + 1) gw_36 dX0_init_7 (z1) (by decide) (by decide) (by decide) (fun r1 pic1 f1 zf2 => ?_)
  replace f0 := (zf2 _ (by omega)).trans f0
  replace z2 := (zf2 _ (by omega)).trans z2
  replace z3 := (zf2 _ (by omega)).trans z3
  replace z4 := (zf2 _ (by omega)).trans z4
  replace z5 := (zf2 _ (by omega)).trans z5
  have FR : ∀ q, ¬ (b ≤ q ∧ q < b + 6) → pic1 q = pic q := fun q hq => (zf2 q (by omega)).trans (FR q hq)
  refine pf_X0_9 K hnm dX0_init_9 f0 (Nat.le_of_ble_eq_true rfl) (fun pic5 zg3 zf4 => ?_)
  replace f0 := zg3
  replace z2 := (zf4 _ (by omega)).trans z2
  replace z3 := (zf4 _ (by omega)).trans z3
  replace z4 := (zf4 _ (by omega)).trans z4
  replace z5 := (zf4 _ (by omega)).trans z5
  replace f1 := (zf4 _ (by omega)).trans f1
  have FR : ∀ q, ¬ (b ≤ q ∧ q < b + 6) → pic5 q = pic q := fun q hq => (zf4 q (by omega)).trans (FR q hq)
  refine v_aload_n K 0 dX0_init_12 rfl rfl ?_
  refine v_bipush (v := nI 32) K dX0_init_13 (by decide) ?_
  refine v_newI K (b + 2) gw_36 dX0_init_15 (z2) (by decide) (by decide) (by decide) (fun r2 pic6 f2 zf7 => ?_)
  replace f0 := (zf7 _ (by omega)).trans f0
  replace z3 := (zf7 _ (by omega)).trans z3
  replace z4 := (zf7 _ (by omega)).trans z4
  replace z5 := (zf7 _ (by omega)).trans z5
  replace f1 := (zf7 _ (by omega)).trans f1
  have FR : ∀ q, ¬ (b ≤ q ∧ q < b + 6) → pic6 q = pic q := fun q hq => (zf7 q (by omega)).trans (FR q hq)
  refine pf_X0_15 K hnm dX0_init_17 f0 (Nat.le_of_ble_eq_true rfl) (fun pic10 zg8 zf9 => ?_)
  replace f0 := zg8
  replace z3 := (zf9 _ (by omega)).trans z3
  replace z4 := (zf9 _ (by omega)).trans z4
  replace z5 := (zf9 _ (by omega)).trans z5
  replace f1 := (zf9 _ (by omega)).trans f1
  replace f2 := (zf9 _ (by omega)).trans f2
  have FR : ∀ q, ¬ (b ≤ q ∧ q < b + 6) → pic10 q = pic q := fun q hq => (zf9 q (by omega)).trans (FR q hq)
  refine v_aload_n K 0 dX0_init_20 rfl rfl ?_
  refine v_bipush (v := nI 32) K dX0_init_21 (by decide) ?_
  refine v_newI K (b + 3) gw_36 dX0_init_23 (z3) (by decide) (by decide) (by decide) (fun r3 pic11 f3 zf12 => ?_)
  replace f0 := (zf12 _ (by omega)).trans f0
  replace z4 := (zf12 _ (by omega)).trans z4
  replace z5 := (zf12 _ (by omega)).trans z5
  replace f1 := (zf12 _ (by omega)).trans f1
  replace f2 := (zf12 _ (by omega)).trans f2
  have FR : ∀ q, ¬ (b ≤ q ∧ q < b + 6) → pic11 q = pic q := fun q hq => (zf12 q (by omega)).trans (FR q hq)
  refine pf_X0_18 K hnm dX0_init_25 f0 (Nat.le_of_ble_eq_true rfl) (fun pic15 zg13 zf14 => ?_)
  replace f0 := zg13
  replace z4 := (zf14 _ (by omega)).trans z4
  replace z5 := (zf14 _ (by omega)).trans z5
  replace f1 := (zf14 _ (by omega)).trans f1
  replace f2 := (zf14 _ (by omega)).trans f2
  replace f3 := (zf14 _ (by omega)).trans f3
  have FR : ∀ q, ¬ (b ≤ q ∧ q < b + 6) → pic15 q = pic q := fun q hq => (zf14 q (by omega)).trans (FR q hq)
  refine v_aload_n K 0 dX0_init_28 rfl rfl ?_
  refine v_bipush (v := nI 32) K dX0_init_29 (by decide) ?_
  refine v_newI K (b + 4) gw_36 dX0_init_31 (z4) (by decide) (by decide) (by decide) (fun r4 pic16 f4 zf17 => ?_)
  replace f0 := (zf17 _ (by omega)).trans f0
  replace z5 := (zf17 _ (by omega)).trans z5
  replace f1 := (zf17 _ (by omega)).trans f1
  replace f2 := (zf17 _ (by omega)).trans f2
  replace f3 := (zf17 _ (by omega)).trans f3
  have FR : ∀ q, ¬ (b ≤ q ∧ q < b + 6) → pic16 q = pic q := fun q hq => (zf17 q (by omega)).trans (FR q hq)
  refine pf_X0_21 K hnm dX0_init_33 f0 (Nat.le_of_ble_eq_true rfl) (fun pic20 zg18 zf19 => ?_)
  replace f0 := zg18
  replace z5 := (zf19 _ (by omega)).trans z5
  replace f1 := (zf19 _ (by omega)).trans f1
  replace f2 := (zf19 _ (by omega)).trans f2
  replace f3 := (zf19 _ (by omega)).trans f3
  replace f4 := (zf19 _ (by omega)).trans f4
  have FR : ∀ q, ¬ (b ≤ q ∧ q < b + 6) → pic20 q = pic q := fun q hq => (zf19 q (by omega)).trans (FR q hq)
  refine v_aload_n K 0 dX0_init_36 rfl rfl ?_
  refine v_bipush (v := nI 32) K dX0_init_37 (by decide) ?_
  refine v_newL K (b + 5) gw_6 dX0_init_39 (z5) (by decide) (by decide) (by decide) (fun r5 pic21 f5 zf22 => ?_)
  replace f0 := (zf22 _ (by omega)).trans f0
  replace f1 := (zf22 _ (by omega)).trans f1
  replace f2 := (zf22 _ (by omega)).trans f2
  replace f3 := (zf22 _ (by omega)).trans f3
  replace f4 := (zf22 _ (by omega)).trans f4
  have FR : ∀ q, ¬ (b ≤ q ∧ q < b + 6) → pic21 q = pic q := fun q hq => (zf22 q (by omega)).trans (FR q hq)
  refine pf_X0_24 K hnm dX0_init_41 f0 (Nat.le_of_ble_eq_true rfl) (fun pic25 zg23 zf24 => ?_)
  replace f0 := zg23
  replace f1 := (zf24 _ (by omega)).trans f1
  replace f2 := (zf24 _ (by omega)).trans f2
  replace f3 := (zf24 _ (by omega)).trans f3
  replace f4 := (zf24 _ (by omega)).trans f4
  replace f5 := (zf24 _ (by omega)).trans f5
  have FR : ∀ q, ¬ (b ≤ q ∧ q < b + 6) → pic25 q = pic q := fun q hq => (zf24 q (by omega)).trans (FR q hq)
  refine v_aload_n K 0 dX0_init_44 rfl rfl ?_
  refine v_iconst (v := nI 1) K dX0_init_45 (by decide) ?_
  refine pf_X0_28 K dX0_init_46 f0 (by first | exact isB0 | exact isB1 | assumption) (Nat.le_of_ble_eq_true rfl) (fun pic28 zg26 zf27 => ?_)
  replace f0 := zg26
  replace f1 := (zf27 _ (by omega)).trans f1
  replace f2 := (zf27 _ (by omega)).trans f2
  replace f3 := (zf27 _ (by omega)).trans f3
  replace f4 := (zf27 _ (by omega)).trans f4
  replace f5 := (zf27 _ (by omega)).trans f5
  have FR : ∀ q, ¬ (b ≤ q ∧ q < b + 6) → pic28 q = pic q := fun q hq => (zf27 q (by omega)).trans (FR q hq)
  exact v_vret K dX0_init_49 hr hlk (by decide) (by decide) (⟨⟨r1, r2, r3, r4, r5, f0, f1, f2, f3, f4, f5⟩, FR⟩)

