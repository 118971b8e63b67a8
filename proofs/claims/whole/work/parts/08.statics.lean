def isTop (t : Int32) : Prop := 0 ≤ t.toInt ∧ t.toInt < 1000
def isTopN (t : Int32) : Prop := -1 ≤ t.toInt ∧ t.toInt < 1000
def evOK (ac a b c : Int32) : Prop := (0 ≤ ac.toInt ∧ ac.toInt < 10) ∧ isTop a ∧ isTopN b ∧ isTopN c ∧ (b.toInt = -1 → c.toInt = -1)
def tcF (b c : Int32) : Int32 := if b.toInt = -1 then nI 1 else if c.toInt = -1 then nI 2 else nI 3
def remF (x y : Int32) : Int32 := x - x / y * y
def bitF (t : Int32) : Int64 := (((1 : Int64) <<< ((remF t (nI 64)).toInt64 &&& 63)) ||| ((1 : Int64) <<< ((remF (nI 7 * t + nI 3) (nI 61)).toInt64 &&& 63))) ||| ((1 : Int64) <<< ((remF (nI 13 * t + nI 5) (nI 59)).toInt64 &&& 63))
def mixP (a b : Int64) : Int64 := (31 * a + b + 7) * -7046029254386353131
def mixF (a b : Int64) : Int64 := mixP a b ^^^ ((mixP a b).toUInt64 >>> ((nI 29).toInt64.toUInt64 &&& Int64.toUInt64 63)).toInt64
def mixO (d : Int64) (t : Int32) : Int64 := if t.toInt = -1 then d else mixF d t.toInt64
def leafF (ac a b c : Int32) (v : Int64) (i : Int32) : Int64 := mixF (mixO (mixO (mixF (mixF ac.toInt64 v) a.toInt64) b) c) i.toInt64
def tonF (t : Int32) : Int32 := if t.toInt = -1 then -5 else t
set_option maxHeartbeats 4000000 in
set_option maxRecDepth 100000 in
theorem c_X5_isTopic (l : Launch) (D : va_G) (cA : Nat → ClassId) (base : Nat) (pic : PIC) (t : Int32)  : CI l yX5_isTopic cX5_isTopic 1 (some .boolean) { frames := 0, cells := 0, slots := 0, locals := 0 } 0 0 D cA base pic [.int t] (fun x pic1 => (pic = pic1 ∧ x = 1 ∧ isTop t) ∨ (pic = pic1 ∧ x = 0 ∧ ¬ (isTop t))) := by
  refine ofI (by decide) (Nat.le_of_ble_eq_true rfl) ?_
  intro p e s m below meth c K hr hlk hnm
  refine v_iload_n K 0 dX5_isTopic_0 rfl rfl ?_
  refine v_if_lt K 15 dX5_isTopic_1 (by decide) rfl (fun c1 => ?_) (fun c1 => ?_)
  · refine v_iconst (v := nI 0) K dX5_isTopic_15 (by decide) ?_
    exact v_zret K dX5_isTopic_16 hr (narB (by first | exact isB0 | exact isB1 | assumption)) hlk (by decide) (by decide) (by first | exact (Or.inl ⟨rfl, rfl, by unfold isTop; omega⟩) | exact (Or.inr ⟨rfl, rfl, by unfold isTop; omega⟩))
  · refine v_iload_n K 0 dX5_isTopic_4 rfl rfl ?_
    refine v_sipush (v := nI 1000) K dX5_isTopic_5 (by decide) ?_
    refine v_icmp_ge K 15 dX5_isTopic_8 (by decide) rfl (nI_toInt (by omega)) (fun c8 => ?_) (fun c8 => ?_)
    · refine v_iconst (v := nI 0) K dX5_isTopic_15 (by decide) ?_
      exact v_zret K dX5_isTopic_16 hr (narB (by first | exact isB0 | exact isB1 | assumption)) hlk (by decide) (by decide) (by first | exact (Or.inl ⟨rfl, rfl, by unfold isTop; omega⟩) | exact (Or.inr ⟨rfl, rfl, by unfold isTop; omega⟩))
    · refine v_iconst (v := nI 1) K dX5_isTopic_11 (by decide) ?_
      refine v_goto K 16 dX5_isTopic_12 (by decide) ?_
      exact v_zret K dX5_isTopic_16 hr (narB (by first | exact isB0 | exact isB1 | assumption)) hlk (by decide) (by decide) (by first | exact (Or.inl ⟨rfl, rfl, by unfold isTop; omega⟩) | exact (Or.inr ⟨rfl, rfl, by unfold isTop; omega⟩))

set_option maxHeartbeats 4000000 in
set_option maxRecDepth 100000 in
theorem c_X5_isTopicOrNone (l : Launch) (D : va_G) (cA : Nat → ClassId) (base : Nat) (pic : PIC) (t : Int32)  : CI l yX5_isTopicOrNone cX5_isTopicOrNone 1 (some .boolean) { frames := 1, cells := 0, slots := 0, locals := 20 } 0 0 D cA base pic [.int t] (fun x pic1 => (pic = pic1 ∧ x = 1 ∧ isTopN t) ∨ (pic = pic1 ∧ x = 0 ∧ ¬ (isTopN t))) := by
  refine ofI (by decide) (Nat.le_of_ble_eq_true rfl) ?_
  intro p e s m below meth c K hr hlk hnm
  refine v_iload_n K 0 dX5_isTopicOrNone_0 rfl rfl ?_
  refine v_iconst (v := -1) K dX5_isTopicOrNone_1 (by decide) ?_
  refine v_icmp_eq K 12 dX5_isTopicOrNone_2 (by decide) rfl m1T (fun c2 => ?_) (fun c2 => ?_)
  · refine v_iconst (v := nI 1) K dX5_isTopicOrNone_12 (by decide) ?_
    refine v_goto K 17 dX5_isTopicOrNone_13 (by decide) ?_
    exact v_zret K dX5_isTopicOrNone_17 hr (narB (by first | exact isB0 | exact isB1 | assumption)) hlk (by decide) (by decide) (by first | exact (Or.inl ⟨rfl, rfl, by unfold isTopN; omega⟩) | exact (Or.inl ⟨rfl, rfl, by unfold isTopN; unfold isTop at hpt; omega⟩) | exact (Or.inr ⟨rfl, rfl, by unfold isTopN; unfold isTop at hqt; omega⟩))
  · refine v_iload_n K 0 dX5_isTopicOrNone_5 rfl rfl ?_
    refine cl_X5_154 K dX5_isTopicOrNone_6 (c_X5_isTopic l D cA base pic t) rfl rfl ⟨by decide, by decide⟩ (Nat.le_of_ble_eq_true rfl) ⟨by decide, by decide⟩ (fun x6 pic1 hx2 => ?_)
    rcases hx2 with ⟨rfl, rfl, hpt⟩ | ⟨rfl, rfl, hqt⟩
    · refine v_if_eq K 16 dX5_isTopicOrNone_9 (by decide) rfl (fun c => absurd c (by decide)) (fun _ => ?_)
      refine v_iconst (v := nI 1) K dX5_isTopicOrNone_12 (by decide) ?_
      refine v_goto K 17 dX5_isTopicOrNone_13 (by decide) ?_
      exact v_zret K dX5_isTopicOrNone_17 hr (narB (by first | exact isB0 | exact isB1 | assumption)) hlk (by decide) (by decide) (by first | exact (Or.inl ⟨rfl, rfl, by unfold isTopN; omega⟩) | exact (Or.inl ⟨rfl, rfl, by unfold isTopN; unfold isTop at hpt; omega⟩) | exact (Or.inr ⟨rfl, rfl, by unfold isTopN; unfold isTop at hqt; omega⟩))
    · refine v_if_eq K 16 dX5_isTopicOrNone_9 (by decide) rfl (fun _ => ?_) (fun c => absurd c (by decide))
      refine v_iconst (v := nI 0) K dX5_isTopicOrNone_16 (by decide) ?_
      exact v_zret K dX5_isTopicOrNone_17 hr (narB (by first | exact isB0 | exact isB1 | assumption)) hlk (by decide) (by decide) (by first | exact (Or.inl ⟨rfl, rfl, by unfold isTopN; omega⟩) | exact (Or.inl ⟨rfl, rfl, by unfold isTopN; unfold isTop at hpt; omega⟩) | exact (Or.inr ⟨rfl, rfl, by unfold isTopN; unfold isTop at hqt; omega⟩))

set_option maxHeartbeats 4000000 in
set_option maxRecDepth 100000 in
theorem c_X5_isEvent (l : Launch) (D : va_G) (cA : Nat → ClassId) (base : Nat) (pic : PIC) (ac a b2 c2 : Int32)  : CI l yX5_isEvent cX5_isEvent 4 (some .boolean) { frames := 2, cells := 0, slots := 0, locals := 40 } 0 0 D cA base pic [.int ac, .int a, .int b2, .int c2] (fun x pic1 => (pic = pic1 ∧ x = 1 ∧ evOK ac a b2 c2) ∨ (pic = pic1 ∧ x = 0 ∧ ¬ (evOK ac a b2 c2))) := by
  refine ofI (by decide) (Nat.le_of_ble_eq_true rfl) ?_
  intro p e s m below meth c K hr hlk hnm
  refine v_iload_n K 0 dX5_isEvent_0 rfl rfl ?_
  refine v_if_lt K 45 dX5_isEvent_1 (by decide) rfl (fun c1 => ?_) (fun c1 => ?_)
  · refine v_iconst (v := nI 0) K dX5_isEvent_45 (by decide) ?_
    exact v_zret K dX5_isEvent_46 hr (narB (by first | exact isB0 | exact isB1 | assumption)) hlk (by decide) (by decide) (by first | exact (Or.inl ⟨rfl, rfl, ⟨by omega, by omega⟩, hpa, hpb2, hpc2, by omega⟩) | exact (Or.inr ⟨rfl, rfl, fun h => absurd h.1 (by omega)⟩) | exact (Or.inr ⟨rfl, rfl, fun h => hqa h.2.1⟩) | exact (Or.inr ⟨rfl, rfl, fun h => hqb2 h.2.2.1⟩) | exact (Or.inr ⟨rfl, rfl, fun h => hqc2 h.2.2.2.1⟩) | exact (Or.inr ⟨rfl, rfl, fun h => absurd h.2.2.2.2 (by omega)⟩))
  · refine v_iload_n K 0 dX5_isEvent_4 rfl rfl ?_
    refine v_bipush (v := nI 10) K dX5_isEvent_5 (by decide) ?_
    refine v_icmp_ge K 45 dX5_isEvent_7 (by decide) rfl (nI_toInt (by omega)) (fun c7 => ?_) (fun c7 => ?_)
    · refine v_iconst (v := nI 0) K dX5_isEvent_45 (by decide) ?_
      exact v_zret K dX5_isEvent_46 hr (narB (by first | exact isB0 | exact isB1 | assumption)) hlk (by decide) (by decide) (by first | exact (Or.inl ⟨rfl, rfl, ⟨by omega, by omega⟩, hpa, hpb2, hpc2, by omega⟩) | exact (Or.inr ⟨rfl, rfl, fun h => absurd h.1 (by omega)⟩) | exact (Or.inr ⟨rfl, rfl, fun h => hqa h.2.1⟩) | exact (Or.inr ⟨rfl, rfl, fun h => hqb2 h.2.2.1⟩) | exact (Or.inr ⟨rfl, rfl, fun h => hqc2 h.2.2.2.1⟩) | exact (Or.inr ⟨rfl, rfl, fun h => absurd h.2.2.2.2 (by omega)⟩))
    · refine v_iload_n K 1 dX5_isEvent_10 rfl rfl ?_
      refine cl_X5_154 K dX5_isEvent_11 (c_X5_isTopic l D cA base pic a) rfl rfl ⟨by decide, by decide⟩ (Nat.le_of_ble_eq_true rfl) ⟨by decide, by decide⟩ (fun x11 pic1 hx2 => ?_)
      rcases hx2 with ⟨rfl, rfl, hpa⟩ | ⟨rfl, rfl, hqa⟩
      · refine v_if_eq K 45 dX5_isEvent_14 (by decide) rfl (fun c => absurd c (by decide)) (fun _ => ?_)
        refine v_iload_n K 2 dX5_isEvent_17 rfl rfl ?_
        refine cl_X5_185 K dX5_isEvent_18 (c_X5_isTopicOrNone l D cA base pic b2) rfl rfl ⟨by decide, by decide⟩ (Nat.le_of_ble_eq_true rfl) ⟨by decide, by decide⟩ (fun x18 pic3 hx4 => ?_)
        rcases hx4 with ⟨rfl, rfl, hpb2⟩ | ⟨rfl, rfl, hqb2⟩
        · refine v_if_eq K 45 dX5_isEvent_21 (by decide) rfl (fun c => absurd c (by decide)) (fun _ => ?_)
          refine v_iload_n K 3 dX5_isEvent_24 rfl rfl ?_
          refine cl_X5_185 K dX5_isEvent_25 (c_X5_isTopicOrNone l D cA base pic c2) rfl rfl ⟨by decide, by decide⟩ (Nat.le_of_ble_eq_true rfl) ⟨by decide, by decide⟩ (fun x25 pic5 hx6 => ?_)
          rcases hx6 with ⟨rfl, rfl, hpc2⟩ | ⟨rfl, rfl, hqc2⟩
          · refine v_if_eq K 45 dX5_isEvent_28 (by decide) rfl (fun c => absurd c (by decide)) (fun _ => ?_)
            refine v_iload_n K 2 dX5_isEvent_31 rfl rfl ?_
            refine v_iconst (v := -1) K dX5_isEvent_32 (by decide) ?_
            refine v_icmp_ne K 41 dX5_isEvent_33 (by decide) rfl m1T (fun c33 => ?_) (fun c33 => ?_)
            · refine v_iconst (v := nI 1) K dX5_isEvent_41 (by decide) ?_
              refine v_goto K 46 dX5_isEvent_42 (by decide) ?_
              exact v_zret K dX5_isEvent_46 hr (narB (by first | exact isB0 | exact isB1 | assumption)) hlk (by decide) (by decide) (by first | exact (Or.inl ⟨rfl, rfl, ⟨by omega, by omega⟩, hpa, hpb2, hpc2, by omega⟩) | exact (Or.inr ⟨rfl, rfl, fun h => absurd h.1 (by omega)⟩) | exact (Or.inr ⟨rfl, rfl, fun h => hqa h.2.1⟩) | exact (Or.inr ⟨rfl, rfl, fun h => hqb2 h.2.2.1⟩) | exact (Or.inr ⟨rfl, rfl, fun h => hqc2 h.2.2.2.1⟩) | exact (Or.inr ⟨rfl, rfl, fun h => absurd h.2.2.2.2 (by omega)⟩))
            · refine v_iload_n K 3 dX5_isEvent_36 rfl rfl ?_
              refine v_iconst (v := -1) K dX5_isEvent_37 (by decide) ?_
              refine v_icmp_ne K 45 dX5_isEvent_38 (by decide) rfl m1T (fun c38 => ?_) (fun c38 => ?_)
              · refine v_iconst (v := nI 0) K dX5_isEvent_45 (by decide) ?_
                exact v_zret K dX5_isEvent_46 hr (narB (by first | exact isB0 | exact isB1 | assumption)) hlk (by decide) (by decide) (by first | exact (Or.inl ⟨rfl, rfl, ⟨by omega, by omega⟩, hpa, hpb2, hpc2, by omega⟩) | exact (Or.inr ⟨rfl, rfl, fun h => absurd h.1 (by omega)⟩) | exact (Or.inr ⟨rfl, rfl, fun h => hqa h.2.1⟩) | exact (Or.inr ⟨rfl, rfl, fun h => hqb2 h.2.2.1⟩) | exact (Or.inr ⟨rfl, rfl, fun h => hqc2 h.2.2.2.1⟩) | exact (Or.inr ⟨rfl, rfl, fun h => absurd h.2.2.2.2 (by omega)⟩))
              · refine v_iconst (v := nI 1) K dX5_isEvent_41 (by decide) ?_
                refine v_goto K 46 dX5_isEvent_42 (by decide) ?_
                exact v_zret K dX5_isEvent_46 hr (narB (by first | exact isB0 | exact isB1 | assumption)) hlk (by decide) (by decide) (by first | exact (Or.inl ⟨rfl, rfl, ⟨by omega, by omega⟩, hpa, hpb2, hpc2, by omega⟩) | exact (Or.inr ⟨rfl, rfl, fun h => absurd h.1 (by omega)⟩) | exact (Or.inr ⟨rfl, rfl, fun h => hqa h.2.1⟩) | exact (Or.inr ⟨rfl, rfl, fun h => hqb2 h.2.2.1⟩) | exact (Or.inr ⟨rfl, rfl, fun h => hqc2 h.2.2.2.1⟩) | exact (Or.inr ⟨rfl, rfl, fun h => absurd h.2.2.2.2 (by omega)⟩))
          · refine v_if_eq K 45 dX5_isEvent_28 (by decide) rfl (fun _ => ?_) (fun c => absurd c (by decide))
            refine v_iconst (v := nI 0) K dX5_isEvent_45 (by decide) ?_
            exact v_zret K dX5_isEvent_46 hr (narB (by first | exact isB0 | exact isB1 | assumption)) hlk (by decide) (by decide) (by first | exact (Or.inl ⟨rfl, rfl, ⟨by omega, by omega⟩, hpa, hpb2, hpc2, by omega⟩) | exact (Or.inr ⟨rfl, rfl, fun h => absurd h.1 (by omega)⟩) | exact (Or.inr ⟨rfl, rfl, fun h => hqa h.2.1⟩) | exact (Or.inr ⟨rfl, rfl, fun h => hqb2 h.2.2.1⟩) | exact (Or.inr ⟨rfl, rfl, fun h => hqc2 h.2.2.2.1⟩) | exact (Or.inr ⟨rfl, rfl, fun h => absurd h.2.2.2.2 (by omega)⟩))
        · refine v_if_eq K 45 dX5_isEvent_21 (by decide) rfl (fun _ => ?_) (fun c => absurd c (by decide))
          refine v_iconst (v := nI 0) K dX5_isEvent_45 (by decide) ?_
          exact v_zret K dX5_isEvent_46 hr (narB (by first | exact isB0 | exact isB1 | assumption)) hlk (by decide) (by decide) (by first | exact (Or.inl ⟨rfl, rfl, ⟨by omega, by omega⟩, hpa, hpb2, hpc2, by omega⟩) | exact (Or.inr ⟨rfl, rfl, fun h => absurd h.1 (by omega)⟩) | exact (Or.inr ⟨rfl, rfl, fun h => hqa h.2.1⟩) | exact (Or.inr ⟨rfl, rfl, fun h => hqb2 h.2.2.1⟩) | exact (Or.inr ⟨rfl, rfl, fun h => hqc2 h.2.2.2.1⟩) | exact (Or.inr ⟨rfl, rfl, fun h => absurd h.2.2.2.2 (by omega)⟩))
      · refine v_if_eq K 45 dX5_isEvent_14 (by decide) rfl (fun _ => ?_) (fun c => absurd c (by decide))
        refine v_iconst (v := nI 0) K dX5_isEvent_45 (by decide) ?_
        exact v_zret K dX5_isEvent_46 hr (narB (by first | exact isB0 | exact isB1 | assumption)) hlk (by decide) (by decide) (by first | exact (Or.inl ⟨rfl, rfl, ⟨by omega, by omega⟩, hpa, hpb2, hpc2, by omega⟩) | exact (Or.inr ⟨rfl, rfl, fun h => absurd h.1 (by omega)⟩) | exact (Or.inr ⟨rfl, rfl, fun h => hqa h.2.1⟩) | exact (Or.inr ⟨rfl, rfl, fun h => hqb2 h.2.2.1⟩) | exact (Or.inr ⟨rfl, rfl, fun h => hqc2 h.2.2.2.1⟩) | exact (Or.inr ⟨rfl, rfl, fun h => absurd h.2.2.2.2 (by omega)⟩))

set_option maxHeartbeats 4000000 in
set_option maxRecDepth 100000 in
theorem c_X5_topicCount (l : Launch) (D : va_G) (cA : Nat → ClassId) (base : Nat) (pic : PIC) (b2 c2 : Int32)  : CI l yX5_topicCount cX5_topicCount 2 (some .int) { frames := 0, cells := 0, slots := 0, locals := 0 } 0 0 D cA base pic [.int b2, .int c2] (fun x pic1 => pic = pic1 ∧ x = tcF b2 c2) := by
  refine ofI (by decide) (Nat.le_of_ble_eq_true rfl) ?_
  intro p e s m below meth c K hr hlk hnm
  refine v_iload_n K 0 dX5_topicCount_0 rfl rfl ?_
  refine v_iconst (v := -1) K dX5_topicCount_1 (by decide) ?_
  refine v_icmp_ne K 7 dX5_topicCount_2 (by decide) rfl m1T (fun c2 => ?_) (fun c2 => ?_)
  · refine v_iload_n K 1 dX5_topicCount_7 rfl rfl ?_
    refine v_iconst (v := -1) K dX5_topicCount_8 (by decide) ?_
    refine v_icmp_ne K 16 dX5_topicCount_9 (by decide) rfl m1T (fun c9 => ?_) (fun c9 => ?_)
    · refine v_iconst (v := nI 3) K dX5_topicCount_16 (by decide) ?_
      exact v_iret K dX5_topicCount_17 hr hlk (by decide) (by decide) (by first | exact (⟨rfl, by rw [tcF, if_pos (by omega)]⟩) | exact (⟨rfl, by rw [tcF, if_neg (by omega), if_pos (by omega)]⟩) | exact (⟨rfl, by rw [tcF, if_neg (by omega), if_neg (by omega)]⟩))
    · refine v_iconst (v := nI 2) K dX5_topicCount_12 (by decide) ?_
      refine v_goto K 17 dX5_topicCount_13 (by decide) ?_
      exact v_iret K dX5_topicCount_17 hr hlk (by decide) (by decide) (by first | exact (⟨rfl, by rw [tcF, if_pos (by omega)]⟩) | exact (⟨rfl, by rw [tcF, if_neg (by omega), if_pos (by omega)]⟩) | exact (⟨rfl, by rw [tcF, if_neg (by omega), if_neg (by omega)]⟩))
  · refine v_iconst (v := nI 1) K dX5_topicCount_5 (by decide) ?_
    exact v_iret K dX5_topicCount_6 hr hlk (by decide) (by decide) (by first | exact (⟨rfl, by rw [tcF, if_pos (by omega)]⟩) | exact (⟨rfl, by rw [tcF, if_neg (by omega), if_pos (by omega)]⟩) | exact (⟨rfl, by rw [tcF, if_neg (by omega), if_neg (by omega)]⟩))

set_option maxHeartbeats 4000000 in
set_option maxRecDepth 100000 in
theorem c_X5_bitsOf (l : Launch) (D : va_G) (cA : Nat → ClassId) (base : Nat) (pic : PIC) (t : Int32)  : CL l yX5_bitsOf cX5_bitsOf 1 (some .long) { frames := 0, cells := 0, slots := 0, locals := 0 } 0 0 D cA base pic [.int t] (fun x pic1 => pic = pic1 ∧ x = bitF t) := by
  refine ofL (by decide) (Nat.le_of_ble_eq_true rfl) ?_
  intro p e s m below meth c K hr hlk hnm
  refine v_lconst (v := 1) K dX5_bitsOf_0 (by decide) ?_
  refine v_iload_n K 0 dX5_bitsOf_1 rfl rfl ?_
  refine v_bipush (v := nI 64) K dX5_bitsOf_2 (by decide) ?_
  refine v_irem K dX5_bitsOf_4 (by decide) ?_
  refine v_lshl K dX5_bitsOf_5 ?_
  refine v_lconst (v := 1) K dX5_bitsOf_6 (by decide) ?_
  refine v_bipush (v := nI 7) K dX5_bitsOf_7 (by decide) ?_
  refine v_iload_n K 0 dX5_bitsOf_9 rfl rfl ?_
  refine v_imul K dX5_bitsOf_10 ?_
  refine v_iconst (v := nI 3) K dX5_bitsOf_11 (by decide) ?_
  refine v_iadd K dX5_bitsOf_12 ?_
  refine v_bipush (v := nI 61) K dX5_bitsOf_13 (by decide) ?_
  refine v_irem K dX5_bitsOf_15 (by decide) ?_
  refine v_lshl K dX5_bitsOf_16 ?_
  refine v_lor K dX5_bitsOf_17 ?_
  refine v_lconst (v := 1) K dX5_bitsOf_18 (by decide) ?_
  refine v_bipush (v := nI 13) K dX5_bitsOf_19 (by decide) ?_
  refine v_iload_n K 0 dX5_bitsOf_21 rfl rfl ?_
  refine v_imul K dX5_bitsOf_22 ?_
  refine v_iconst (v := nI 5) K dX5_bitsOf_23 (by decide) ?_
  refine v_iadd K dX5_bitsOf_24 ?_
  refine v_bipush (v := nI 59) K dX5_bitsOf_25 (by decide) ?_
  refine v_irem K dX5_bitsOf_27 (by decide) ?_
  refine v_lshl K dX5_bitsOf_28 ?_
  refine v_lor K dX5_bitsOf_29 ?_
  exact v_lret K dX5_bitsOf_30 hr hlk (by decide) (by decide) (⟨rfl, rfl⟩)

set_option maxHeartbeats 4000000 in
set_option maxRecDepth 100000 in
theorem c_X5_mix (l : Launch) (D : va_G) (cA : Nat → ClassId) (base : Nat) (pic : PIC) (a b2 : Int64)  : CL l yX5_mix cX5_mix 6 (some .long) { frames := 0, cells := 0, slots := 0, locals := 0 } 0 0 D cA base pic [.long a, .long b2] (fun x pic1 => pic = pic1 ∧ x = mixF a b2) := by
  refine ofL (by decide) (Nat.le_of_ble_eq_true rfl) ?_
  intro p e s m below meth c K hr hlk hnm
  refine v_ldc2 K gw_220 dX5_mix_0 ?_
  refine v_lload_n K 0 dX5_mix_3 rfl rfl ?_
  refine v_lmul K dX5_mix_4 ?_
  refine v_lload_n K 2 dX5_mix_5 rfl rfl ?_
  refine v_ladd K dX5_mix_6 ?_
  refine v_ldc2 K gw_221 dX5_mix_7 ?_
  refine v_ladd K dX5_mix_10 ?_
  refine v_ldc2 K gw_222 dX5_mix_11 ?_
  refine v_lmul K dX5_mix_14 ?_
  refine v_lstore K dX5_mix_15 (by decide) ?_
  refine v_lload K dX5_mix_17 rfl ?_
  refine v_lload K dX5_mix_19 rfl ?_
  refine v_bipush (v := nI 29) K dX5_mix_21 (by decide) ?_
  refine v_lushr K dX5_mix_23 ?_
  refine v_lxor K dX5_mix_24 ?_
  exact v_lret K dX5_mix_25 hr hlk (by decide) (by decide) (⟨rfl, rfl⟩)

set_option maxHeartbeats 4000000 in
set_option maxRecDepth 100000 in
theorem c_X6_bitsOf (l : Launch) (D : va_G) (cA : Nat → ClassId) (base : Nat) (pic : PIC) (t : Int32)  : CL l yX6_bitsOf cX6_bitsOf 1 (some .long) { frames := 0, cells := 0, slots := 0, locals := 0 } 0 0 D cA base pic [.int t] (fun x pic1 => pic = pic1 ∧ x = bitF t) := by
  refine ofL (by decide) (Nat.le_of_ble_eq_true rfl) ?_
  intro p e s m below meth c K hr hlk hnm
  refine v_lconst (v := 1) K dX6_bitsOf_0 (by decide) ?_
  refine v_iload_n K 0 dX6_bitsOf_1 rfl rfl ?_
  refine v_bipush (v := nI 64) K dX6_bitsOf_2 (by decide) ?_
  refine v_irem K dX6_bitsOf_4 (by decide) ?_
  refine v_lshl K dX6_bitsOf_5 ?_
  refine v_lconst (v := 1) K dX6_bitsOf_6 (by decide) ?_
  refine v_bipush (v := nI 7) K dX6_bitsOf_7 (by decide) ?_
  refine v_iload_n K 0 dX6_bitsOf_9 rfl rfl ?_
  refine v_imul K dX6_bitsOf_10 ?_
  refine v_iconst (v := nI 3) K dX6_bitsOf_11 (by decide) ?_
  refine v_iadd K dX6_bitsOf_12 ?_
  refine v_bipush (v := nI 61) K dX6_bitsOf_13 (by decide) ?_
  refine v_irem K dX6_bitsOf_15 (by decide) ?_
  refine v_lshl K dX6_bitsOf_16 ?_
  refine v_lor K dX6_bitsOf_17 ?_
  refine v_lconst (v := 1) K dX6_bitsOf_18 (by decide) ?_
  refine v_bipush (v := nI 13) K dX6_bitsOf_19 (by decide) ?_
  refine v_iload_n K 0 dX6_bitsOf_21 rfl rfl ?_
  refine v_imul K dX6_bitsOf_22 ?_
  refine v_iconst (v := nI 5) K dX6_bitsOf_23 (by decide) ?_
  refine v_iadd K dX6_bitsOf_24 ?_
  refine v_bipush (v := nI 59) K dX6_bitsOf_25 (by decide) ?_
  refine v_irem K dX6_bitsOf_27 (by decide) ?_
  refine v_lshl K dX6_bitsOf_28 ?_
  refine v_lor K dX6_bitsOf_29 ?_
  exact v_lret K dX6_bitsOf_30 hr hlk (by decide) (by decide) (⟨rfl, rfl⟩)

set_option maxHeartbeats 4000000 in
set_option maxRecDepth 100000 in
theorem c_X6_mix (l : Launch) (D : va_G) (cA : Nat → ClassId) (base : Nat) (pic : PIC) (a b2 : Int64)  : CL l yX6_mix cX6_mix 6 (some .long) { frames := 0, cells := 0, slots := 0, locals := 0 } 0 0 D cA base pic [.long a, .long b2] (fun x pic1 => pic = pic1 ∧ x = mixF a b2) := by
  refine ofL (by decide) (Nat.le_of_ble_eq_true rfl) ?_
  intro p e s m below meth c K hr hlk hnm
  refine v_ldc2 K gw_261 dX6_mix_0 ?_
  refine v_lload_n K 0 dX6_mix_3 rfl rfl ?_
  refine v_lmul K dX6_mix_4 ?_
  refine v_lload_n K 2 dX6_mix_5 rfl rfl ?_
  refine v_ladd K dX6_mix_6 ?_
  refine v_ldc2 K gw_262 dX6_mix_7 ?_
  refine v_ladd K dX6_mix_10 ?_
  refine v_ldc2 K gw_263 dX6_mix_11 ?_
  refine v_lmul K dX6_mix_14 ?_
  refine v_lstore K dX6_mix_15 (by decide) ?_
  refine v_lload K dX6_mix_17 rfl ?_
  refine v_lload K dX6_mix_19 rfl ?_
  refine v_bipush (v := nI 29) K dX6_mix_21 (by decide) ?_
  refine v_lushr K dX6_mix_23 ?_
  refine v_lxor K dX6_mix_24 ?_
  exact v_lret K dX6_mix_25 hr hlk (by decide) (by decide) (⟨rfl, rfl⟩)

set_option maxHeartbeats 4000000 in
set_option maxRecDepth 100000 in
theorem c_X5_leafOf (l : Launch) (D : va_G) (cA : Nat → ClassId) (base : Nat) (pic : PIC) (ac a b2 c2 : Int32) (v : Int64) (i : Int32)  : CL l yX5_leafOf cX5_leafOf 9 (some .long) { frames := 1, cells := 0, slots := 0, locals := 25 } 0 0 D cA base pic [.int ac, .int a, .int b2, .int c2, .long v, .int i] (fun x pic1 => pic = pic1 ∧ x = leafF ac a b2 c2 v i) := by
  refine ofL (by decide) (Nat.le_of_ble_eq_true rfl) ?_
  intro p e s m below meth c K hr hlk hnm
  refine v_iload_n K 0 dX5_leafOf_0 rfl rfl ?_
  refine v_i2l K dX5_leafOf_1 ?_
  refine v_lload K dX5_leafOf_2 rfl ?_
  refine cl_X5_223 K dX5_leafOf_4 (c_X5_mix l D cA base pic _ _) rfl rfl ⟨by decide, by decide⟩ (Nat.le_of_ble_eq_true rfl) ⟨by decide, by decide⟩ (fun x4 pic1 hx2 => ?_)
  obtain ⟨rfl, rfl⟩ := hx2
  refine v_iload_n K 1 dX5_leafOf_7 rfl rfl ?_
  refine v_i2l K dX5_leafOf_8 ?_
  refine cl_X5_223 K dX5_leafOf_9 (c_X5_mix l D cA base pic _ _) rfl rfl ⟨by decide, by decide⟩ (Nat.le_of_ble_eq_true rfl) ⟨by decide, by decide⟩ (fun x9 pic3 hx4 => ?_)
  obtain ⟨rfl, rfl⟩ := hx4
  refine v_lstore K dX5_leafOf_12 (by decide) ?_
  refine v_iload_n K 2 dX5_leafOf_14 rfl rfl ?_
  refine v_iconst (v := -1) K dX5_leafOf_15 (by decide) ?_
  refine v_icmp_eq K 28 dX5_leafOf_16 (by decide) rfl m1T (fun c16 => ?_) (fun c16 => ?_)
  · refine v_iload_n K 3 dX5_leafOf_28 rfl rfl ?_
    refine v_iconst (v := -1) K dX5_leafOf_29 (by decide) ?_
    refine v_icmp_eq K 42 dX5_leafOf_30 (by decide) rfl m1T (fun c30 => ?_) (fun c30 => ?_)
    · refine v_lload K dX5_leafOf_42 rfl ?_
      refine v_iload K dX5_leafOf_44 rfl ?_
      refine v_i2l K dX5_leafOf_46 ?_
      refine cl_X5_223 K dX5_leafOf_47 (c_X5_mix l D cA base pic _ _) rfl rfl ⟨by decide, by decide⟩ (Nat.le_of_ble_eq_true rfl) ⟨by decide, by decide⟩ (fun x47 pic5 hx6 => ?_)
      obtain ⟨rfl, rfl⟩ := hx6
      exact v_lret K dX5_leafOf_50 hr hlk (by decide) (by decide) (⟨rfl, by simp only [leafF, mixO]; repeat (first | rw [if_pos (by omega)] | rw [if_neg (by omega)])⟩)
    · refine v_lload K dX5_leafOf_33 rfl ?_
      refine v_iload_n K 3 dX5_leafOf_35 rfl rfl ?_
      refine v_i2l K dX5_leafOf_36 ?_
      refine cl_X5_223 K dX5_leafOf_37 (c_X5_mix l D cA base pic _ _) rfl rfl ⟨by decide, by decide⟩ (Nat.le_of_ble_eq_true rfl) ⟨by decide, by decide⟩ (fun x37 pic7 hx8 => ?_)
      obtain ⟨rfl, rfl⟩ := hx8
      refine v_lstore K dX5_leafOf_40 (by decide) ?_
      refine v_lload K dX5_leafOf_42 rfl ?_
      refine v_iload K dX5_leafOf_44 rfl ?_
      refine v_i2l K dX5_leafOf_46 ?_
      refine cl_X5_223 K dX5_leafOf_47 (c_X5_mix l D cA base pic _ _) rfl rfl ⟨by decide, by decide⟩ (Nat.le_of_ble_eq_true rfl) ⟨by decide, by decide⟩ (fun x47 pic9 hx10 => ?_)
      obtain ⟨rfl, rfl⟩ := hx10
      exact v_lret K dX5_leafOf_50 hr hlk (by decide) (by decide) (⟨rfl, by simp only [leafF, mixO]; repeat (first | rw [if_pos (by omega)] | rw [if_neg (by omega)])⟩)
  · refine v_lload K dX5_leafOf_19 rfl ?_
    refine v_iload_n K 2 dX5_leafOf_21 rfl rfl ?_
    refine v_i2l K dX5_leafOf_22 ?_
    refine cl_X5_223 K dX5_leafOf_23 (c_X5_mix l D cA base pic _ _) rfl rfl ⟨by decide, by decide⟩ (Nat.le_of_ble_eq_true rfl) ⟨by decide, by decide⟩ (fun x23 pic11 hx12 => ?_)
    obtain ⟨rfl, rfl⟩ := hx12
    refine v_lstore K dX5_leafOf_26 (by decide) ?_
    refine v_iload_n K 3 dX5_leafOf_28 rfl rfl ?_
    refine v_iconst (v := -1) K dX5_leafOf_29 (by decide) ?_
    refine v_icmp_eq K 42 dX5_leafOf_30 (by decide) rfl m1T (fun c30 => ?_) (fun c30 => ?_)
    · refine v_lload K dX5_leafOf_42 rfl ?_
      refine v_iload K dX5_leafOf_44 rfl ?_
      refine v_i2l K dX5_leafOf_46 ?_
      refine cl_X5_223 K dX5_leafOf_47 (c_X5_mix l D cA base pic _ _) rfl rfl ⟨by decide, by decide⟩ (Nat.le_of_ble_eq_true rfl) ⟨by decide, by decide⟩ (fun x47 pic13 hx14 => ?_)
      obtain ⟨rfl, rfl⟩ := hx14
      exact v_lret K dX5_leafOf_50 hr hlk (by decide) (by decide) (⟨rfl, by simp only [leafF, mixO]; repeat (first | rw [if_pos (by omega)] | rw [if_neg (by omega)])⟩)
    · refine v_lload K dX5_leafOf_33 rfl ?_
      refine v_iload_n K 3 dX5_leafOf_35 rfl rfl ?_
      refine v_i2l K dX5_leafOf_36 ?_
      refine cl_X5_223 K dX5_leafOf_37 (c_X5_mix l D cA base pic _ _) rfl rfl ⟨by decide, by decide⟩ (Nat.le_of_ble_eq_true rfl) ⟨by decide, by decide⟩ (fun x37 pic15 hx16 => ?_)
      obtain ⟨rfl, rfl⟩ := hx16
      refine v_lstore K dX5_leafOf_40 (by decide) ?_
      refine v_lload K dX5_leafOf_42 rfl ?_
      refine v_iload K dX5_leafOf_44 rfl ?_
      refine v_i2l K dX5_leafOf_46 ?_
      refine cl_X5_223 K dX5_leafOf_47 (c_X5_mix l D cA base pic _ _) rfl rfl ⟨by decide, by decide⟩ (Nat.le_of_ble_eq_true rfl) ⟨by decide, by decide⟩ (fun x47 pic17 hx18 => ?_)
      obtain ⟨rfl, rfl⟩ := hx18
      exact v_lret K dX5_leafOf_50 hr hlk (by decide) (by decide) (⟨rfl, by simp only [leafF, mixO]; repeat (first | rw [if_pos (by omega)] | rw [if_neg (by omega)])⟩)

set_option maxHeartbeats 4000000 in
set_option maxRecDepth 100000 in
theorem c_X6_leaf (l : Launch) (D : va_G) (cA : Nat → ClassId) (base : Nat) (pic : PIC) (ac a b2 c2 : Int32) (v : Int64) (i : Int32) (hb2 : -1 ≤ b2.toInt) (hc2 : -1 ≤ c2.toInt)  : CL l yX6_leaf cX6_leaf 9 (some .long) { frames := 1, cells := 0, slots := 0, locals := 25 } 0 0 D cA base pic [.int ac, .int a, .int b2, .int c2, .long v, .int i] (fun x pic1 => pic = pic1 ∧ x = leafF ac a b2 c2 v i) := by
  refine ofL (by decide) (Nat.le_of_ble_eq_true rfl) ?_
  intro p e s m below meth c K hr hlk hnm
  refine v_iload_n K 0 dX6_leaf_0 rfl rfl ?_
  refine v_i2l K dX6_leaf_1 ?_
  refine v_lload K dX6_leaf_2 rfl ?_
  refine cl_X6_114 K dX6_leaf_4 (c_X6_mix l D cA base pic _ _) rfl rfl ⟨by decide, by decide⟩ (Nat.le_of_ble_eq_true rfl) ⟨by decide, by decide⟩ (fun x4 pic1 hx2 => ?_)
  obtain ⟨rfl, rfl⟩ := hx2
  refine v_iload_n K 1 dX6_leaf_7 rfl rfl ?_
  refine v_i2l K dX6_leaf_8 ?_
  refine cl_X6_114 K dX6_leaf_9 (c_X6_mix l D cA base pic _ _) rfl rfl ⟨by decide, by decide⟩ (Nat.le_of_ble_eq_true rfl) ⟨by decide, by decide⟩ (fun x9 pic3 hx4 => ?_)
  obtain ⟨rfl, rfl⟩ := hx4
  refine v_lstore K dX6_leaf_12 (by decide) ?_
  refine v_iload_n K 2 dX6_leaf_14 rfl rfl ?_
  refine v_if_ge K 23 dX6_leaf_15 (by decide) rfl (fun c15 => ?_) (fun c15 => ?_)
  · refine v_lload K dX6_leaf_23 rfl ?_
    refine v_iload_n K 2 dX6_leaf_25 rfl rfl ?_
    refine v_i2l K dX6_leaf_26 ?_
    refine cl_X6_114 K dX6_leaf_27 (c_X6_mix l D cA base pic _ _) rfl rfl ⟨by decide, by decide⟩ (Nat.le_of_ble_eq_true rfl) ⟨by decide, by decide⟩ (fun x27 pic5 hx6 => ?_)
    obtain ⟨rfl, rfl⟩ := hx6
    refine v_lstore K dX6_leaf_30 (by decide) ?_
    refine v_iload_n K 3 dX6_leaf_32 rfl rfl ?_
    refine v_if_ge K 41 dX6_leaf_33 (by decide) rfl (fun c33 => ?_) (fun c33 => ?_)
    · refine v_lload K dX6_leaf_41 rfl ?_
      refine v_iload_n K 3 dX6_leaf_43 rfl rfl ?_
      refine v_i2l K dX6_leaf_44 ?_
      refine cl_X6_114 K dX6_leaf_45 (c_X6_mix l D cA base pic _ _) rfl rfl ⟨by decide, by decide⟩ (Nat.le_of_ble_eq_true rfl) ⟨by decide, by decide⟩ (fun x45 pic7 hx8 => ?_)
      obtain ⟨rfl, rfl⟩ := hx8
      refine v_lstore K dX6_leaf_48 (by decide) ?_
      refine v_lload K dX6_leaf_50 rfl ?_
      refine v_iload K dX6_leaf_52 rfl ?_
      refine v_i2l K dX6_leaf_54 ?_
      refine cl_X6_114 K dX6_leaf_55 (c_X6_mix l D cA base pic _ _) rfl rfl ⟨by decide, by decide⟩ (Nat.le_of_ble_eq_true rfl) ⟨by decide, by decide⟩ (fun x55 pic9 hx10 => ?_)
      obtain ⟨rfl, rfl⟩ := hx10
      exact v_lret K dX6_leaf_58 hr hlk (by decide) (by decide) (⟨rfl, by simp only [leafF, mixO]; repeat (first | rw [if_pos (by omega)] | rw [if_neg (by omega)])⟩)
    · refine v_lload K dX6_leaf_36 rfl ?_
      refine v_goto K 48 dX6_leaf_38 (by decide) ?_
      refine v_lstore K dX6_leaf_48 (by decide) ?_
      refine v_lload K dX6_leaf_50 rfl ?_
      refine v_iload K dX6_leaf_52 rfl ?_
      refine v_i2l K dX6_leaf_54 ?_
      refine cl_X6_114 K dX6_leaf_55 (c_X6_mix l D cA base pic _ _) rfl rfl ⟨by decide, by decide⟩ (Nat.le_of_ble_eq_true rfl) ⟨by decide, by decide⟩ (fun x55 pic11 hx12 => ?_)
      obtain ⟨rfl, rfl⟩ := hx12
      exact v_lret K dX6_leaf_58 hr hlk (by decide) (by decide) (⟨rfl, by simp only [leafF, mixO]; repeat (first | rw [if_pos (by omega)] | rw [if_neg (by omega)])⟩)
  · refine v_lload K dX6_leaf_18 rfl ?_
    refine v_goto K 30 dX6_leaf_20 (by decide) ?_
    refine v_lstore K dX6_leaf_30 (by decide) ?_
    refine v_iload_n K 3 dX6_leaf_32 rfl rfl ?_
    refine v_if_ge K 41 dX6_leaf_33 (by decide) rfl (fun c33 => ?_) (fun c33 => ?_)
    · refine v_lload K dX6_leaf_41 rfl ?_
      refine v_iload_n K 3 dX6_leaf_43 rfl rfl ?_
      refine v_i2l K dX6_leaf_44 ?_
      refine cl_X6_114 K dX6_leaf_45 (c_X6_mix l D cA base pic _ _) rfl rfl ⟨by decide, by decide⟩ (Nat.le_of_ble_eq_true rfl) ⟨by decide, by decide⟩ (fun x45 pic13 hx14 => ?_)
      obtain ⟨rfl, rfl⟩ := hx14
      refine v_lstore K dX6_leaf_48 (by decide) ?_
      refine v_lload K dX6_leaf_50 rfl ?_
      refine v_iload K dX6_leaf_52 rfl ?_
      refine v_i2l K dX6_leaf_54 ?_
      refine cl_X6_114 K dX6_leaf_55 (c_X6_mix l D cA base pic _ _) rfl rfl ⟨by decide, by decide⟩ (Nat.le_of_ble_eq_true rfl) ⟨by decide, by decide⟩ (fun x55 pic15 hx16 => ?_)
      obtain ⟨rfl, rfl⟩ := hx16
      exact v_lret K dX6_leaf_58 hr hlk (by decide) (by decide) (⟨rfl, by simp only [leafF, mixO]; repeat (first | rw [if_pos (by omega)] | rw [if_neg (by omega)])⟩)
    · refine v_lload K dX6_leaf_36 rfl ?_
      refine v_goto K 48 dX6_leaf_38 (by decide) ?_
      refine v_lstore K dX6_leaf_48 (by decide) ?_
      refine v_lload K dX6_leaf_50 rfl ?_
      refine v_iload K dX6_leaf_52 rfl ?_
      refine v_i2l K dX6_leaf_54 ?_
      refine cl_X6_114 K dX6_leaf_55 (c_X6_mix l D cA base pic _ _) rfl rfl ⟨by decide, by decide⟩ (Nat.le_of_ble_eq_true rfl) ⟨by decide, by decide⟩ (fun x55 pic17 hx18 => ?_)
      obtain ⟨rfl, rfl⟩ := hx18
      exact v_lret K dX6_leaf_58 hr hlk (by decide) (by decide) (⟨rfl, by simp only [leafF, mixO]; repeat (first | rw [if_pos (by omega)] | rw [if_neg (by omega)])⟩)

set_option maxHeartbeats 4000000 in
set_option maxRecDepth 100000 in
theorem c_X0_topicOrNone (l : Launch) (D : va_G) (cA : Nat → ClassId) (base : Nat) (pic : PIC) (t : Int32)  : CI l yX0_topicOrNone cX0_topicOrNone 1 (some .int) { frames := 0, cells := 0, slots := 0, locals := 0 } 0 0 D cA base pic [.int t] (fun x pic1 => pic = pic1 ∧ x = tonF t) := by
  refine ofI (by decide) (Nat.le_of_ble_eq_true rfl) ?_
  intro p e s m below meth c K hr hlk hnm
  refine v_iload_n K 0 dX0_topicOrNone_0 rfl rfl ?_
  refine v_iconst (v := -1) K dX0_topicOrNone_1 (by decide) ?_
  refine v_icmp_ne K 10 dX0_topicOrNone_2 (by decide) rfl m1T (fun c2 => ?_) (fun c2 => ?_)
  · refine v_iload_n K 0 dX0_topicOrNone_10 rfl rfl ?_
    exact v_iret K dX0_topicOrNone_11 hr hlk (by decide) (by decide) (by first | exact (⟨rfl, by rw [tonF, if_pos (by omega)]⟩) | exact (⟨rfl, by rw [tonF, if_neg (by omega)]⟩))
  · refine v_bipush (v := -5) K dX0_topicOrNone_5 (by decide) ?_
    refine v_goto K 11 dX0_topicOrNone_7 (by decide) ?_
    exact v_iret K dX0_topicOrNone_11 hr hlk (by decide) (by decide) (by first | exact (⟨rfl, by rw [tonF, if_pos (by omega)]⟩) | exact (⟨rfl, by rw [tonF, if_neg (by omega)]⟩))

