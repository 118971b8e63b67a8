set_option maxHeartbeats 4000000 in
set_option maxRecDepth 100000 in
theorem c_X1_usedOfInnermost (l : Launch) (D : va_G) (cA : Nat → ClassId) (base : Nat) (pic : PIC) (aC aL aU aE aK d : Nat) (lim use beg cau : Nat → Int32) (hC : CallsP pic cA aC aL aU aE aK d lim use beg cau) (hd : d ≤ 8)  : CI l yX1_usedOfInnermost cX1_usedOfInnermost 1 (some .int) { frames := 0, cells := 0, slots := 0, locals := 0 } 0 0 D cA base pic [.ref aC] (fun x pic1 => pic = pic1 ∧ x = (if d = 0 then 0 else use (d - 1))) := by
  refine ofI (by decide) (Nat.le_of_ble_eq_true rfl) ?_
  intro p e s m below meth c K hr hlk hnm
  obtain ⟨f0, f1, f2, f3, f4⟩ := hC
  refine v_aload_n K 0 dX1_usedOfInnermost_0 rfl rfl ?_
  refine gf_X1_25 K dX1_usedOfInnermost_1 f0 rfl ?_
  refine v_if_ne K 11 dX1_usedOfInnermost_4 (by decide) (nI_toInt (by omega)) (fun c4 => ?_) (fun c4 => ?_)
  · refine v_aload_n K 0 dX1_usedOfInnermost_11 rfl rfl ?_
    refine gf_X1_15 K dX1_usedOfInnermost_12 f0 rfl ?_
    refine v_aload_n K 0 dX1_usedOfInnermost_15 rfl rfl ?_
    refine gf_X1_25 K dX1_usedOfInnermost_16 f0 rfl ?_
    refine v_iconst (v := nI 1) K dX1_usedOfInnermost_19 (by decide) ?_
    refine v_isubN K dX1_usedOfInnermost_20 (by omega) ?_
    refine v_iald K dX1_usedOfInnermost_21 f2 (by omega) (by decide) ?_
    exact v_iret K dX1_usedOfInnermost_22 hr hlk (by decide) (by decide) (by first | exact (⟨rfl, by rw [if_pos (by omega)]; rfl⟩) | exact (⟨rfl, by rw [if_neg (by omega)]⟩))
  · refine v_iconst (v := nI 0) K dX1_usedOfInnermost_7 (by decide) ?_
    refine v_goto K 22 dX1_usedOfInnermost_8 (by decide) ?_
    exact v_iret K dX1_usedOfInnermost_22 hr hlk (by decide) (by decide) (by first | exact (⟨rfl, by rw [if_pos (by omega)]; rfl⟩) | exact (⟨rfl, by rw [if_neg (by omega)]⟩))

set_option maxHeartbeats 4000000 in
set_option maxRecDepth 100000 in
theorem c_X1_leftOfInnermost (l : Launch) (D : va_G) (cA : Nat → ClassId) (base : Nat) (pic : PIC) (aC aL aU aE aK d : Nat) (lim use beg cau : Nat → Int32) (hC : CallsP pic cA aC aL aU aE aK d lim use beg cau) (hd : d ≤ 8)  : CI l yX1_leftOfInnermost cX1_leftOfInnermost 1 (some .int) { frames := 0, cells := 0, slots := 0, locals := 0 } 0 0 D cA base pic [.ref aC] (fun x pic1 => pic = pic1 ∧ x = leftF d lim use) := by
  refine ofI (by decide) (Nat.le_of_ble_eq_true rfl) ?_
  intro p e s m below meth c K hr hlk hnm
  obtain ⟨f0, f1, f2, f3, f4⟩ := hC
  refine v_aload_n K 0 dX1_leftOfInnermost_0 rfl rfl ?_
  refine gf_X1_25 K dX1_leftOfInnermost_1 f0 rfl ?_
  refine v_if_ne K 11 dX1_leftOfInnermost_4 (by decide) (nI_toInt (by omega)) (fun c4 => ?_) (fun c4 => ?_)
  · refine v_aload_n K 0 dX1_leftOfInnermost_11 rfl rfl ?_
    refine gf_X1_9 K dX1_leftOfInnermost_12 f0 rfl ?_
    refine v_aload_n K 0 dX1_leftOfInnermost_15 rfl rfl ?_
    refine gf_X1_25 K dX1_leftOfInnermost_16 f0 rfl ?_
    refine v_iconst (v := nI 1) K dX1_leftOfInnermost_19 (by decide) ?_
    refine v_isubN K dX1_leftOfInnermost_20 (by omega) ?_
    refine v_iald K dX1_leftOfInnermost_21 f1 (by omega) (by decide) ?_
    refine v_aload_n K 0 dX1_leftOfInnermost_22 rfl rfl ?_
    refine gf_X1_15 K dX1_leftOfInnermost_23 f0 rfl ?_
    refine v_aload_n K 0 dX1_leftOfInnermost_26 rfl rfl ?_
    refine gf_X1_25 K dX1_leftOfInnermost_27 f0 rfl ?_
    refine v_iconst (v := nI 1) K dX1_leftOfInnermost_30 (by decide) ?_
    refine v_isubN K dX1_leftOfInnermost_31 (by omega) ?_
    refine v_iald K dX1_leftOfInnermost_32 f2 (by omega) (by decide) ?_
    refine v_isub K dX1_leftOfInnermost_33 ?_
    exact v_iret K dX1_leftOfInnermost_34 hr hlk (by decide) (by decide) (by first | exact (⟨rfl, by rw [leftF, if_pos (by omega)]; rfl⟩) | exact (⟨rfl, by rw [leftF, if_neg (by omega)]⟩))
  · refine v_iconst (v := nI 0) K dX1_leftOfInnermost_7 (by decide) ?_
    refine v_goto K 34 dX1_leftOfInnermost_8 (by decide) ?_
    exact v_iret K dX1_leftOfInnermost_34 hr hlk (by decide) (by decide) (by first | exact (⟨rfl, by rw [leftF, if_pos (by omega)]; rfl⟩) | exact (⟨rfl, by rw [leftF, if_neg (by omega)]⟩))

set_option maxHeartbeats 4000000 in
set_option maxRecDepth 100000 in
theorem c_X1_pay (l : Launch) (D : va_G) (cA : Nat → ClassId) (base : Nat) (pic : PIC) (aC aL aU aE aK d : Nat) (lim use beg cau : Nat → Int32) (u : Int32) (hC : CallsP pic cA aC aL aU aE aK d lim use beg cau) (hd : d ≤ 8)  : CI l yX1_pay cX1_pay 2 (some .boolean) { frames := 1, cells := 0, slots := 0, locals := 20 } 0 0 D cA base pic [.ref aC, .int u] (fun x pic1 => (x = 0 ∧ pic = pic1 ∧ (d = 0 ∨ (leftF d lim use).toInt < u.toInt)) ∨ (x = 1 ∧ 0 < d ∧ u.toInt ≤ (leftF d lim use).toInt ∧ CallsP pic1 cA aC aL aU aE aK d lim (upd use (d - 1) (use (d - 1) + u)) beg cau ∧ ∀ q, ¬ (q = 3) → pic1 q = pic q)) := by
  refine ofI (by decide) (Nat.le_of_ble_eq_true rfl) ?_
  intro p e s m below meth c K hr hlk hnm
  have FR : ∀ q, ¬ (q = 3) → pic q = pic q := fun _ _ => rfl
  obtain ⟨f0, f1, f2, f3, f4⟩ := hC
  refine v_aload_n K 0 dX1_pay_0 rfl rfl ?_
  refine gf_X1_25 K dX1_pay_1 f0 rfl ?_
  refine v_if_eq K 15 dX1_pay_4 (by decide) (nI_toInt (by omega)) (fun c4 => ?_) (fun c4 => ?_)
  · refine v_iconst (v := nI 0) K dX1_pay_15 (by decide) ?_
    exact v_zret K dX1_pay_16 hr (narB (by first | exact isB0 | exact isB1 | assumption)) hlk (by decide) (by decide) (by first | exact (Or.inl ⟨rfl, rfl, Or.inl (by omega)⟩) | exact (Or.inl ⟨rfl, rfl, Or.inr (by omega)⟩) | exact (Or.inr ⟨rfl, by omega, by omega, ⟨f0, f1, f2, f3, f4⟩, FR⟩))
  · refine v_iload_n K 1 dX1_pay_7 rfl rfl ?_
    refine v_aload_n K 0 dX1_pay_8 rfl rfl ?_
    refine cl_X1_29 K dX1_pay_9 f0 (c_X1_leftOfInnermost l D cA base pic aC aL aU aE aK d lim use beg cau ⟨f0, f1, f2, f3, f4⟩ (by omega)) rfl rfl ⟨by decide, by decide⟩ (Nat.le_of_ble_eq_true rfl) ⟨by decide, by decide⟩ (fun x9 pic1 hx2 => ?_)
    obtain ⟨rfl, rfl⟩ := hx2
    refine v_icmp_le K 17 dX1_pay_12 (by decide) rfl rfl (fun c12 => ?_) (fun c12 => ?_)
    · refine v_aload_n K 0 dX1_pay_17 rfl rfl ?_
      refine gf_X1_15 K dX1_pay_18 f0 rfl ?_
      refine v_aload_n K 0 dX1_pay_21 rfl rfl ?_
      refine gf_X1_25 K dX1_pay_22 f0 rfl ?_
      refine v_iconst (v := nI 1) K dX1_pay_25 (by decide) ?_
      refine v_isubN K dX1_pay_26 (by omega) ?_
      refine v_dup2 K dX1_pay_27 rfl rfl ?_
      refine v_iald K dX1_pay_28 f2 (by omega) (by decide) ?_
      refine v_iload_n K 1 dX1_pay_29 rfl rfl ?_
      refine v_iadd K dX1_pay_30 ?_
      refine v_iast K dX1_pay_31 f2 (by omega) (by decide) (fun pic5 zg3 zf4 => ?_)
      replace f0 := (zf4 _ (by omega)).trans f0
      replace f1 := (zf4 _ (by omega)).trans f1
      replace f2 := zg3
      replace f3 := (zf4 _ (by omega)).trans f3
      replace f4 := (zf4 _ (by omega)).trans f4
      have FR : ∀ q, ¬ (q = 3) → pic5 q = pic q := fun q hq => (zf4 q (by omega)).trans (FR q hq)
      refine v_iconst (v := nI 1) K dX1_pay_32 (by decide) ?_
      exact v_zret K dX1_pay_33 hr (narB (by first | exact isB0 | exact isB1 | assumption)) hlk (by decide) (by decide) (by first | exact (Or.inl ⟨rfl, rfl, Or.inl (by omega)⟩) | exact (Or.inl ⟨rfl, rfl, Or.inr (by omega)⟩) | exact (Or.inr ⟨rfl, by omega, by omega, ⟨f0, f1, f2, f3, f4⟩, FR⟩))
    · refine v_iconst (v := nI 0) K dX1_pay_15 (by decide) ?_
      exact v_zret K dX1_pay_16 hr (narB (by first | exact isB0 | exact isB1 | assumption)) hlk (by decide) (by decide) (by first | exact (Or.inl ⟨rfl, rfl, Or.inl (by omega)⟩) | exact (Or.inl ⟨rfl, rfl, Or.inr (by omega)⟩) | exact (Or.inr ⟨rfl, by omega, by omega, ⟨f0, f1, f2, f3, f4⟩, FR⟩))

def pushL (d : Nat) (lim use : Nat → Int32) (x : Int32) : Int32 := if d = 0 then x else if leftF d lim use < x then leftF d lim use else x
set_option maxHeartbeats 4000000 in
set_option maxRecDepth 100000 in
theorem c_X1_push (l : Launch) (D : va_G) (cA : Nat → ClassId) (base : Nat) (pic : PIC) (aC aL aU aE aK d : Nat) (lim use beg cau : Nat → Int32) (x k v : Int32) (hC : CallsP pic cA aC aL aU aE aK d lim use beg cau) (hd : d < 8) (hk : isB k)  : CV l yX1_push cX1_push 4 none { frames := 1, cells := 0, slots := 0, locals := 20 } 0 0 D cA base pic [.ref aC, .int x, .int k, .int v] (fun pic1 => CallsP pic1 cA aC aL aU aE aK (d + 1) (upd lim d (pushL d lim use x)) (upd use d 0) (upd beg d v) (upd cau d k) ∧ ∀ q, ¬ (1 ≤ q ∧ q < 6) → pic1 q = pic q) := by
  refine ofV (by decide) (Nat.le_of_ble_eq_true rfl) ?_
  intro p e s m below meth c K hr hlk hnm
  have FR : ∀ q, ¬ (1 ≤ q ∧ q < 6) → pic q = pic q := fun _ _ => rfl
  obtain ⟨f0, f1, f2, f3, f4⟩ := hC
  refine v_aload_n K 0 dX1_push_0 rfl rfl ?_
  refine gf_X1_9 K dX1_push_1 f0 rfl ?_
  refine v_aload_n K 0 dX1_push_4 rfl rfl ?_
  refine gf_X1_25 K dX1_push_5 f0 rfl ?_
  refine v_aload_n K 0 dX1_push_8 rfl rfl ?_
  refine gf_X1_25 K dX1_push_9 f0 rfl ?_
  refine v_if_ne K 19 dX1_push_12 (by decide) (nI_toInt (by omega)) (fun c12 => ?_) (fun c12 => ?_)
  · refine v_iload_n K 1 dX1_push_19 rfl rfl ?_
    refine v_aload_n K 0 dX1_push_20 rfl rfl ?_
    refine cl_X1_29 K dX1_push_21 f0 (c_X1_leftOfInnermost l D cA base pic aC aL aU aE aK d lim use beg cau ⟨f0, f1, f2, f3, f4⟩ (by omega)) rfl rfl ⟨by decide, by decide⟩ (Nat.le_of_ble_eq_true rfl) ⟨by decide, by decide⟩ (fun x21 pic1 hx2 => ?_)
    obtain ⟨rfl, rfl⟩ := hx2
    refine v_min K gw_112 gw_113 gw_114 gw_115 dX1_push_24 (by decide) (Nat.le_of_ble_eq_true rfl) (by decide) (by decide) ?_
    refine v_iast K dX1_push_27 f1 (by omega) (by decide) (fun pic5 zg3 zf4 => ?_)
    replace f0 := (zf4 _ (by omega)).trans f0
    replace f1 := zg3
    replace f2 := (zf4 _ (by omega)).trans f2
    replace f3 := (zf4 _ (by omega)).trans f3
    replace f4 := (zf4 _ (by omega)).trans f4
    have FR : ∀ q, ¬ (1 ≤ q ∧ q < 6) → pic5 q = pic q := fun q hq => (zf4 q (by omega)).trans (FR q hq)
    refine v_aload_n K 0 dX1_push_28 rfl rfl ?_
    refine gf_X1_15 K dX1_push_29 f0 rfl ?_
    refine v_aload_n K 0 dX1_push_32 rfl rfl ?_
    refine gf_X1_25 K dX1_push_33 f0 rfl ?_
    refine v_iconst (v := nI 0) K dX1_push_36 (by decide) ?_
    refine v_iast K dX1_push_37 f2 (by omega) (by decide) (fun pic8 zg6 zf7 => ?_)
    replace f0 := (zf7 _ (by omega)).trans f0
    replace f1 := (zf7 _ (by omega)).trans f1
    replace f2 := zg6
    replace f3 := (zf7 _ (by omega)).trans f3
    replace f4 := (zf7 _ (by omega)).trans f4
    have FR : ∀ q, ¬ (1 ≤ q ∧ q < 6) → pic8 q = pic q := fun q hq => (zf7 q (by omega)).trans (FR q hq)
    refine v_aload_n K 0 dX1_push_38 rfl rfl ?_
    refine gf_X1_18 K dX1_push_39 f0 rfl ?_
    refine v_aload_n K 0 dX1_push_42 rfl rfl ?_
    refine gf_X1_25 K dX1_push_43 f0 rfl ?_
    refine v_iload_n K 3 dX1_push_46 rfl rfl ?_
    refine v_iast K dX1_push_47 f3 (by omega) (by decide) (fun pic11 zg9 zf10 => ?_)
    replace f0 := (zf10 _ (by omega)).trans f0
    replace f1 := (zf10 _ (by omega)).trans f1
    replace f2 := (zf10 _ (by omega)).trans f2
    replace f3 := zg9
    replace f4 := (zf10 _ (by omega)).trans f4
    have FR : ∀ q, ¬ (1 ≤ q ∧ q < 6) → pic11 q = pic q := fun q hq => (zf10 q (by omega)).trans (FR q hq)
    refine v_aload_n K 0 dX1_push_48 rfl rfl ?_
    refine gf_X1_21 K dX1_push_49 f0 rfl ?_
    refine v_aload_n K 0 dX1_push_52 rfl rfl ?_
    refine gf_X1_25 K dX1_push_53 f0 rfl ?_
    refine v_iload_n K 2 dX1_push_56 rfl rfl ?_
    refine v_zast K dX1_push_57 f4 (by omega) (by decide) (narB (by first | exact isB0 | exact isB1 | assumption)) (fun pic14 zg12 zf13 => ?_)
    replace f0 := (zf13 _ (by omega)).trans f0
    replace f1 := (zf13 _ (by omega)).trans f1
    replace f2 := (zf13 _ (by omega)).trans f2
    replace f3 := (zf13 _ (by omega)).trans f3
    replace f4 := zg12
    have FR : ∀ q, ¬ (1 ≤ q ∧ q < 6) → pic14 q = pic q := fun q hq => (zf13 q (by omega)).trans (FR q hq)
    refine v_aload_n K 0 dX1_push_58 rfl rfl ?_
    refine v_dup K dX1_push_59 rfl ?_
    refine gf_X1_25 K dX1_push_60 f0 rfl ?_
    refine v_iconst (v := nI 1) K dX1_push_63 (by decide) ?_
    refine v_iaddN K dX1_push_64 ?_
    refine pf_X1_25 K dX1_push_65 f0 (Nat.le_of_ble_eq_true rfl) (fun pic17 zg15 zf16 => ?_)
    replace f0 := zg15
    replace f1 := (zf16 _ (by omega)).trans f1
    replace f2 := (zf16 _ (by omega)).trans f2
    replace f3 := (zf16 _ (by omega)).trans f3
    replace f4 := (zf16 _ (by omega)).trans f4
    have FR : ∀ q, ¬ (1 ≤ q ∧ q < 6) → pic17 q = pic q := fun q hq => (zf16 q (by omega)).trans (FR q hq)
    exact v_vret K dX1_push_68 hr hlk (by decide) (by decide) (by first | exact (⟨⟨f0, by rw [show pushL d lim use x = x from by rw [pushL, if_pos (by omega)]]; exact f1, f2, f3, f4⟩, FR⟩) | exact (⟨⟨f0, by rw [show pushL d lim use x = _ from by rw [pushL, if_neg (by omega)]]; exact f1, f2, f3, f4⟩, FR⟩))
  · refine v_iload_n K 1 dX1_push_15 rfl rfl ?_
    refine v_goto K 27 dX1_push_16 (by decide) ?_
    refine v_iast K dX1_push_27 f1 (by omega) (by decide) (fun pic20 zg18 zf19 => ?_)
    replace f0 := (zf19 _ (by omega)).trans f0
    replace f1 := zg18
    replace f2 := (zf19 _ (by omega)).trans f2
    replace f3 := (zf19 _ (by omega)).trans f3
    replace f4 := (zf19 _ (by omega)).trans f4
    have FR : ∀ q, ¬ (1 ≤ q ∧ q < 6) → pic20 q = pic q := fun q hq => (zf19 q (by omega)).trans (FR q hq)
    refine v_aload_n K 0 dX1_push_28 rfl rfl ?_
    refine gf_X1_15 K dX1_push_29 f0 rfl ?_
    refine v_aload_n K 0 dX1_push_32 rfl rfl ?_
    refine gf_X1_25 K dX1_push_33 f0 rfl ?_
    refine v_iconst (v := nI 0) K dX1_push_36 (by decide) ?_
    refine v_iast K dX1_push_37 f2 (by omega) (by decide) (fun pic23 zg21 zf22 => ?_)
    replace f0 := (zf22 _ (by omega)).trans f0
    replace f1 := (zf22 _ (by omega)).trans f1
    replace f2 := zg21
    replace f3 := (zf22 _ (by omega)).trans f3
    replace f4 := (zf22 _ (by omega)).trans f4
    have FR : ∀ q, ¬ (1 ≤ q ∧ q < 6) → pic23 q = pic q := fun q hq => (zf22 q (by omega)).trans (FR q hq)
    refine v_aload_n K 0 dX1_push_38 rfl rfl ?_
    refine gf_X1_18 K dX1_push_39 f0 rfl ?_
    refine v_aload_n K 0 dX1_push_42 rfl rfl ?_
    refine gf_X1_25 K dX1_push_43 f0 rfl ?_
    refine v_iload_n K 3 dX1_push_46 rfl rfl ?_
    refine v_iast K dX1_push_47 f3 (by omega) (by decide) (fun pic26 zg24 zf25 => ?_)
    replace f0 := (zf25 _ (by omega)).trans f0
    replace f1 := (zf25 _ (by omega)).trans f1
    replace f2 := (zf25 _ (by omega)).trans f2
    replace f3 := zg24
    replace f4 := (zf25 _ (by omega)).trans f4
    have FR : ∀ q, ¬ (1 ≤ q ∧ q < 6) → pic26 q = pic q := fun q hq => (zf25 q (by omega)).trans (FR q hq)
    refine v_aload_n K 0 dX1_push_48 rfl rfl ?_
    refine gf_X1_21 K dX1_push_49 f0 rfl ?_
    refine v_aload_n K 0 dX1_push_52 rfl rfl ?_
    refine gf_X1_25 K dX1_push_53 f0 rfl ?_
    refine v_iload_n K 2 dX1_push_56 rfl rfl ?_
    refine v_zast K dX1_push_57 f4 (by omega) (by decide) (narB (by first | exact isB0 | exact isB1 | assumption)) (fun pic29 zg27 zf28 => ?_)
    replace f0 := (zf28 _ (by omega)).trans f0
    replace f1 := (zf28 _ (by omega)).trans f1
    replace f2 := (zf28 _ (by omega)).trans f2
    replace f3 := (zf28 _ (by omega)).trans f3
    replace f4 := zg27
    have FR : ∀ q, ¬ (1 ≤ q ∧ q < 6) → pic29 q = pic q := fun q hq => (zf28 q (by omega)).trans (FR q hq)
    refine v_aload_n K 0 dX1_push_58 rfl rfl ?_
    refine v_dup K dX1_push_59 rfl ?_
    refine gf_X1_25 K dX1_push_60 f0 rfl ?_
    refine v_iconst (v := nI 1) K dX1_push_63 (by decide) ?_
    refine v_iaddN K dX1_push_64 ?_
    refine pf_X1_25 K dX1_push_65 f0 (Nat.le_of_ble_eq_true rfl) (fun pic32 zg30 zf31 => ?_)
    replace f0 := zg30
    replace f1 := (zf31 _ (by omega)).trans f1
    replace f2 := (zf31 _ (by omega)).trans f2
    replace f3 := (zf31 _ (by omega)).trans f3
    replace f4 := (zf31 _ (by omega)).trans f4
    have FR : ∀ q, ¬ (1 ≤ q ∧ q < 6) → pic32 q = pic q := fun q hq => (zf31 q (by omega)).trans (FR q hq)
    exact v_vret K dX1_push_68 hr hlk (by decide) (by decide) (by first | exact (⟨⟨f0, by rw [show pushL d lim use x = x from by rw [pushL, if_pos (by omega)]]; exact f1, f2, f3, f4⟩, FR⟩) | exact (⟨⟨f0, by rw [show pushL d lim use x = _ from by rw [pushL, if_neg (by omega)]]; exact f1, f2, f3, f4⟩, FR⟩))

set_option maxHeartbeats 4000000 in
set_option maxRecDepth 100000 in
theorem c_X1_pop (l : Launch) (D : va_G) (cA : Nat → ClassId) (base : Nat) (pic : PIC) (aC aL aU aE aK d : Nat) (lim use beg cau : Nat → Int32) (hC : CallsP pic cA aC aL aU aE aK d lim use beg cau) (hd : d ≤ 8) (h0 : 0 < d)  : CI l yX1_pop cX1_pop 2 (some .int) { frames := 0, cells := 0, slots := 0, locals := 0 } 0 0 D cA base pic [.ref aC] (fun x pic1 => x = use (d - 1) ∧ CallsP pic1 cA aC aL aU aE aK (d - 1) lim (popU d use) beg cau ∧ ∀ q, ¬ (1 ≤ q ∧ q < 6) → pic1 q = pic q) := by
  refine ofI (by decide) (Nat.le_of_ble_eq_true rfl) ?_
  intro p e s m below meth c K hr hlk hnm
  have FR : ∀ q, ¬ (1 ≤ q ∧ q < 6) → pic q = pic q := fun _ _ => rfl
  obtain ⟨f0, f1, f2, f3, f4⟩ := hC
  refine v_aload_n K 0 dX1_pop_0 rfl rfl ?_
  refine v_dup K dX1_pop_1 rfl ?_
  refine gf_X1_25 K dX1_pop_2 f0 rfl ?_
  refine v_iconst (v := nI 1) K dX1_pop_5 (by decide) ?_
  refine v_isubN K dX1_pop_6 (by omega) ?_
  refine pf_X1_25 K dX1_pop_7 f0 (Nat.le_of_ble_eq_true rfl) (fun pic3 zg1 zf2 => ?_)
  replace f0 := zg1
  replace f1 := (zf2 _ (by omega)).trans f1
  replace f2 := (zf2 _ (by omega)).trans f2
  replace f3 := (zf2 _ (by omega)).trans f3
  replace f4 := (zf2 _ (by omega)).trans f4
  have FR : ∀ q, ¬ (1 ≤ q ∧ q < 6) → pic3 q = pic q := fun q hq => (zf2 q (by omega)).trans (FR q hq)
  refine v_aload_n K 0 dX1_pop_10 rfl rfl ?_
  refine gf_X1_15 K dX1_pop_11 f0 rfl ?_
  refine v_aload_n K 0 dX1_pop_14 rfl rfl ?_
  refine gf_X1_25 K dX1_pop_15 f0 rfl ?_
  refine v_iald K dX1_pop_18 f2 (by omega) (by decide) ?_
  refine v_istore_n K 1 dX1_pop_19 rfl (by decide) ?_
  refine v_aload_n K 0 dX1_pop_20 rfl rfl ?_
  refine gf_X1_25 K dX1_pop_21 f0 rfl ?_
  refine v_if_le K 42 dX1_pop_24 (by decide) (nI_toInt (by omega)) (fun c24 => ?_) (fun c24 => ?_)
  · refine v_iload_n K 1 dX1_pop_42 rfl rfl ?_
    exact v_iret K dX1_pop_43 hr hlk (by decide) (by decide) (by first | exact (⟨rfl, ⟨f0, f1, by rw [popU, if_pos (by omega)]; exact f2, f3, f4⟩, FR⟩) | exact (⟨rfl, ⟨f0, f1, by rw [popU, if_neg (by omega)]; exact f2, f3, f4⟩, FR⟩))
  · refine v_aload_n K 0 dX1_pop_27 rfl rfl ?_
    refine gf_X1_15 K dX1_pop_28 f0 rfl ?_
    refine v_aload_n K 0 dX1_pop_31 rfl rfl ?_
    refine gf_X1_25 K dX1_pop_32 f0 rfl ?_
    refine v_iconst (v := nI 1) K dX1_pop_35 (by decide) ?_
    refine v_isubN K dX1_pop_36 (by omega) ?_
    refine v_dup2 K dX1_pop_37 rfl rfl ?_
    refine v_iald K dX1_pop_38 f2 (by omega) (by decide) ?_
    refine v_iload_n K 1 dX1_pop_39 rfl rfl ?_
    refine v_iadd K dX1_pop_40 ?_
    refine v_iast K dX1_pop_41 f2 (by omega) (by decide) (fun pic6 zg4 zf5 => ?_)
    replace f0 := (zf5 _ (by omega)).trans f0
    replace f1 := (zf5 _ (by omega)).trans f1
    replace f2 := zg4
    replace f3 := (zf5 _ (by omega)).trans f3
    replace f4 := (zf5 _ (by omega)).trans f4
    have FR : ∀ q, ¬ (1 ≤ q ∧ q < 6) → pic6 q = pic q := fun q hq => (zf5 q (by omega)).trans (FR q hq)
    refine v_iload_n K 1 dX1_pop_42 rfl rfl ?_
    exact v_iret K dX1_pop_43 hr hlk (by decide) (by decide) (by first | exact (⟨rfl, ⟨f0, f1, by rw [popU, if_pos (by omega)]; exact f2, f3, f4⟩, FR⟩) | exact (⟨rfl, ⟨f0, f1, by rw [popU, if_neg (by omega)]; exact f2, f3, f4⟩, FR⟩))

theorem t0 {x : Int32} (h : x.toInt = 0) : x = 0 := Int32.toInt_inj.mp h
theorem nt0 {x : Int32} (h : x.toInt ≠ 0) : ¬ x = 0 := fun e => h (by rw [e]; rfl)
theorem failF_0 {beg cau use : Nat → Int32} {cnt : Int32} {d : Nat} (h : cau d = 0) : failF beg cau (d + 1) use cnt = ((failF beg cau d (popU (d + 1) use) (beg d)).1, (failF beg cau d (popU (d + 1) use) (beg d)).2.1, (failF beg cau d (popU (d + 1) use) (beg d)).2.2.1, (failF beg cau d (popU (d + 1) use) (beg d)).2.2.2 + 1) := by rw [failF, if_pos h]
theorem failF_1 {beg cau use : Nat → Int32} {cnt : Int32} {d : Nat} (h : ¬ cau d = 0) : failF beg cau (d + 1) use cnt = (d, popU (d + 1) use, beg d, 1) := by rw [failF, if_neg h]
set_option maxHeartbeats 4000000 in
set_option maxRecDepth 100000 in
theorem l_X1_fail {p : Program} {l : Launch} {e : Env} {s : State} {m : MethodId} {args : Array Value} {below : List Frame} {meth : Method} {c : Code} {Q : State → Prop} {D : va_G} {cA : Nat → ClassId} {base : Nat} {cw : Cond} (K : KX p m c cX1_fail 5 s args cw RX1 D cA) (aC aL aU aE aK : Nat) (lim beg cau : Nat → Int32) (b aB r1 r2 r3 r4 r5 : Nat) (kept fs : Int32) (rd fb : Int64) (hb : 6 ≤ b) (pic0 : PIC) : ∀ (d : Nat) (pic : PIC) (use : Nat → Int32) (cnt : Int32) (k : Nat), d ≤ 8 → CallsP pic cA aC aL aU aE aK d lim use beg cau → pic b = some (aB, bkE r1 r2 r3 r4 r5 cnt kept fs rd fb) → (∀ q, ¬ (1 ≤ q ∧ q < 6 ∨ q = b) → pic q = pic0 q) → (∀ pic1 : PIC, CallsP pic1 cA aC aL aU aE aK (failF beg cau d use cnt).1 lim (failF beg cau d use cnt).2.1 beg cau → pic1 b = some (aB, bkE r1 r2 r3 r4 r5 (failF beg cau d use cnt).2.2.1 kept fs rd fb) → (∀ q, ¬ (1 ≤ q ∧ q < 6 ∨ q = b) → pic1 q = pic0 q) → V p l e { frames := 1, cells := 0, slots := 0, locals := 21 } s m args below meth c Q D base 5 pic1 (lvOf [(2, .int (nI (k + (failF beg cau d use cnt).2.2.2)))]) 62 [] 0 0) → V p l e { frames := 1, cells := 0, slots := 0, locals := 21 } s m args below meth c Q D base 5 pic (lvOf [(0, .ref aC), (1, .ref aB), (2, .int (nI (k))), (3, .int (nI 1)), (4, .int (nI d - nI 1))]) 12 [] 0 0 := by
  intro d
  induction d with
  | zero =>
    intro pic use cnt k hd hC fB FR kx
    refine v_iload K dX1_fail_12 rfl ?_
    refine v_if_lt K 62 dX1_fail_14 (by decide) (pk_sub_toInt (by omega) (by omega)) (fun c14 => ?_) (fun c14 => absurd c14 (by omega))
    refine v_at [(2, .int (nI (k + 0)))] (lcons rfl (lnil)) ?_
    exact kx pic hC fB FR
  | succ e1 ih =>
    intro pic use cnt k hd hC fB FR kx
    obtain ⟨f0, f1, f2, f3, f4⟩ := hC
    rw [show nI (e1 + 1) - nI 1 = nI e1 from pk_sub (by omega)]
    refine v_iload K dX1_fail_12 rfl ?_
    refine v_if_lt K 62 dX1_fail_14 (by decide) (nI_toInt (by omega)) (fun c14 => absurd c14 (by omega)) (fun c14 => ?_)
    refine v_iload_n K 3 dX1_fail_17 rfl rfl ?_
    refine v_if_eq K 62 dX1_fail_18 (by decide) rfl (fun c => absurd c (by decide)) (fun _ => ?_)
    refine v_aload_n K 1 dX1_fail_21 rfl rfl ?_
    refine v_aload_n K 0 dX1_fail_22 rfl rfl ?_
    refine gf_X1_18 K dX1_fail_23 f0 rfl ?_
    refine v_iload K dX1_fail_26 rfl ?_
    refine v_iald K dX1_fail_28 f3 (by omega) (by decide) ?_
    refine pf_X1_39 K dX1_fail_29 fB (Nat.le_of_ble_eq_true rfl) (fun pic3 zg1 zf2 => ?_)
    replace f0 := (zf2 _ (by omega)).trans f0
    replace f1 := (zf2 _ (by omega)).trans f1
    replace f2 := (zf2 _ (by omega)).trans f2
    replace f3 := (zf2 _ (by omega)).trans f3
    replace f4 := (zf2 _ (by omega)).trans f4
    replace fB := zg1
    have FR : ∀ q, ¬ (1 ≤ q ∧ q < 6 ∨ q = b) → pic3 q = pic0 q := fun q hq => (zf2 q (by omega)).trans (FR q hq)
    refine v_aload_n K 0 dX1_fail_32 rfl rfl ?_
    refine gf_X1_21 K dX1_fail_33 f0 rfl ?_
    refine v_iload K dX1_fail_36 rfl ?_
    refine v_zald K dX1_fail_38 f4 (by omega) (by decide) ?_
    refine v_if_ne K 46 dX1_fail_39 (by decide) rfl (fun c39 => ?_) (fun c39 => ?_)
    · refine v_iconst (v := nI 0) K dX1_fail_46 (by decide) ?_
      refine v_istore_n K 3 dX1_fail_47 rfl (by decide) ?_
      refine v_aload_n K 0 dX1_fail_48 rfl rfl ?_
      refine cl_X1_44 K dX1_fail_49 f0 (c_X1_pop l D cA base pic3 aC aL aU aE aK (e1 + 1) lim use beg cau ⟨f0, f1, f2, f3, f4⟩ (by omega) (by omega)) rfl rfl ⟨by decide, by decide⟩ (Nat.le_of_ble_eq_true rfl) ⟨by decide, by decide⟩ (fun x49 pic4 hx5 => ?_)
      obtain ⟨-, ⟨h0, h1, h2, h3, h4⟩, h5⟩ := hx5
      replace f0 := h0
      replace f1 := h1
      replace f2 := h2
      replace f3 := h3
      replace f4 := h4
      replace fB := (h5 _ (by omega)).trans fB
      have FR : ∀ q, ¬ (1 ≤ q ∧ q < 6 ∨ q = b) → pic4 q = pic0 q := fun q hq => (h5 q (by omega)).trans (FR q hq)
      refine v_pop K dX1_fail_52 rfl ?_
      refine v_iincN K 1 dX1_fail_53 rfl (by decide) (by decide) ?_
      refine v_iincS K dX1_fail_56 rfl (by decide) ?_
      refine v_goto K 12 dX1_fail_59 (by decide) ?_
      refine v_iload K dX1_fail_12 rfl ?_
      refine v_if_lt K 62 dX1_fail_14 (by decide) (pk_sub_toInt (by omega) (by omega)) (fun c14 => ?_) (fun c14 => ?_)
      · simp only [failF_1 (nt0 c39)] at kx
        refine v_at [(2, .int (nI (k + 1)))] (lcons rfl (lnil)) ?_
        exact kx pic4 ⟨f0, f1, f2, f3, f4⟩ fB FR
      · refine v_iload_n K 3 dX1_fail_17 rfl rfl ?_
        refine v_if_eq K 62 dX1_fail_18 (by decide) rfl (fun _ => ?_) (fun c => absurd c (by decide))
        simp only [failF_1 (nt0 c39)] at kx
        refine v_at [(2, .int (nI (k + 1)))] (lcons rfl (lnil)) ?_
        exact kx pic4 ⟨f0, f1, f2, f3, f4⟩ fB FR
    · refine v_iconst (v := nI 1) K dX1_fail_42 (by decide) ?_
      refine v_goto K 47 dX1_fail_43 (by decide) ?_
      refine v_istore_n K 3 dX1_fail_47 rfl (by decide) ?_
      refine v_aload_n K 0 dX1_fail_48 rfl rfl ?_
      refine cl_X1_44 K dX1_fail_49 f0 (c_X1_pop l D cA base pic3 aC aL aU aE aK (e1 + 1) lim use beg cau ⟨f0, f1, f2, f3, f4⟩ (by omega) (by omega)) rfl rfl ⟨by decide, by decide⟩ (Nat.le_of_ble_eq_true rfl) ⟨by decide, by decide⟩ (fun x49 pic6 hx7 => ?_)
      obtain ⟨-, ⟨h0, h1, h2, h3, h4⟩, h5⟩ := hx7
      replace f0 := h0
      replace f1 := h1
      replace f2 := h2
      replace f3 := h3
      replace f4 := h4
      replace fB := (h5 _ (by omega)).trans fB
      have FR : ∀ q, ¬ (1 ≤ q ∧ q < 6 ∨ q = b) → pic6 q = pic0 q := fun q hq => (h5 q (by omega)).trans (FR q hq)
      refine v_pop K dX1_fail_52 rfl ?_
      refine v_iincN K 1 dX1_fail_53 rfl (by decide) (by decide) ?_
      refine v_iincS K dX1_fail_56 rfl (by decide) ?_
      refine v_goto K 12 dX1_fail_59 (by decide) ?_
      replace kx := fun pic1 => kx pic1
      simp only [failF_0 (t0 c39)] at kx
      refine v_at [(0, .ref aC), (1, .ref aB), (2, .int (nI (k + 1))), (3, .int (nI 1)), (4, .int (nI e1 - nI 1))] (lcons rfl (lcons rfl (lcons rfl (lcons rfl (lcons rfl (lnil)))))) ?_
      exact ih pic6 (popU (e1 + 1) use) (beg e1) (k + 1) (by omega) ⟨f0, f1, f2, f3, f4⟩ fB FR (fun pic1 h1 h2 h3 => by rw [show k + 1 + (failF beg cau e1 (popU (e1 + 1) use) (beg e1)).2.2.2 = k + ((failF beg cau e1 (popU (e1 + 1) use) (beg e1)).2.2.2 + 1) from by omega]; exact kx pic1 h1 h2 h3)

set_option maxHeartbeats 4000000 in
set_option maxRecDepth 100000 in
theorem c_X1_fail (l : Launch) (D : va_G) (cA : Nat → ClassId) (base : Nat) (pic : PIC) (aC aL aU aE aK d : Nat) (lim use beg cau : Nat → Int32) (b aB r1 r2 r3 r4 r5 : Nat) (kept fs : Int32) (rd fb : Int64) (cnt : Int32) (hC : CallsP pic cA aC aL aU aE aK d lim use beg cau) (hd : d ≤ 8) (fB : pic b = some (aB, bkE r1 r2 r3 r4 r5 cnt kept fs rd fb)) (hb : 6 ≤ b)  : CI l yX1_fail cX1_fail 5 (some .int) { frames := 1, cells := 0, slots := 0, locals := 21 } 0 0 D cA base pic [.ref aC, .ref aB] (fun x pic1 => x = nI (failF beg cau d use cnt).2.2.2 ∧ CallsP pic1 cA aC aL aU aE aK (failF beg cau d use cnt).1 lim (failF beg cau d use cnt).2.1 beg cau ∧ pic1 b = some (aB, bkE r1 r2 r3 r4 r5 (failF beg cau d use cnt).2.2.1 kept fs rd fb) ∧ ∀ q, ¬ (1 ≤ q ∧ q < 6 ∨ q = b) → pic1 q = pic q) := by
  refine ofI (by decide) (Nat.le_of_ble_eq_true rfl) ?_
  intro p e s m below meth c K hr hlk hnm
  have FR : ∀ q, ¬ (1 ≤ q ∧ q < 6 ∨ q = b) → pic q = pic q := fun _ _ => rfl
  obtain ⟨f0, f1, f2, f3, f4⟩ := hC
  refine v_iconst (v := nI 0) K dX1_fail_0 (by decide) ?_
  refine v_istore_n K 2 dX1_fail_1 rfl (by decide) ?_
  refine v_iconst (v := nI 1) K dX1_fail_2 (by decide) ?_
  refine v_istore_n K 3 dX1_fail_3 rfl (by decide) ?_
  refine v_aload_n K 0 dX1_fail_4 rfl rfl ?_
  refine gf_X1_25 K dX1_fail_5 f0 rfl ?_
  refine v_iconst (v := nI 1) K dX1_fail_8 (by decide) ?_
  refine v_isub K dX1_fail_9 ?_
  refine v_istore K dX1_fail_10 (by decide) ?_
  refine v_at [(0, .ref aC), (1, .ref aB), (2, .int (nI (0))), (3, .int (nI 1)), (4, .int (nI d - nI 1))] (lcons rfl (lcons rfl (lcons rfl (lcons rfl (lcons rfl (lnil)))))) ?_
  refine l_X1_fail K aC aL aU aE aK lim beg cau b aB r1 r2 r3 r4 r5 kept fs rd fb hb pic d pic use cnt 0 hd ⟨f0, f1, f2, f3, f4⟩ fB FR (fun pic1 h1 h2 h3 => ?_)
  rw [Nat.zero_add]
  refine v_iload_n K 2 dX1_fail_62 rfl rfl ?_
  exact v_iret K dX1_fail_63 hr hlk (by decide) (by decide) (⟨rfl, h1, h2, h3⟩)

