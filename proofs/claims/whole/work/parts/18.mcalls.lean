/-- the reference's object at role 1000, the row of its k-th field at role 1000 + k -/
abbrev moE (ad : Nat → Nat) (th : Int32) (nb : Nat) (cl cnt : Int32) (d no ns : Nat) : va_E := .inr (9, [.int th, .ref (ad 1001), .ref (ad 1002), .ref (ad 1003), .ref (ad 1004), .ref (ad 1005), .ref (ad 1006), .ref (ad 1007), .ref (ad 1008), .int (nI nb), .int cl, .int cnt, .int (nI d), .ref (ad 1013), .ref (ad 1014), .ref (ad 1015), .ref (ad 1016), .ref (ad 1017), .int (nI no), .int (nI ns), .ref (ad 1020), .ref (ad 1021), .ref (ad 1022), .ref (ad 1023)])
def MCalls (pic : PIC) (cA : Nat → ClassId) (ad : Nat → Nat) (lim use beg cau : Nat → Int32) : Prop := pic 1013 = some (ad 1013, .inl (cA 0, 8, .inl lim)) ∧ pic 1014 = some (ad 1014, .inl (cA 0, 8, .inl use)) ∧ pic 1015 = some (ad 1015, .inl (cA 2, 8, .inl cau)) ∧ pic 1016 = some (ad 1016, .inl (cA 0, 8, .inl beg))
def MEv (pic : PIC) (cA : Nat → ClassId) (ad : Nat → Nat) (mac mtp : Nat → Int32) (mvl : Nat → Int64) (mse : Nat → Int32) : Prop := pic 1001 = some (ad 1001, .inl (cA 0, 1312, .inl mac)) ∧ pic 1002 = some (ad 1002, .inl (cA 0, 3936, .inl mtp)) ∧ pic 1003 = some (ad 1003, .inl (cA 1, 1312, .inr (.inl mvl))) ∧ pic 1004 = some (ad 1004, .inl (cA 0, 1312, .inl mse))
def MBl (pic : PIC) (cA : Nat → ClassId) (ad : Nat → Nat) (msz mpr : Nat → Int32) (mro mfi : Nat → Int64) : Prop := pic 1005 = some (ad 1005, .inl (cA 0, 41, .inl msz)) ∧ pic 1006 = some (ad 1006, .inl (cA 2, 41, .inl mpr)) ∧ pic 1007 = some (ad 1007, .inl (cA 1, 41, .inr (.inl mro))) ∧ pic 1008 = some (ad 1008, .inl (cA 1, 41, .inr (.inl mfi)))
def MOut (pic : PIC) (cA : Nat → ClassId) (ad : Nat → Nat) (dg : Nat → Int64) : Prop := pic 1017 = some (ad 1017, .inl (cA 1, 5, .inr (.inl dg)))
def MSub (pic : PIC) (cA : Nat → ClassId) (ad : Nat → Nat) (mto mpb mpa : Nat → Int32) : Prop := pic 1020 = some (ad 1020, .inl (cA 0, 8, .inl mto)) ∧ pic 1021 = some (ad 1021, .inl (cA 0, 8, .inl mpb)) ∧ pic 1022 = some (ad 1022, .inl (cA 0, 8, .inl mpa))
def MLev (pic : PIC) (cA : Nat → ClassId) (ad : Nat → Nat) (mlv : Nat → Int64) : Prop := pic 1023 = some (ad 1023, .inl (cA 1, 32, .inr (.inl mlv)))
theorem i2lT (x : Int32) : x.toInt64.toInt = x.toInt := Int32.toInt_toInt64 x
theorem lgc_cases (x y : Int64) : (y.toInt < x.toInt ∧ (lg_cmp x y).toInt = 1) ∨ (x.toInt = y.toInt ∧ (lg_cmp x y).toInt = 0) ∨ (x.toInt < y.toInt ∧ (lg_cmp x y).toInt = -1) := by
  unfold lg_cmp
  by_cases h : x > y
  · rw [if_pos h]; exact Or.inl ⟨Int64.lt_iff_toInt_lt.mp h, by decide⟩
  · rw [if_neg h]
    have h1 : ¬ y.toInt < x.toInt := fun q => h (Int64.lt_iff_toInt_lt.mpr q)
    by_cases h2 : x = y
    · rw [if_pos h2]; exact Or.inr (Or.inl ⟨by rw [h2], by decide⟩)
    · rw [if_neg h2]
      have h3 : x.toInt ≠ y.toInt := fun q => h2 (Int64.toInt_inj.mp q)
      exact Or.inr (Or.inr ⟨by omega, by decide⟩)
theorem nI_toInt' {x : Int32} {n : Nat} (h : x = nI n) (hn : n < 2 ^ 31) : x.toInt = n := by rw [h]; exact nI_toInt hn
set_option maxHeartbeats 4000000 in
set_option maxRecDepth 100000 in
theorem c_X6_in (l : Launch) (D : va_G) (cA : Nat → ClassId) (base : Nat) (pic : PIC) (v a b2 : Int64)  : CI l yX6_in cX6_in 6 (some .boolean) { frames := 0, cells := 0, slots := 0, locals := 0 } 0 0 D cA base pic [.long v, .long a, .long b2] (fun x pic1 => (pic = pic1 ∧ x = 1 ∧ a.toInt ≤ v.toInt ∧ v.toInt ≤ b2.toInt) ∨ (pic = pic1 ∧ x = 0 ∧ ¬ (a.toInt ≤ v.toInt ∧ v.toInt ≤ b2.toInt))) := by
  refine ofI (by decide) (Nat.le_of_ble_eq_true rfl) ?_
  intro p e s m below meth c K hr hlk hnm
  refine v_lload_n K 0 dX6_in_0 rfl rfl ?_
  refine v_lload_n K 2 dX6_in_1 rfl rfl ?_
  refine v_lcmp K dX6_in_2 ?_
  have q1 := lgc_cases v a
  refine v_if_lt K 17 dX6_in_3 (by decide) rfl (fun c3 => ?_) (fun c3 => ?_)
  · refine v_iconst (v := nI 0) K dX6_in_17 (by decide) ?_
    exact v_zret K dX6_in_18 hr (narB (by first | exact isB0 | exact isB1 | assumption)) hlk (by decide) (by decide) (by first | exact (Or.inl ⟨rfl, rfl, by omega, by omega⟩) | exact (Or.inr ⟨rfl, rfl, by omega⟩))
  · refine v_lload_n K 0 dX6_in_6 rfl rfl ?_
    refine v_lload K dX6_in_7 rfl ?_
    refine v_lcmp K dX6_in_9 ?_
    have q2 := lgc_cases v b2
    refine v_if_gt K 17 dX6_in_10 (by decide) rfl (fun c10 => ?_) (fun c10 => ?_)
    · refine v_iconst (v := nI 0) K dX6_in_17 (by decide) ?_
      exact v_zret K dX6_in_18 hr (narB (by first | exact isB0 | exact isB1 | assumption)) hlk (by decide) (by decide) (by first | exact (Or.inl ⟨rfl, rfl, by omega, by omega⟩) | exact (Or.inr ⟨rfl, rfl, by omega⟩))
    · refine v_iconst (v := nI 1) K dX6_in_13 (by decide) ?_
      refine v_goto K 18 dX6_in_14 (by decide) ?_
      exact v_zret K dX6_in_18 hr (narB (by first | exact isB0 | exact isB1 | assumption)) hlk (by decide) (by decide) (by first | exact (Or.inl ⟨rfl, rfl, by omega, by omega⟩) | exact (Or.inr ⟨rfl, rfl, by omega⟩))

set_option maxHeartbeats 4000000 in
set_option maxRecDepth 100000 in
theorem c_X6_thrown (l : Launch) (D : va_G) (cA : Nat → ClassId) (base : Nat) (pic : PIC) (ad : Nat → Nat) (th cl cnt : Int32) (nb d no ns : Nat) (fM : pic 1000 = some (ad 1000, moE ad th nb cl cnt d no ns))  : CI l yX6_thrown cX6_thrown 1 (some .int) { frames := 0, cells := 0, slots := 0, locals := 0 } 0 0 D cA base pic [.ref (ad 1000)] (fun x pic1 => pic = pic1 ∧ x = th) := by
  refine ofI (by decide) (Nat.le_of_ble_eq_true rfl) ?_
  intro p e s m below meth c K hr hlk hnm
  refine v_aload_n K 0 dX6_thrown_0 rfl rfl ?_
  refine gf_X6_63 K dX6_thrown_1 fM rfl ?_
  exact v_iret K dX6_thrown_4 hr hlk (by decide) (by decide) (⟨rfl, rfl⟩)

set_option maxHeartbeats 4000000 in
set_option maxRecDepth 100000 in
theorem c_X6_isBlock (l : Launch) (D : va_G) (cA : Nat → ClassId) (base : Nat) (pic : PIC) (ad : Nat → Nat) (th cl cnt : Int32) (nb d no ns : Nat) (b : Int32) (fM : pic 1000 = some (ad 1000, moE ad th nb cl cnt d no ns)) (hnb : nb ≤ 40)  : CI l yX6_isBlock cX6_isBlock 2 (some .boolean) { frames := 1, cells := 0, slots := 0, locals := 25 } 0 0 D cA base pic [.ref (ad 1000), .int b] (fun x pic1 => (pic = pic1 ∧ x = 1 ∧ (0 ≤ b.toInt ∧ b.toInt < nb)) ∨ (pic = pic1 ∧ x = 0 ∧ ¬ (0 ≤ b.toInt ∧ b.toInt < nb))) := by
  refine ofI (by decide) (Nat.le_of_ble_eq_true rfl) ?_
  intro p e s m below meth c K hr hlk hnm
  refine v_iload_n K 1 dX6_isBlock_0 rfl rfl ?_
  refine v_i2l K dX6_isBlock_1 ?_
  refine v_lconst (v := 0) K dX6_isBlock_2 (by decide) ?_
  refine v_aload_n K 0 dX6_isBlock_3 rfl rfl ?_
  refine gf_X6_67 K dX6_isBlock_4 fM rfl ?_
  refine v_iconst (v := nI 1) K dX6_isBlock_7 (by decide) ?_
  refine v_isub K dX6_isBlock_8 ?_
  refine v_i2l K dX6_isBlock_9 ?_
  refine cl_X6_70 K dX6_isBlock_10 (c_X6_in l D cA base pic _ _ _) rfl rfl ⟨by decide, by decide⟩ (Nat.le_of_ble_eq_true rfl) ⟨by decide, by decide⟩ (fun x10 pic1 hx2 => ?_)
  rcases hx2 with ⟨rfl, rfl, hp⟩ | ⟨rfl, rfl, hq⟩
  · simp only [i2lT, show (0 : Int64).toInt = 0 from by decide, show (nI nb - nI 1).toInt = ((nb : Nat) : Int) - 1 from pk_sub_toInt (by omega) (by omega)] at hp
    exact v_zret K dX6_isBlock_13 hr (narB (by first | exact isB0 | exact isB1 | assumption)) hlk (by decide) (by decide) (by first | exact (Or.inl ⟨rfl, rfl, by omega⟩) | exact (Or.inr ⟨rfl, rfl, by omega⟩))
  · simp only [i2lT, show (0 : Int64).toInt = 0 from by decide, show (nI nb - nI 1).toInt = ((nb : Nat) : Int) - 1 from pk_sub_toInt (by omega) (by omega)] at hq
    exact v_zret K dX6_isBlock_13 hr (narB (by first | exact isB0 | exact isB1 | assumption)) hlk (by decide) (by decide) (by first | exact (Or.inl ⟨rfl, rfl, by omega⟩) | exact (Or.inr ⟨rfl, rfl, by omega⟩))

set_option maxHeartbeats 4000000 in
set_option maxRecDepth 100000 in
theorem c_X6_left (l : Launch) (D : va_G) (cA : Nat → ClassId) (base : Nat) (pic : PIC) (ad : Nat → Nat) (th cl cnt : Int32) (nb d no ns : Nat) (lim use beg cau : Nat → Int32) (fM : pic 1000 = some (ad 1000, moE ad th nb cl cnt d no ns)) (hC : MCalls pic cA ad lim use beg cau) (hd : d ≤ 8)  : CI l yX6_left cX6_left 1 (some .int) { frames := 0, cells := 0, slots := 0, locals := 0 } 0 0 D cA base pic [.ref (ad 1000)] (fun x pic1 => pic = pic1 ∧ x = leftF d lim use) := by
  refine ofI (by decide) (Nat.le_of_ble_eq_true rfl) ?_
  intro p e s m below meth c K hr hlk hnm
  obtain ⟨mc1, mc2, mc3, mc4⟩ := hC
  refine v_aload_n K 0 dX6_left_0 rfl rfl ?_
  refine gf_X6_74 K dX6_left_1 fM rfl ?_
  refine v_if_ne K 11 dX6_left_4 (by decide) (nI_toInt (by omega)) (fun c4 => ?_) (fun c4 => ?_)
  · refine v_aload_n K 0 dX6_left_11 rfl rfl ?_
    refine gf_X6_36 K dX6_left_12 fM rfl ?_
    refine v_aload_n K 0 dX6_left_15 rfl rfl ?_
    refine gf_X6_74 K dX6_left_16 fM rfl ?_
    refine v_iconst (v := nI 1) K dX6_left_19 (by decide) ?_
    refine v_isubN K dX6_left_20 (by omega) ?_
    refine v_iald K dX6_left_21 mc1 (by omega) (by decide) ?_
    refine v_aload_n K 0 dX6_left_22 rfl rfl ?_
    refine gf_X6_39 K dX6_left_23 fM rfl ?_
    refine v_aload_n K 0 dX6_left_26 rfl rfl ?_
    refine gf_X6_74 K dX6_left_27 fM rfl ?_
    refine v_iconst (v := nI 1) K dX6_left_30 (by decide) ?_
    refine v_isubN K dX6_left_31 (by omega) ?_
    refine v_iald K dX6_left_32 mc2 (by omega) (by decide) ?_
    refine v_isub K dX6_left_33 ?_
    exact v_iret K dX6_left_34 hr hlk (by decide) (by decide) (by first | exact (⟨rfl, by rw [leftF, if_pos (by omega)]; rfl⟩) | exact (⟨rfl, by rw [leftF, if_neg (by omega)]⟩))
  · refine v_iconst (v := nI 0) K dX6_left_7 (by decide) ?_
    refine v_goto K 34 dX6_left_8 (by decide) ?_
    exact v_iret K dX6_left_34 hr hlk (by decide) (by decide) (by first | exact (⟨rfl, by rw [leftF, if_pos (by omega)]; rfl⟩) | exact (⟨rfl, by rw [leftF, if_neg (by omega)]⟩))

set_option maxHeartbeats 4000000 in
set_option maxRecDepth 100000 in
theorem c_X6_over (l : Launch) (D : va_G) (cA : Nat → ClassId) (base : Nat) (pic : PIC) (ad : Nat → Nat) (th cl cnt : Int32) (nb d no ns : Nat) (lim use beg cau : Nat → Int32) (fM : pic 1000 = some (ad 1000, moE ad th nb cl cnt d no ns)) (hC : MCalls pic cA ad lim use beg cau) (hd : d ≤ 8) (h0 : 0 < d)  : CV l yX6_over cX6_over 1 none { frames := 0, cells := 0, slots := 0, locals := 0 } 0 0 D cA base pic [.ref (ad 1000)] (fun pic1 => pic1 1000 = some (ad 1000, moE ad th nb cl cnt (d - 1) no ns) ∧ MCalls pic1 cA ad lim (popU d use) beg cau ∧ ∀ q, ¬ (q = 1000 ∨ 1013 ≤ q ∧ q < 1017) → pic1 q = pic q) := by
  refine ofV (by decide) (Nat.le_of_ble_eq_true rfl) ?_
  intro p e s m below meth c K hr hlk hnm
  have FR : ∀ q, ¬ (q = 1000 ∨ 1013 ≤ q ∧ q < 1017) → pic q = pic q := fun _ _ => rfl
  obtain ⟨mc1, mc2, mc3, mc4⟩ := hC
  refine v_aload_n K 0 dX6_over_0 rfl rfl ?_
  refine v_dup K dX6_over_1 rfl ?_
  refine gf_X6_74 K dX6_over_2 fM rfl ?_
  refine v_iconst (v := nI 1) K dX6_over_5 (by decide) ?_
  refine v_isubN K dX6_over_6 (by omega) ?_
  refine pf_X6_74 K dX6_over_7 fM (Nat.le_of_ble_eq_true rfl) (fun pic3 zg1 zf2 => ?_)
  replace fM := zg1
  replace mc1 := (zf2 _ (by omega)).trans mc1
  replace mc2 := (zf2 _ (by omega)).trans mc2
  replace mc3 := (zf2 _ (by omega)).trans mc3
  replace mc4 := (zf2 _ (by omega)).trans mc4
  have FR : ∀ q, ¬ (q = 1000 ∨ 1013 ≤ q ∧ q < 1017) → pic3 q = pic q := fun q hq => (zf2 q (by omega)).trans (FR q hq)
  refine v_aload_n K 0 dX6_over_10 rfl rfl ?_
  refine gf_X6_74 K dX6_over_11 fM rfl ?_
  refine v_if_le K 40 dX6_over_14 (by decide) (nI_toInt (by omega)) (fun c14 => ?_) (fun c14 => ?_)
  · exact v_vret K dX6_over_40 hr hlk (by decide) (by decide) (by first | exact (⟨fM, ⟨mc1, by rw [popU, if_pos (by omega)]; exact mc2, mc3, mc4⟩, FR⟩) | exact (⟨fM, ⟨mc1, by rw [popU, if_neg (by omega)]; exact mc2, mc3, mc4⟩, FR⟩))
  · refine v_aload_n K 0 dX6_over_17 rfl rfl ?_
    refine gf_X6_39 K dX6_over_18 fM rfl ?_
    refine v_aload_n K 0 dX6_over_21 rfl rfl ?_
    refine gf_X6_74 K dX6_over_22 fM rfl ?_
    refine v_iconst (v := nI 1) K dX6_over_25 (by decide) ?_
    refine v_isubN K dX6_over_26 (by omega) ?_
    refine v_dup2 K dX6_over_27 rfl rfl ?_
    refine v_iald K dX6_over_28 mc2 (by omega) (by decide) ?_
    refine v_aload_n K 0 dX6_over_29 rfl rfl ?_
    refine gf_X6_39 K dX6_over_30 fM rfl ?_
    refine v_aload_n K 0 dX6_over_33 rfl rfl ?_
    refine gf_X6_74 K dX6_over_34 fM rfl ?_
    refine v_iald K dX6_over_37 mc2 (by omega) (by decide) ?_
    refine v_iadd K dX6_over_38 ?_
    refine v_iast K dX6_over_39 mc2 (by omega) (by decide) (fun pic6 zg4 zf5 => ?_)
    replace fM := (zf5 _ (by omega)).trans fM
    replace mc1 := (zf5 _ (by omega)).trans mc1
    replace mc2 := zg4
    replace mc3 := (zf5 _ (by omega)).trans mc3
    replace mc4 := (zf5 _ (by omega)).trans mc4
    have FR : ∀ q, ¬ (q = 1000 ∨ 1013 ≤ q ∧ q < 1017) → pic6 q = pic q := fun q hq => (zf5 q (by omega)).trans (FR q hq)
    exact v_vret K dX6_over_40 hr hlk (by decide) (by decide) (by first | exact (⟨fM, ⟨mc1, by rw [popU, if_pos (by omega)]; exact mc2, mc3, mc4⟩, FR⟩) | exact (⟨fM, ⟨mc1, by rw [popU, if_neg (by omega)]; exact mc2, mc3, mc4⟩, FR⟩))

set_option maxHeartbeats 4000000 in
set_option maxRecDepth 100000 in
theorem l_X6_fails {p : Program} {l : Launch} {e : Env} {s : State} {m : MethodId} {args : Array Value} {below : List Frame} {meth : Method} {c : Code} {Q : State → Prop} {D : va_G} {cA : Nat → ClassId} {base : Nat} {cw : Cond} (K : KX p m c cX6_fails 3 s args cw RX6 D cA) (ad : Nat → Nat) (th cl : Int32) (nb no ns : Nat) (lim beg cau : Nat → Int32) (pic0 : PIC) : ∀ (d : Nat) (pic : PIC) (use : Nat → Int32) (cnt : Int32) (k : Nat), d + 1 ≤ 8 → pic 1000 = some (ad 1000, moE ad th nb cl cnt (d + 1) no ns) → MCalls pic cA ad lim use beg cau → (∀ q, ¬ (q = 1000 ∨ 1013 ≤ q ∧ q < 1017) → pic q = pic0 q) → (∀ pic1 : PIC, pic1 1000 = some (ad 1000, moE ad th nb cl (failF beg cau (d + 1) use cnt).2.2.1 (failF beg cau (d + 1) use cnt).1 no ns) → MCalls pic1 cA ad lim (failF beg cau (d + 1) use cnt).2.1 beg cau → (∀ q, ¬ (q = 1000 ∨ 1013 ≤ q ∧ q < 1017) → pic1 q = pic0 q) → V p l e { frames := 1, cells := 0, slots := 0, locals := 20 } s m args below meth c Q D base 3 pic1 (lvOf [(1, .int (nI (k + (failF beg cau (d + 1) use cnt).2.2.2)))]) 70 [] 0 0) → V p l e { frames := 1, cells := 0, slots := 0, locals := 20 } s m args below meth c Q D base 3 pic (lvOf [(0, .ref (ad 1000)), (1, .int (nI (k))), (2, .int (nI 1))]) 4 [] 0 0 := by
  intro d
  induction d with
  | zero =>
    intro pic use cnt k hd fM hC FR kx
    obtain ⟨mc1, mc2, mc3, mc4⟩ := hC
    refine v_iload_n K 2 dX6_fails_4 rfl rfl ?_
    refine v_if_eq K 70 dX6_fails_5 (by decide) rfl (fun c => absurd c (by decide)) (fun _ => ?_)
    refine v_aload_n K 0 dX6_fails_8 rfl rfl ?_
    refine v_aload_n K 0 dX6_fails_9 rfl rfl ?_
    refine gf_X6_45 K dX6_fails_10 fM rfl ?_
    refine v_aload_n K 0 dX6_fails_13 rfl rfl ?_
    refine gf_X6_74 K dX6_fails_14 fM rfl ?_
    refine v_iconst (v := nI 1) K dX6_fails_17 (by decide) ?_
    refine v_isubN K dX6_fails_18 (by omega) ?_
    refine v_iald K dX6_fails_19 mc4 (by omega) (by decide) ?_
    refine pf_X6_77 K dX6_fails_20 fM (Nat.le_of_ble_eq_true rfl) (fun pic3 zg1 zf2 => ?_)
    replace fM := zg1
    replace mc1 := (zf2 _ (by omega)).trans mc1
    replace mc2 := (zf2 _ (by omega)).trans mc2
    replace mc3 := (zf2 _ (by omega)).trans mc3
    replace mc4 := (zf2 _ (by omega)).trans mc4
    have FR : ∀ q, ¬ (q = 1000 ∨ 1013 ≤ q ∧ q < 1017) → pic3 q = pic0 q := fun q hq => (zf2 q (by omega)).trans (FR q hq)
    refine v_aload_n K 0 dX6_fails_23 rfl rfl ?_
    refine gf_X6_42 K dX6_fails_24 fM rfl ?_
    refine v_aload_n K 0 dX6_fails_27 rfl rfl ?_
    refine gf_X6_74 K dX6_fails_28 fM rfl ?_
    refine v_iconst (v := nI 1) K dX6_fails_31 (by decide) ?_
    refine v_isubN K dX6_fails_32 (by omega) ?_
    refine v_zald K dX6_fails_33 mc3 (by omega) (by decide) ?_
    refine v_if_ne K 41 dX6_fails_34 (by decide) rfl (fun c34 => ?_) (fun c34 => ?_)
    · refine v_iconst (v := nI 0) K dX6_fails_41 (by decide) ?_
      refine v_istore_n K 2 dX6_fails_42 rfl (by decide) ?_
      refine v_aload_n K 0 dX6_fails_43 rfl rfl ?_
      refine cl_X6_80 K dX6_fails_44 fM (c_X6_over l D cA base pic3 ad th cl _ nb (0 + 1) no ns lim use beg cau fM ⟨mc1, mc2, mc3, mc4⟩ (by omega) (by omega)) rfl rfl ⟨by decide, by decide⟩ (Nat.le_of_ble_eq_true rfl) ⟨by decide, by decide⟩ (fun pic4 hx5 => ?_)
      obtain ⟨h0, ⟨h1, h2, h3, h4⟩, h5⟩ := hx5
      replace fM := h0
      replace mc1 := h1
      replace mc2 := h2
      replace mc3 := h3
      replace mc4 := h4
      have FR : ∀ q, ¬ (q = 1000 ∨ 1013 ≤ q ∧ q < 1017) → pic4 q = pic0 q := fun q hq => (h5 q (by omega)).trans (FR q hq)
      refine v_iincN K 1 dX6_fails_47 rfl (by decide) (by decide) ?_
      refine v_iload_n K 2 dX6_fails_50 rfl rfl ?_
      refine v_if_eq K 65 dX6_fails_51 (by decide) rfl (fun _ => ?_) (fun c => absurd c (by decide))
      refine v_iconst (v := nI 0) K dX6_fails_65 (by decide) ?_
      refine v_istore_n K 2 dX6_fails_66 rfl (by decide) ?_
      refine v_goto K 4 dX6_fails_67 (by decide) ?_
      refine v_iload_n K 2 dX6_fails_4 rfl rfl ?_
      refine v_if_eq K 70 dX6_fails_5 (by decide) rfl (fun _ => ?_) (fun c => absurd c (by decide))
      simp only [failF_1 (nt0 c34)] at kx
      refine v_at [(1, .int (nI (k + 1)))] (lcons rfl (lnil)) ?_
      exact kx pic4 fM ⟨mc1, mc2, mc3, mc4⟩ FR
    · refine v_iconst (v := nI 1) K dX6_fails_37 (by decide) ?_
      refine v_goto K 42 dX6_fails_38 (by decide) ?_
      refine v_istore_n K 2 dX6_fails_42 rfl (by decide) ?_
      refine v_aload_n K 0 dX6_fails_43 rfl rfl ?_
      refine cl_X6_80 K dX6_fails_44 fM (c_X6_over l D cA base pic3 ad th cl _ nb (0 + 1) no ns lim use beg cau fM ⟨mc1, mc2, mc3, mc4⟩ (by omega) (by omega)) rfl rfl ⟨by decide, by decide⟩ (Nat.le_of_ble_eq_true rfl) ⟨by decide, by decide⟩ (fun pic6 hx7 => ?_)
      obtain ⟨h0, ⟨h1, h2, h3, h4⟩, h5⟩ := hx7
      replace fM := h0
      replace mc1 := h1
      replace mc2 := h2
      replace mc3 := h3
      replace mc4 := h4
      have FR : ∀ q, ¬ (q = 1000 ∨ 1013 ≤ q ∧ q < 1017) → pic6 q = pic0 q := fun q hq => (h5 q (by omega)).trans (FR q hq)
      refine v_iincN K 1 dX6_fails_47 rfl (by decide) (by decide) ?_
      refine v_iload_n K 2 dX6_fails_50 rfl rfl ?_
      refine v_if_eq K 65 dX6_fails_51 (by decide) rfl (fun c => absurd c (by decide)) (fun _ => ?_)
      refine v_aload_n K 0 dX6_fails_54 rfl rfl ?_
      refine gf_X6_74 K dX6_fails_55 fM rfl ?_
      refine v_if_le K 65 dX6_fails_58 (by decide) (nI_toInt (by omega)) (fun c58 => ?_) (fun c58 => absurd c58 (by omega))
      refine v_iconst (v := nI 0) K dX6_fails_65 (by decide) ?_
      refine v_istore_n K 2 dX6_fails_66 rfl (by decide) ?_
      refine v_goto K 4 dX6_fails_67 (by decide) ?_
      refine v_iload_n K 2 dX6_fails_4 rfl rfl ?_
      refine v_if_eq K 70 dX6_fails_5 (by decide) rfl (fun _ => ?_) (fun c => absurd c (by decide))
      simp only [failF_0 (t0 c34)] at kx
      refine v_at [(1, .int (nI (k + 1)))] (lcons rfl (lnil)) ?_
      exact kx pic6 fM ⟨mc1, mc2, mc3, mc4⟩ FR
  | succ e1 ih =>
    intro pic use cnt k hd fM hC FR kx
    obtain ⟨mc1, mc2, mc3, mc4⟩ := hC
    refine v_iload_n K 2 dX6_fails_4 rfl rfl ?_
    refine v_if_eq K 70 dX6_fails_5 (by decide) rfl (fun c => absurd c (by decide)) (fun _ => ?_)
    refine v_aload_n K 0 dX6_fails_8 rfl rfl ?_
    refine v_aload_n K 0 dX6_fails_9 rfl rfl ?_
    refine gf_X6_45 K dX6_fails_10 fM rfl ?_
    refine v_aload_n K 0 dX6_fails_13 rfl rfl ?_
    refine gf_X6_74 K dX6_fails_14 fM rfl ?_
    refine v_iconst (v := nI 1) K dX6_fails_17 (by decide) ?_
    refine v_isubN K dX6_fails_18 (by omega) ?_
    refine v_iald K dX6_fails_19 mc4 (by omega) (by decide) ?_
    refine pf_X6_77 K dX6_fails_20 fM (Nat.le_of_ble_eq_true rfl) (fun pic3 zg1 zf2 => ?_)
    replace fM := zg1
    replace mc1 := (zf2 _ (by omega)).trans mc1
    replace mc2 := (zf2 _ (by omega)).trans mc2
    replace mc3 := (zf2 _ (by omega)).trans mc3
    replace mc4 := (zf2 _ (by omega)).trans mc4
    have FR : ∀ q, ¬ (q = 1000 ∨ 1013 ≤ q ∧ q < 1017) → pic3 q = pic0 q := fun q hq => (zf2 q (by omega)).trans (FR q hq)
    refine v_aload_n K 0 dX6_fails_23 rfl rfl ?_
    refine gf_X6_42 K dX6_fails_24 fM rfl ?_
    refine v_aload_n K 0 dX6_fails_27 rfl rfl ?_
    refine gf_X6_74 K dX6_fails_28 fM rfl ?_
    refine v_iconst (v := nI 1) K dX6_fails_31 (by decide) ?_
    refine v_isubN K dX6_fails_32 (by omega) ?_
    refine v_zald K dX6_fails_33 mc3 (by omega) (by decide) ?_
    refine v_if_ne K 41 dX6_fails_34 (by decide) rfl (fun c34 => ?_) (fun c34 => ?_)
    · refine v_iconst (v := nI 0) K dX6_fails_41 (by decide) ?_
      refine v_istore_n K 2 dX6_fails_42 rfl (by decide) ?_
      refine v_aload_n K 0 dX6_fails_43 rfl rfl ?_
      refine cl_X6_80 K dX6_fails_44 fM (c_X6_over l D cA base pic3 ad th cl _ nb (e1 + 1 + 1) no ns lim use beg cau fM ⟨mc1, mc2, mc3, mc4⟩ (by omega) (by omega)) rfl rfl ⟨by decide, by decide⟩ (Nat.le_of_ble_eq_true rfl) ⟨by decide, by decide⟩ (fun pic4 hx5 => ?_)
      obtain ⟨h0, ⟨h1, h2, h3, h4⟩, h5⟩ := hx5
      replace fM := h0
      replace mc1 := h1
      replace mc2 := h2
      replace mc3 := h3
      replace mc4 := h4
      have FR : ∀ q, ¬ (q = 1000 ∨ 1013 ≤ q ∧ q < 1017) → pic4 q = pic0 q := fun q hq => (h5 q (by omega)).trans (FR q hq)
      refine v_iincN K 1 dX6_fails_47 rfl (by decide) (by decide) ?_
      refine v_iload_n K 2 dX6_fails_50 rfl rfl ?_
      refine v_if_eq K 65 dX6_fails_51 (by decide) rfl (fun _ => ?_) (fun c => absurd c (by decide))
      refine v_iconst (v := nI 0) K dX6_fails_65 (by decide) ?_
      refine v_istore_n K 2 dX6_fails_66 rfl (by decide) ?_
      refine v_goto K 4 dX6_fails_67 (by decide) ?_
      refine v_iload_n K 2 dX6_fails_4 rfl rfl ?_
      refine v_if_eq K 70 dX6_fails_5 (by decide) rfl (fun _ => ?_) (fun c => absurd c (by decide))
      simp only [failF_1 (d := e1 + 1) (nt0 c34)] at kx
      refine v_at [(1, .int (nI (k + 1)))] (lcons rfl (lnil)) ?_
      exact kx pic4 fM ⟨mc1, mc2, mc3, mc4⟩ FR
    · refine v_iconst (v := nI 1) K dX6_fails_37 (by decide) ?_
      refine v_goto K 42 dX6_fails_38 (by decide) ?_
      refine v_istore_n K 2 dX6_fails_42 rfl (by decide) ?_
      refine v_aload_n K 0 dX6_fails_43 rfl rfl ?_
      refine cl_X6_80 K dX6_fails_44 fM (c_X6_over l D cA base pic3 ad th cl _ nb (e1 + 1 + 1) no ns lim use beg cau fM ⟨mc1, mc2, mc3, mc4⟩ (by omega) (by omega)) rfl rfl ⟨by decide, by decide⟩ (Nat.le_of_ble_eq_true rfl) ⟨by decide, by decide⟩ (fun pic6 hx7 => ?_)
      obtain ⟨h0, ⟨h1, h2, h3, h4⟩, h5⟩ := hx7
      replace fM := h0
      replace mc1 := h1
      replace mc2 := h2
      replace mc3 := h3
      replace mc4 := h4
      have FR : ∀ q, ¬ (q = 1000 ∨ 1013 ≤ q ∧ q < 1017) → pic6 q = pic0 q := fun q hq => (h5 q (by omega)).trans (FR q hq)
      refine v_iincN K 1 dX6_fails_47 rfl (by decide) (by decide) ?_
      refine v_iload_n K 2 dX6_fails_50 rfl rfl ?_
      refine v_if_eq K 65 dX6_fails_51 (by decide) rfl (fun c => absurd c (by decide)) (fun _ => ?_)
      refine v_aload_n K 0 dX6_fails_54 rfl rfl ?_
      refine gf_X6_74 K dX6_fails_55 fM rfl ?_
      refine v_if_le K 65 dX6_fails_58 (by decide) (nI_toInt (by omega)) (fun c58 => absurd c58 (by omega)) (fun c58 => ?_)
      refine v_iconst (v := nI 1) K dX6_fails_61 (by decide) ?_
      refine v_goto K 66 dX6_fails_62 (by decide) ?_
      refine v_istore_n K 2 dX6_fails_66 rfl (by decide) ?_
      refine v_goto K 4 dX6_fails_67 (by decide) ?_
      simp only [failF_0 (d := e1 + 1) (t0 c34)] at kx
      refine v_at [(0, .ref (ad 1000)), (1, .int (nI (k + 1))), (2, .int (nI 1))] (lcons rfl (lcons rfl (lcons rfl (lnil)))) ?_
      exact ih pic6 (popU (e1 + 1 + 1) use) (beg (e1 + 1)) (k + 1) (by omega) fM ⟨mc1, mc2, mc3, mc4⟩ FR (fun pic1 h1 h2 h3 => by rw [show k + 1 + (failF beg cau (e1 + 1) (popU (e1 + 1 + 1) use) (beg (e1 + 1))).2.2.2 = k + ((failF beg cau (e1 + 1) (popU (e1 + 1 + 1) use) (beg (e1 + 1))).2.2.2 + 1) from by omega]; exact kx pic1 h1 h2 h3)

set_option maxHeartbeats 4000000 in
set_option maxRecDepth 100000 in
theorem c_X6_fails (l : Launch) (D : va_G) (cA : Nat → ClassId) (base : Nat) (pic : PIC) (ad : Nat → Nat) (th cl cnt : Int32) (nb d no ns : Nat) (lim use beg cau : Nat → Int32) (fM : pic 1000 = some (ad 1000, moE ad th nb cl cnt d no ns)) (hC : MCalls pic cA ad lim use beg cau) (hd : d ≤ 8) (h0 : 0 < d)  : CI l yX6_fails cX6_fails 3 (some .int) { frames := 1, cells := 0, slots := 0, locals := 20 } 0 0 D cA base pic [.ref (ad 1000)] (fun x pic1 => x = -20 - nI (failF beg cau d use cnt).2.2.2 ∧ pic1 1000 = some (ad 1000, moE ad th nb cl (failF beg cau d use cnt).2.2.1 (failF beg cau d use cnt).1 no ns) ∧ MCalls pic1 cA ad lim (failF beg cau d use cnt).2.1 beg cau ∧ ∀ q, ¬ (q = 1000 ∨ 1013 ≤ q ∧ q < 1017) → pic1 q = pic q) := by
  refine ofI (by decide) (Nat.le_of_ble_eq_true rfl) ?_
  intro p e s m below meth c K hr hlk hnm
  have FR : ∀ q, ¬ (q = 1000 ∨ 1013 ≤ q ∧ q < 1017) → pic q = pic q := fun _ _ => rfl
  obtain ⟨mc1, mc2, mc3, mc4⟩ := hC
  refine v_iconst (v := nI 0) K dX6_fails_0 (by decide) ?_
  refine v_istore_n K 1 dX6_fails_1 rfl (by decide) ?_
  refine v_iconst (v := nI 1) K dX6_fails_2 (by decide) ?_
  refine v_istore_n K 2 dX6_fails_3 rfl (by decide) ?_
  obtain ⟨d1, rfl⟩ : ∃ z, d = z + 1 := ⟨d - 1, by omega⟩
  refine v_at [(0, .ref (ad 1000)), (1, .int (nI (0))), (2, .int (nI 1))] (lcons rfl (lcons rfl (lcons rfl (lnil)))) ?_
  refine l_X6_fails K ad th cl nb no ns lim beg cau pic d1 pic use cnt 0 hd fM ⟨mc1, mc2, mc3, mc4⟩ FR (fun pic1 h1 h2 h3 => ?_)
  rw [Nat.zero_add]
  refine v_bipush (v := -20) K dX6_fails_70 (by decide) ?_
  refine v_iload_n K 1 dX6_fails_72 rfl rfl ?_
  refine v_isub K dX6_fails_73 ?_
  exact v_iret K dX6_fails_74 hr hlk (by decide) (by decide) (⟨rfl, h1, h2, h3⟩)

theorem pushL_0 {d : Nat} {lim use : Nat → Int32} {x : Int32} (h : d = 0) : pushL d lim use x = x := by rw [pushL, if_pos h]
theorem pushL_1 {d : Nat} {lim use : Nat → Int32} {x : Int32} (h : ¬ d = 0) (h2 : (leftF d lim use).toInt < x.toInt) : pushL d lim use x = leftF d lim use := by rw [pushL, if_neg h, if_pos (Int32.lt_iff_toInt_lt.mpr h2)]
theorem pushL_2 {d : Nat} {lim use : Nat → Int32} {x : Int32} (h : ¬ d = 0) (h2 : ¬ (leftF d lim use).toInt < x.toInt) : pushL d lim use x = x := by rw [pushL, if_neg h, if_neg (fun q => h2 (Int32.lt_iff_toInt_lt.mp q))]
set_option maxHeartbeats 4000000 in
set_option maxRecDepth 100000 in
theorem c_X6_begin (l : Launch) (D : va_G) (cA : Nat → ClassId) (base : Nat) (pic : PIC) (ad : Nat → Nat) (th cl cnt : Int32) (nb d no ns : Nat) (lim use beg cau : Nat → Int32) (x k : Int32) (fM : pic 1000 = some (ad 1000, moE ad th nb cl cnt d no ns)) (hC : MCalls pic cA ad lim use beg cau) (hd : d ≤ 8) (hk : isB k)  : CI l yX6_begin cX6_begin 4 (some .int) { frames := 2, cells := 0, slots := 0, locals := 42 } 0 0 D cA base pic [.ref (ad 1000), .int x, .int k] (fun x9 pic1 => x9 = (beginF d lim use beg cau cnt x k).1 ∧ pic1 1000 = some (ad 1000, moE ad th nb cl (beginF d lim use beg cau cnt x k).2.2.2.2.2.2 (beginF d lim use beg cau cnt x k).2.1 no ns) ∧ MCalls pic1 cA ad (beginF d lim use beg cau cnt x k).2.2.1 (beginF d lim use beg cau cnt x k).2.2.2.1 (beginF d lim use beg cau cnt x k).2.2.2.2.1 (beginF d lim use beg cau cnt x k).2.2.2.2.2.1 ∧ ∀ q, ¬ (q = 1000 ∨ 1013 ≤ q ∧ q < 1017) → pic1 q = pic q) := by
  refine ofI (by decide) (Nat.le_of_ble_eq_true rfl) ?_
  intro p e s m below meth c K hr hlk hnm
  have FR : ∀ q, ¬ (q = 1000 ∨ 1013 ≤ q ∧ q < 1017) → pic q = pic q := fun _ _ => rfl
  obtain ⟨mc1, mc2, mc3, mc4⟩ := hC
  refine v_iload_n K 1 dX6_begin_0 rfl rfl ?_
  refine v_i2l K dX6_begin_1 ?_
  refine v_lconst (v := 0) K dX6_begin_2 (by decide) ?_
  refine v_ldc2 K gw_120 dX6_begin_3 ?_
  refine cl_X6_70 K dX6_begin_6 (c_X6_in l D cA base pic _ _ _) rfl rfl ⟨by decide, by decide⟩ (Nat.le_of_ble_eq_true rfl) ⟨by decide, by decide⟩ (fun x6 pic1 hx2 => ?_)
  rcases hx2 with ⟨rfl, rfl, hp⟩ | ⟨rfl, rfl, hq⟩
  · simp only [i2lT, show (0 : Int64).toInt = 0 from by decide, show (10000 : Int64).toInt = 10000 from by decide] at hp
    refine v_if_ne K 14 dX6_begin_9 (by decide) rfl (fun _ => ?_) (fun c => absurd c (by decide))
    refine v_aload_n K 0 dX6_begin_14 rfl rfl ?_
    refine gf_X6_74 K dX6_begin_15 fM rfl ?_
    refine v_bipush (v := nI 8) K dX6_begin_18 (by decide) ?_
    refine v_icmp_ne K 26 dX6_begin_20 (by decide) (nI_toInt (by omega)) (nI_toInt (by omega)) (fun c20 => ?_) (fun c20 => ?_)
    · refine v_iload_n K 1 dX6_begin_26 rfl rfl ?_
      refine v_istore_n K 3 dX6_begin_27 rfl (by decide) ?_
      refine v_aload_n K 0 dX6_begin_28 rfl rfl ?_
      refine gf_X6_74 K dX6_begin_29 fM rfl ?_
      refine v_if_le K 80 dX6_begin_32 (by decide) (nI_toInt (by omega)) (fun c32 => ?_) (fun c32 => ?_)
      · refine v_aload_n K 0 dX6_begin_80 rfl rfl ?_
        refine gf_X6_36 K dX6_begin_81 fM rfl ?_
        refine v_aload_n K 0 dX6_begin_84 rfl rfl ?_
        refine gf_X6_74 K dX6_begin_85 fM rfl ?_
        refine v_iload_n K 3 dX6_begin_88 rfl rfl ?_
        refine v_iast K dX6_begin_89 mc1 (by omega) (by decide) (fun pic5 zg3 zf4 => ?_)
        replace fM := (zf4 _ (by omega)).trans fM
        replace mc1 := zg3
        replace mc2 := (zf4 _ (by omega)).trans mc2
        replace mc3 := (zf4 _ (by omega)).trans mc3
        replace mc4 := (zf4 _ (by omega)).trans mc4
        have FR : ∀ q, ¬ (q = 1000 ∨ 1013 ≤ q ∧ q < 1017) → pic5 q = pic q := fun q hq => (zf4 q (by omega)).trans (FR q hq)
        refine v_aload_n K 0 dX6_begin_90 rfl rfl ?_
        refine gf_X6_39 K dX6_begin_91 fM rfl ?_
        refine v_aload_n K 0 dX6_begin_94 rfl rfl ?_
        refine gf_X6_74 K dX6_begin_95 fM rfl ?_
        refine v_iconst (v := nI 0) K dX6_begin_98 (by decide) ?_
        refine v_iast K dX6_begin_99 mc2 (by omega) (by decide) (fun pic8 zg6 zf7 => ?_)
        replace fM := (zf7 _ (by omega)).trans fM
        replace mc1 := (zf7 _ (by omega)).trans mc1
        replace mc2 := zg6
        replace mc3 := (zf7 _ (by omega)).trans mc3
        replace mc4 := (zf7 _ (by omega)).trans mc4
        have FR : ∀ q, ¬ (q = 1000 ∨ 1013 ≤ q ∧ q < 1017) → pic8 q = pic q := fun q hq => (zf7 q (by omega)).trans (FR q hq)
        refine v_aload_n K 0 dX6_begin_100 rfl rfl ?_
        refine gf_X6_42 K dX6_begin_101 fM rfl ?_
        refine v_aload_n K 0 dX6_begin_104 rfl rfl ?_
        refine gf_X6_74 K dX6_begin_105 fM rfl ?_
        refine v_iload_n K 2 dX6_begin_108 rfl rfl ?_
        refine v_zast K dX6_begin_109 mc3 (by omega) (by decide) (narB (by first | exact isB0 | exact isB1 | assumption)) (fun pic11 zg9 zf10 => ?_)
        replace fM := (zf10 _ (by omega)).trans fM
        replace mc1 := (zf10 _ (by omega)).trans mc1
        replace mc2 := (zf10 _ (by omega)).trans mc2
        replace mc3 := zg9
        replace mc4 := (zf10 _ (by omega)).trans mc4
        have FR : ∀ q, ¬ (q = 1000 ∨ 1013 ≤ q ∧ q < 1017) → pic11 q = pic q := fun q hq => (zf10 q (by omega)).trans (FR q hq)
        refine v_aload_n K 0 dX6_begin_110 rfl rfl ?_
        refine gf_X6_45 K dX6_begin_111 fM rfl ?_
        refine v_aload_n K 0 dX6_begin_114 rfl rfl ?_
        refine gf_X6_74 K dX6_begin_115 fM rfl ?_
        refine v_aload_n K 0 dX6_begin_118 rfl rfl ?_
        refine gf_X6_77 K dX6_begin_119 fM rfl ?_
        refine v_iast K dX6_begin_122 mc4 (by omega) (by decide) (fun pic14 zg12 zf13 => ?_)
        replace fM := (zf13 _ (by omega)).trans fM
        replace mc1 := (zf13 _ (by omega)).trans mc1
        replace mc2 := (zf13 _ (by omega)).trans mc2
        replace mc3 := (zf13 _ (by omega)).trans mc3
        replace mc4 := zg12
        have FR : ∀ q, ¬ (q = 1000 ∨ 1013 ≤ q ∧ q < 1017) → pic14 q = pic q := fun q hq => (zf13 q (by omega)).trans (FR q hq)
        refine v_aload_n K 0 dX6_begin_123 rfl rfl ?_
        refine v_dup K dX6_begin_124 rfl ?_
        refine gf_X6_74 K dX6_begin_125 fM rfl ?_
        refine v_iconst (v := nI 1) K dX6_begin_128 (by decide) ?_
        refine v_iaddN K dX6_begin_129 ?_
        refine pf_X6_74 K dX6_begin_130 fM (Nat.le_of_ble_eq_true rfl) (fun pic17 zg15 zf16 => ?_)
        replace fM := zg15
        replace mc1 := (zf16 _ (by omega)).trans mc1
        replace mc2 := (zf16 _ (by omega)).trans mc2
        replace mc3 := (zf16 _ (by omega)).trans mc3
        replace mc4 := (zf16 _ (by omega)).trans mc4
        have FR : ∀ q, ¬ (q = 1000 ∨ 1013 ≤ q ∧ q < 1017) → pic17 q = pic q := fun q hq => (zf16 q (by omega)).trans (FR q hq)
        refine v_aload_n K 0 dX6_begin_133 rfl rfl ?_
        refine gf_X6_74 K dX6_begin_134 fM rfl ?_
        exact v_iret K dX6_begin_137 hr hlk (by decide) (by decide) (by first | exact (by rw [beginF_0 (by omega)]; exact ⟨rfl, fM, ⟨mc1, mc2, mc3, mc4⟩, FR⟩) | exact (by rw [beginF_1 (by omega) (by omega)]; exact ⟨rfl, fM, ⟨mc1, mc2, mc3, mc4⟩, FR⟩) | exact (by rw [beginF_2 (by omega) (by omega) (by omega)]; exact ⟨rfl, fM, ⟨mc1, mc2, mc3, mc4⟩, FR⟩) | exact (by rw [beginF_3 (by omega) (by omega) (by omega), useP_0 (by omega), pushL_0 (by omega)]; exact ⟨rfl, fM, ⟨mc1, mc2, mc3, mc4⟩, FR⟩) | exact (by rw [beginF_3 (by omega) (by omega) (by omega), useP_1 (by omega), pushL_1 (by omega) (by omega)]; exact ⟨rfl, fM, ⟨mc1, mc2, mc3, mc4⟩, FR⟩) | exact (by rw [beginF_3 (by omega) (by omega) (by omega), useP_1 (by omega), pushL_2 (by omega) (by omega)]; exact ⟨rfl, fM, ⟨mc1, mc2, mc3, mc4⟩, FR⟩))
      · refine v_aload_n K 0 dX6_begin_35 rfl rfl ?_
        refine cl_X6_85 K dX6_begin_36 fM (c_X6_left l D cA base pic ad th cl cnt nb d no ns lim use beg cau fM ⟨mc1, mc2, mc3, mc4⟩ hd) rfl rfl ⟨by decide, by decide⟩ (Nat.le_of_ble_eq_true rfl) ⟨by decide, by decide⟩ (fun x36 pic18 hx19 => ?_)
        obtain ⟨rfl, rfl⟩ := hx19
        refine v_iconst (v := nI 1) K dX6_begin_39 (by decide) ?_
        refine v_icmp_ge K 48 dX6_begin_40 (by decide) rfl (nI_toInt (by omega)) (fun c40 => ?_) (fun c40 => ?_)
        · refine v_aload_n K 0 dX6_begin_48 rfl rfl ?_
          refine gf_X6_39 K dX6_begin_49 fM rfl ?_
          refine v_aload_n K 0 dX6_begin_52 rfl rfl ?_
          refine gf_X6_74 K dX6_begin_53 fM rfl ?_
          refine v_iconst (v := nI 1) K dX6_begin_56 (by decide) ?_
          refine v_isubN K dX6_begin_57 (by omega) ?_
          refine v_dup2 K dX6_begin_58 rfl rfl ?_
          refine v_iald K dX6_begin_59 mc2 (by omega) (by decide) ?_
          refine v_iconst (v := nI 1) K dX6_begin_60 (by decide) ?_
          refine v_iadd K dX6_begin_61 ?_
          refine v_iast K dX6_begin_62 mc2 (by omega) (by decide) (fun pic22 zg20 zf21 => ?_)
          replace fM := (zf21 _ (by omega)).trans fM
          replace mc1 := (zf21 _ (by omega)).trans mc1
          replace mc2 := zg20
          replace mc3 := (zf21 _ (by omega)).trans mc3
          replace mc4 := (zf21 _ (by omega)).trans mc4
          have FR : ∀ q, ¬ (q = 1000 ∨ 1013 ≤ q ∧ q < 1017) → pic22 q = pic q := fun q hq => (zf21 q (by omega)).trans (FR q hq)
          refine v_aload_n K 0 dX6_begin_63 rfl rfl ?_
          refine cl_X6_85 K dX6_begin_64 fM (c_X6_left l D cA base pic22 ad th cl cnt nb d no ns lim (upd use (d - 1) (use (d - 1) + nI 1)) beg cau fM ⟨mc1, mc2, mc3, mc4⟩ hd) rfl rfl ⟨by decide, by decide⟩ (Nat.le_of_ble_eq_true rfl) ⟨by decide, by decide⟩ (fun x64 pic23 hx24 => ?_)
          obtain ⟨rfl, rfl⟩ := hx24
          refine v_iload_n K 1 dX6_begin_67 rfl rfl ?_
          refine v_icmp_ge K 78 dX6_begin_68 (by decide) rfl rfl (fun c68 => ?_) (fun c68 => ?_)
          · refine v_iload_n K 1 dX6_begin_78 rfl rfl ?_
            refine v_istore_n K 3 dX6_begin_79 rfl (by decide) ?_
            refine v_aload_n K 0 dX6_begin_80 rfl rfl ?_
            refine gf_X6_36 K dX6_begin_81 fM rfl ?_
            refine v_aload_n K 0 dX6_begin_84 rfl rfl ?_
            refine gf_X6_74 K dX6_begin_85 fM rfl ?_
            refine v_iload_n K 3 dX6_begin_88 rfl rfl ?_
            refine v_iast K dX6_begin_89 mc1 (by omega) (by decide) (fun pic27 zg25 zf26 => ?_)
            replace fM := (zf26 _ (by omega)).trans fM
            replace mc1 := zg25
            replace mc2 := (zf26 _ (by omega)).trans mc2
            replace mc3 := (zf26 _ (by omega)).trans mc3
            replace mc4 := (zf26 _ (by omega)).trans mc4
            have FR : ∀ q, ¬ (q = 1000 ∨ 1013 ≤ q ∧ q < 1017) → pic27 q = pic q := fun q hq => (zf26 q (by omega)).trans (FR q hq)
            refine v_aload_n K 0 dX6_begin_90 rfl rfl ?_
            refine gf_X6_39 K dX6_begin_91 fM rfl ?_
            refine v_aload_n K 0 dX6_begin_94 rfl rfl ?_
            refine gf_X6_74 K dX6_begin_95 fM rfl ?_
            refine v_iconst (v := nI 0) K dX6_begin_98 (by decide) ?_
            refine v_iast K dX6_begin_99 mc2 (by omega) (by decide) (fun pic30 zg28 zf29 => ?_)
            replace fM := (zf29 _ (by omega)).trans fM
            replace mc1 := (zf29 _ (by omega)).trans mc1
            replace mc2 := zg28
            replace mc3 := (zf29 _ (by omega)).trans mc3
            replace mc4 := (zf29 _ (by omega)).trans mc4
            have FR : ∀ q, ¬ (q = 1000 ∨ 1013 ≤ q ∧ q < 1017) → pic30 q = pic q := fun q hq => (zf29 q (by omega)).trans (FR q hq)
            refine v_aload_n K 0 dX6_begin_100 rfl rfl ?_
            refine gf_X6_42 K dX6_begin_101 fM rfl ?_
            refine v_aload_n K 0 dX6_begin_104 rfl rfl ?_
            refine gf_X6_74 K dX6_begin_105 fM rfl ?_
            refine v_iload_n K 2 dX6_begin_108 rfl rfl ?_
            refine v_zast K dX6_begin_109 mc3 (by omega) (by decide) (narB (by first | exact isB0 | exact isB1 | assumption)) (fun pic33 zg31 zf32 => ?_)
            replace fM := (zf32 _ (by omega)).trans fM
            replace mc1 := (zf32 _ (by omega)).trans mc1
            replace mc2 := (zf32 _ (by omega)).trans mc2
            replace mc3 := zg31
            replace mc4 := (zf32 _ (by omega)).trans mc4
            have FR : ∀ q, ¬ (q = 1000 ∨ 1013 ≤ q ∧ q < 1017) → pic33 q = pic q := fun q hq => (zf32 q (by omega)).trans (FR q hq)
            refine v_aload_n K 0 dX6_begin_110 rfl rfl ?_
            refine gf_X6_45 K dX6_begin_111 fM rfl ?_
            refine v_aload_n K 0 dX6_begin_114 rfl rfl ?_
            refine gf_X6_74 K dX6_begin_115 fM rfl ?_
            refine v_aload_n K 0 dX6_begin_118 rfl rfl ?_
            refine gf_X6_77 K dX6_begin_119 fM rfl ?_
            refine v_iast K dX6_begin_122 mc4 (by omega) (by decide) (fun pic36 zg34 zf35 => ?_)
            replace fM := (zf35 _ (by omega)).trans fM
            replace mc1 := (zf35 _ (by omega)).trans mc1
            replace mc2 := (zf35 _ (by omega)).trans mc2
            replace mc3 := (zf35 _ (by omega)).trans mc3
            replace mc4 := zg34
            have FR : ∀ q, ¬ (q = 1000 ∨ 1013 ≤ q ∧ q < 1017) → pic36 q = pic q := fun q hq => (zf35 q (by omega)).trans (FR q hq)
            refine v_aload_n K 0 dX6_begin_123 rfl rfl ?_
            refine v_dup K dX6_begin_124 rfl ?_
            refine gf_X6_74 K dX6_begin_125 fM rfl ?_
            refine v_iconst (v := nI 1) K dX6_begin_128 (by decide) ?_
            refine v_iaddN K dX6_begin_129 ?_
            refine pf_X6_74 K dX6_begin_130 fM (Nat.le_of_ble_eq_true rfl) (fun pic39 zg37 zf38 => ?_)
            replace fM := zg37
            replace mc1 := (zf38 _ (by omega)).trans mc1
            replace mc2 := (zf38 _ (by omega)).trans mc2
            replace mc3 := (zf38 _ (by omega)).trans mc3
            replace mc4 := (zf38 _ (by omega)).trans mc4
            have FR : ∀ q, ¬ (q = 1000 ∨ 1013 ≤ q ∧ q < 1017) → pic39 q = pic q := fun q hq => (zf38 q (by omega)).trans (FR q hq)
            refine v_aload_n K 0 dX6_begin_133 rfl rfl ?_
            refine gf_X6_74 K dX6_begin_134 fM rfl ?_
            exact v_iret K dX6_begin_137 hr hlk (by decide) (by decide) (by first | exact (by rw [beginF_0 (by omega)]; exact ⟨rfl, fM, ⟨mc1, mc2, mc3, mc4⟩, FR⟩) | exact (by rw [beginF_1 (by omega) (by omega)]; exact ⟨rfl, fM, ⟨mc1, mc2, mc3, mc4⟩, FR⟩) | exact (by rw [beginF_2 (by omega) (by omega) (by omega)]; exact ⟨rfl, fM, ⟨mc1, mc2, mc3, mc4⟩, FR⟩) | exact (by rw [beginF_3 (by omega) (by omega) (by omega), useP_0 (by omega), pushL_0 (by omega)]; exact ⟨rfl, fM, ⟨mc1, mc2, mc3, mc4⟩, FR⟩) | exact (by rw [beginF_3 (by omega) (by omega) (by omega), useP_1 (by omega), pushL_1 (by omega) (by omega)]; exact ⟨rfl, fM, ⟨mc1, mc2, mc3, mc4⟩, FR⟩) | exact (by rw [beginF_3 (by omega) (by omega) (by omega), useP_1 (by omega), pushL_2 (by omega) (by omega)]; exact ⟨rfl, fM, ⟨mc1, mc2, mc3, mc4⟩, FR⟩))
          · refine v_aload_n K 0 dX6_begin_71 rfl rfl ?_
            refine cl_X6_85 K dX6_begin_72 fM (c_X6_left l D cA base pic22 ad th cl cnt nb d no ns lim (upd use (d - 1) (use (d - 1) + nI 1)) beg cau fM ⟨mc1, mc2, mc3, mc4⟩ hd) rfl rfl ⟨by decide, by decide⟩ (Nat.le_of_ble_eq_true rfl) ⟨by decide, by decide⟩ (fun x72 pic40 hx41 => ?_)
            obtain ⟨rfl, rfl⟩ := hx41
            refine v_goto K 79 dX6_begin_75 (by decide) ?_
            refine v_istore_n K 3 dX6_begin_79 rfl (by decide) ?_
            refine v_aload_n K 0 dX6_begin_80 rfl rfl ?_
            refine gf_X6_36 K dX6_begin_81 fM rfl ?_
            refine v_aload_n K 0 dX6_begin_84 rfl rfl ?_
            refine gf_X6_74 K dX6_begin_85 fM rfl ?_
            refine v_iload_n K 3 dX6_begin_88 rfl rfl ?_
            refine v_iast K dX6_begin_89 mc1 (by omega) (by decide) (fun pic44 zg42 zf43 => ?_)
            replace fM := (zf43 _ (by omega)).trans fM
            replace mc1 := zg42
            replace mc2 := (zf43 _ (by omega)).trans mc2
            replace mc3 := (zf43 _ (by omega)).trans mc3
            replace mc4 := (zf43 _ (by omega)).trans mc4
            have FR : ∀ q, ¬ (q = 1000 ∨ 1013 ≤ q ∧ q < 1017) → pic44 q = pic q := fun q hq => (zf43 q (by omega)).trans (FR q hq)
            refine v_aload_n K 0 dX6_begin_90 rfl rfl ?_
            refine gf_X6_39 K dX6_begin_91 fM rfl ?_
            refine v_aload_n K 0 dX6_begin_94 rfl rfl ?_
            refine gf_X6_74 K dX6_begin_95 fM rfl ?_
            refine v_iconst (v := nI 0) K dX6_begin_98 (by decide) ?_
            refine v_iast K dX6_begin_99 mc2 (by omega) (by decide) (fun pic47 zg45 zf46 => ?_)
            replace fM := (zf46 _ (by omega)).trans fM
            replace mc1 := (zf46 _ (by omega)).trans mc1
            replace mc2 := zg45
            replace mc3 := (zf46 _ (by omega)).trans mc3
            replace mc4 := (zf46 _ (by omega)).trans mc4
            have FR : ∀ q, ¬ (q = 1000 ∨ 1013 ≤ q ∧ q < 1017) → pic47 q = pic q := fun q hq => (zf46 q (by omega)).trans (FR q hq)
            refine v_aload_n K 0 dX6_begin_100 rfl rfl ?_
            refine gf_X6_42 K dX6_begin_101 fM rfl ?_
            refine v_aload_n K 0 dX6_begin_104 rfl rfl ?_
            refine gf_X6_74 K dX6_begin_105 fM rfl ?_
            refine v_iload_n K 2 dX6_begin_108 rfl rfl ?_
            refine v_zast K dX6_begin_109 mc3 (by omega) (by decide) (narB (by first | exact isB0 | exact isB1 | assumption)) (fun pic50 zg48 zf49 => ?_)
            replace fM := (zf49 _ (by omega)).trans fM
            replace mc1 := (zf49 _ (by omega)).trans mc1
            replace mc2 := (zf49 _ (by omega)).trans mc2
            replace mc3 := zg48
            replace mc4 := (zf49 _ (by omega)).trans mc4
            have FR : ∀ q, ¬ (q = 1000 ∨ 1013 ≤ q ∧ q < 1017) → pic50 q = pic q := fun q hq => (zf49 q (by omega)).trans (FR q hq)
            refine v_aload_n K 0 dX6_begin_110 rfl rfl ?_
            refine gf_X6_45 K dX6_begin_111 fM rfl ?_
            refine v_aload_n K 0 dX6_begin_114 rfl rfl ?_
            refine gf_X6_74 K dX6_begin_115 fM rfl ?_
            refine v_aload_n K 0 dX6_begin_118 rfl rfl ?_
            refine gf_X6_77 K dX6_begin_119 fM rfl ?_
            refine v_iast K dX6_begin_122 mc4 (by omega) (by decide) (fun pic53 zg51 zf52 => ?_)
            replace fM := (zf52 _ (by omega)).trans fM
            replace mc1 := (zf52 _ (by omega)).trans mc1
            replace mc2 := (zf52 _ (by omega)).trans mc2
            replace mc3 := (zf52 _ (by omega)).trans mc3
            replace mc4 := zg51
            have FR : ∀ q, ¬ (q = 1000 ∨ 1013 ≤ q ∧ q < 1017) → pic53 q = pic q := fun q hq => (zf52 q (by omega)).trans (FR q hq)
            refine v_aload_n K 0 dX6_begin_123 rfl rfl ?_
            refine v_dup K dX6_begin_124 rfl ?_
            refine gf_X6_74 K dX6_begin_125 fM rfl ?_
            refine v_iconst (v := nI 1) K dX6_begin_128 (by decide) ?_
            refine v_iaddN K dX6_begin_129 ?_
            refine pf_X6_74 K dX6_begin_130 fM (Nat.le_of_ble_eq_true rfl) (fun pic56 zg54 zf55 => ?_)
            replace fM := zg54
            replace mc1 := (zf55 _ (by omega)).trans mc1
            replace mc2 := (zf55 _ (by omega)).trans mc2
            replace mc3 := (zf55 _ (by omega)).trans mc3
            replace mc4 := (zf55 _ (by omega)).trans mc4
            have FR : ∀ q, ¬ (q = 1000 ∨ 1013 ≤ q ∧ q < 1017) → pic56 q = pic q := fun q hq => (zf55 q (by omega)).trans (FR q hq)
            refine v_aload_n K 0 dX6_begin_133 rfl rfl ?_
            refine gf_X6_74 K dX6_begin_134 fM rfl ?_
            exact v_iret K dX6_begin_137 hr hlk (by decide) (by decide) (by first | exact (by rw [beginF_0 (by omega)]; exact ⟨rfl, fM, ⟨mc1, mc2, mc3, mc4⟩, FR⟩) | exact (by rw [beginF_1 (by omega) (by omega)]; exact ⟨rfl, fM, ⟨mc1, mc2, mc3, mc4⟩, FR⟩) | exact (by rw [beginF_2 (by omega) (by omega) (by omega)]; exact ⟨rfl, fM, ⟨mc1, mc2, mc3, mc4⟩, FR⟩) | exact (by rw [beginF_3 (by omega) (by omega) (by omega), useP_0 (by omega), pushL_0 (by omega)]; exact ⟨rfl, fM, ⟨mc1, mc2, mc3, mc4⟩, FR⟩) | exact (by rw [beginF_3 (by omega) (by omega) (by omega), useP_1 (by omega), pushL_1 (by omega) (by omega)]; exact ⟨rfl, fM, ⟨mc1, mc2, mc3, mc4⟩, FR⟩) | exact (by rw [beginF_3 (by omega) (by omega) (by omega), useP_1 (by omega), pushL_2 (by omega) (by omega)]; exact ⟨rfl, fM, ⟨mc1, mc2, mc3, mc4⟩, FR⟩))
        · refine v_aload_n K 0 dX6_begin_43 rfl rfl ?_
          refine cl_X6_89 K dX6_begin_44 fM (c_X6_fails l D cA base pic ad th cl cnt nb d no ns lim use beg cau fM ⟨mc1, mc2, mc3, mc4⟩ hd (by omega)) rfl rfl ⟨by decide, by decide⟩ (Nat.le_of_ble_eq_true rfl) ⟨by decide, by decide⟩ (fun x44 pic57 hx58 => ?_)
          obtain ⟨rfl, h0, ⟨h1, h2, h3, h4⟩, h5⟩ := hx58
          replace fM := h0
          replace mc1 := h1
          replace mc2 := h2
          replace mc3 := h3
          replace mc4 := h4
          have FR : ∀ q, ¬ (q = 1000 ∨ 1013 ≤ q ∧ q < 1017) → pic57 q = pic q := fun q hq => (h5 q (by omega)).trans (FR q hq)
          exact v_iret K dX6_begin_47 hr hlk (by decide) (by decide) (by first | exact (by rw [beginF_0 (by omega)]; exact ⟨rfl, fM, ⟨mc1, mc2, mc3, mc4⟩, FR⟩) | exact (by rw [beginF_1 (by omega) (by omega)]; exact ⟨rfl, fM, ⟨mc1, mc2, mc3, mc4⟩, FR⟩) | exact (by rw [beginF_2 (by omega) (by omega) (by omega)]; exact ⟨rfl, fM, ⟨mc1, mc2, mc3, mc4⟩, FR⟩) | exact (by rw [beginF_3 (by omega) (by omega) (by omega), useP_0 (by omega), pushL_0 (by omega)]; exact ⟨rfl, fM, ⟨mc1, mc2, mc3, mc4⟩, FR⟩) | exact (by rw [beginF_3 (by omega) (by omega) (by omega), useP_1 (by omega), pushL_1 (by omega) (by omega)]; exact ⟨rfl, fM, ⟨mc1, mc2, mc3, mc4⟩, FR⟩) | exact (by rw [beginF_3 (by omega) (by omega) (by omega), useP_1 (by omega), pushL_2 (by omega) (by omega)]; exact ⟨rfl, fM, ⟨mc1, mc2, mc3, mc4⟩, FR⟩))
    · refine v_bipush (v := -3) K dX6_begin_23 (by decide) ?_
      exact v_iret K dX6_begin_25 hr hlk (by decide) (by decide) (by first | exact (by rw [beginF_0 (by omega)]; exact ⟨rfl, fM, ⟨mc1, mc2, mc3, mc4⟩, FR⟩) | exact (by rw [beginF_1 (by omega) (by omega)]; exact ⟨rfl, fM, ⟨mc1, mc2, mc3, mc4⟩, FR⟩) | exact (by rw [beginF_2 (by omega) (by omega) (by omega)]; exact ⟨rfl, fM, ⟨mc1, mc2, mc3, mc4⟩, FR⟩) | exact (by rw [beginF_3 (by omega) (by omega) (by omega), useP_0 (by omega), pushL_0 (by omega)]; exact ⟨rfl, fM, ⟨mc1, mc2, mc3, mc4⟩, FR⟩) | exact (by rw [beginF_3 (by omega) (by omega) (by omega), useP_1 (by omega), pushL_1 (by omega) (by omega)]; exact ⟨rfl, fM, ⟨mc1, mc2, mc3, mc4⟩, FR⟩) | exact (by rw [beginF_3 (by omega) (by omega) (by omega), useP_1 (by omega), pushL_2 (by omega) (by omega)]; exact ⟨rfl, fM, ⟨mc1, mc2, mc3, mc4⟩, FR⟩))
  · simp only [i2lT, show (0 : Int64).toInt = 0 from by decide, show (10000 : Int64).toInt = 10000 from by decide] at hq
    refine v_if_ne K 14 dX6_begin_9 (by decide) rfl (fun c => absurd c (by decide)) (fun _ => ?_)
    refine v_iconst (v := -1) K dX6_begin_12 (by decide) ?_
    exact v_iret K dX6_begin_13 hr hlk (by decide) (by decide) (by first | exact (by rw [beginF_0 (by omega)]; exact ⟨rfl, fM, ⟨mc1, mc2, mc3, mc4⟩, FR⟩) | exact (by rw [beginF_1 (by omega) (by omega)]; exact ⟨rfl, fM, ⟨mc1, mc2, mc3, mc4⟩, FR⟩) | exact (by rw [beginF_2 (by omega) (by omega) (by omega)]; exact ⟨rfl, fM, ⟨mc1, mc2, mc3, mc4⟩, FR⟩) | exact (by rw [beginF_3 (by omega) (by omega) (by omega), useP_0 (by omega), pushL_0 (by omega)]; exact ⟨rfl, fM, ⟨mc1, mc2, mc3, mc4⟩, FR⟩) | exact (by rw [beginF_3 (by omega) (by omega) (by omega), useP_1 (by omega), pushL_1 (by omega) (by omega)]; exact ⟨rfl, fM, ⟨mc1, mc2, mc3, mc4⟩, FR⟩) | exact (by rw [beginF_3 (by omega) (by omega) (by omega), useP_1 (by omega), pushL_2 (by omega) (by omega)]; exact ⟨rfl, fM, ⟨mc1, mc2, mc3, mc4⟩, FR⟩))

set_option maxHeartbeats 4000000 in
set_option maxRecDepth 100000 in
theorem c_X6_end (l : Launch) (D : va_G) (cA : Nat → ClassId) (base : Nat) (pic : PIC) (ad : Nat → Nat) (th cl cnt : Int32) (nb d no ns : Nat) (lim use beg cau : Nat → Int32) (w : Int32) (fM : pic 1000 = some (ad 1000, moE ad th nb cl cnt d no ns)) (hC : MCalls pic cA ad lim use beg cau) (hd : d ≤ 8)  : CI l yX6_end cX6_end 3 (some .int) { frames := 2, cells := 0, slots := 0, locals := 42 } 0 0 D cA base pic [.ref (ad 1000), .int w] (fun x9 pic1 => x9 = (endF d use beg cau cnt w).1 ∧ pic1 1000 = some (ad 1000, moE ad th nb cl (endF d use beg cau cnt w).2.2.2 (endF d use beg cau cnt w).2.1 no ns) ∧ MCalls pic1 cA ad lim (endF d use beg cau cnt w).2.2.1 beg cau ∧ ∀ q, ¬ (q = 1000 ∨ 1013 ≤ q ∧ q < 1017) → pic1 q = pic q) := by
  refine ofI (by decide) (Nat.le_of_ble_eq_true rfl) ?_
  intro p e s m below meth c K hr hlk hnm
  have FR : ∀ q, ¬ (q = 1000 ∨ 1013 ≤ q ∧ q < 1017) → pic q = pic q := fun _ _ => rfl
  obtain ⟨mc1, mc2, mc3, mc4⟩ := hC
  refine v_aload_n K 0 dX6_end_0 rfl rfl ?_
  refine gf_X6_74 K dX6_end_1 fM rfl ?_
  refine v_if_ne K 10 dX6_end_4 (by decide) (nI_toInt (by omega)) (fun c4 => ?_) (fun c4 => ?_)
  · refine v_iload_n K 1 dX6_end_10 rfl rfl ?_
    refine v_if_ne K 19 dX6_end_11 (by decide) rfl (fun c11 => ?_) (fun c11 => ?_)
    · refine v_aload_n K 0 dX6_end_19 rfl rfl ?_
      refine gf_X6_39 K dX6_end_20 fM rfl ?_
      refine v_aload_n K 0 dX6_end_23 rfl rfl ?_
      refine gf_X6_74 K dX6_end_24 fM rfl ?_
      refine v_iconst (v := nI 1) K dX6_end_27 (by decide) ?_
      refine v_isubN K dX6_end_28 (by omega) ?_
      refine v_iald K dX6_end_29 mc2 (by omega) (by decide) ?_
      refine v_istore_n K 2 dX6_end_30 rfl (by decide) ?_
      refine v_aload_n K 0 dX6_end_31 rfl rfl ?_
      refine cl_X6_80 K dX6_end_32 fM (c_X6_over l D cA base pic ad th cl cnt nb d no ns lim use beg cau fM ⟨mc1, mc2, mc3, mc4⟩ hd (by omega)) rfl rfl ⟨by decide, by decide⟩ (Nat.le_of_ble_eq_true rfl) ⟨by decide, by decide⟩ (fun pic1 hx2 => ?_)
      obtain ⟨h0, ⟨h1, h2, h3, h4⟩, h5⟩ := hx2
      replace fM := h0
      replace mc1 := h1
      replace mc2 := h2
      replace mc3 := h3
      replace mc4 := h4
      have FR : ∀ q, ¬ (q = 1000 ∨ 1013 ≤ q ∧ q < 1017) → pic1 q = pic q := fun q hq => (h5 q (by omega)).trans (FR q hq)
      refine v_iload_n K 2 dX6_end_35 rfl rfl ?_
      exact v_iret K dX6_end_36 hr hlk (by decide) (by decide) (by first | exact (by rw [endF_0 (by omega)]; exact ⟨rfl, fM, ⟨mc1, mc2, mc3, mc4⟩, FR⟩) | exact (by rw [endF_1 (by omega) (by omega)]; exact ⟨rfl, fM, ⟨mc1, mc2, mc3, mc4⟩, FR⟩) | exact (by rw [endF_2 (by omega) (by omega)]; exact ⟨rfl, fM, ⟨mc1, mc2, mc3, mc4⟩, FR⟩))
    · refine v_aload_n K 0 dX6_end_14 rfl rfl ?_
      refine cl_X6_89 K dX6_end_15 fM (c_X6_fails l D cA base pic ad th cl cnt nb d no ns lim use beg cau fM ⟨mc1, mc2, mc3, mc4⟩ hd (by omega)) rfl rfl ⟨by decide, by decide⟩ (Nat.le_of_ble_eq_true rfl) ⟨by decide, by decide⟩ (fun x15 pic3 hx4 => ?_)
      obtain ⟨rfl, h0, ⟨h1, h2, h3, h4⟩, h5⟩ := hx4
      replace fM := h0
      replace mc1 := h1
      replace mc2 := h2
      replace mc3 := h3
      replace mc4 := h4
      have FR : ∀ q, ¬ (q = 1000 ∨ 1013 ≤ q ∧ q < 1017) → pic3 q = pic q := fun q hq => (h5 q (by omega)).trans (FR q hq)
      exact v_iret K dX6_end_18 hr hlk (by decide) (by decide) (by first | exact (by rw [endF_0 (by omega)]; exact ⟨rfl, fM, ⟨mc1, mc2, mc3, mc4⟩, FR⟩) | exact (by rw [endF_1 (by omega) (by omega)]; exact ⟨rfl, fM, ⟨mc1, mc2, mc3, mc4⟩, FR⟩) | exact (by rw [endF_2 (by omega) (by omega)]; exact ⟨rfl, fM, ⟨mc1, mc2, mc3, mc4⟩, FR⟩))
  · refine v_bipush (v := -2) K dX6_end_7 (by decide) ?_
    exact v_iret K dX6_end_9 hr hlk (by decide) (by decide) (by first | exact (by rw [endF_0 (by omega)]; exact ⟨rfl, fM, ⟨mc1, mc2, mc3, mc4⟩, FR⟩) | exact (by rw [endF_1 (by omega) (by omega)]; exact ⟨rfl, fM, ⟨mc1, mc2, mc3, mc4⟩, FR⟩) | exact (by rw [endF_2 (by omega) (by omega)]; exact ⟨rfl, fM, ⟨mc1, mc2, mc3, mc4⟩, FR⟩))

set_option maxHeartbeats 4000000 in
set_option maxRecDepth 100000 in
theorem c_X6_isEvent (l : Launch) (D : va_G) (cA : Nat → ClassId) (base : Nat) (pic : PIC) (ac a b2 c2 : Int32)  : CI l yX6_isEvent cX6_isEvent 4 (some .boolean) { frames := 1, cells := 0, slots := 0, locals := 25 } 0 0 D cA base pic [.int ac, .int a, .int b2, .int c2] (fun x pic1 => (pic = pic1 ∧ x = 1 ∧ evOK ac a b2 c2) ∨ (pic = pic1 ∧ x = 0 ∧ ¬ evOK ac a b2 c2)) := by
  refine ofI (by decide) (Nat.le_of_ble_eq_true rfl) ?_
  intro p e s m below meth c K hr hlk hnm
  refine v_iload_n K 0 dX6_isEvent_0 rfl rfl ?_
  refine v_i2l K dX6_isEvent_1 ?_
  refine v_lconst (v := 0) K dX6_isEvent_2 (by decide) ?_
  refine v_ldc2 K gw_167 dX6_isEvent_3 ?_
  refine cl_X6_70 K dX6_isEvent_6 (c_X6_in l D cA base pic _ _ _) rfl rfl ⟨by decide, by decide⟩ (Nat.le_of_ble_eq_true rfl) ⟨by decide, by decide⟩ (fun x6 pic1 hx2 => ?_)
  rcases hx2 with ⟨rfl, rfl, hpx⟩ | ⟨rfl, rfl, hqx⟩
  · simp only [i2lT, show (0 : Int64).toInt = 0 from by decide, show (9 : Int64).toInt = 9 from by decide] at hpx
    refine v_if_eq K 66 dX6_isEvent_9 (by decide) rfl (fun c => absurd c (by decide)) (fun _ => ?_)
    refine v_iload_n K 1 dX6_isEvent_12 rfl rfl ?_
    refine v_i2l K dX6_isEvent_13 ?_
    refine v_lconst (v := 0) K dX6_isEvent_14 (by decide) ?_
    refine v_ldc2 K gw_168 dX6_isEvent_15 ?_
    refine cl_X6_70 K dX6_isEvent_18 (c_X6_in l D cA base pic _ _ _) rfl rfl ⟨by decide, by decide⟩ (Nat.le_of_ble_eq_true rfl) ⟨by decide, by decide⟩ (fun x18 pic3 hx4 => ?_)
    rcases hx4 with ⟨rfl, rfl, hpa⟩ | ⟨rfl, rfl, hqa⟩
    · simp only [i2lT, show (0 : Int64).toInt = 0 from by decide, show (999 : Int64).toInt = 999 from by decide] at hpa
      refine v_if_eq K 66 dX6_isEvent_21 (by decide) rfl (fun c => absurd c (by decide)) (fun _ => ?_)
      refine v_iload_n K 2 dX6_isEvent_24 rfl rfl ?_
      refine v_i2l K dX6_isEvent_25 ?_
      refine v_ldc2 K gw_169 dX6_isEvent_26 ?_
      refine v_ldc2 K gw_168 dX6_isEvent_29 ?_
      refine cl_X6_70 K dX6_isEvent_32 (c_X6_in l D cA base pic _ _ _) rfl rfl ⟨by decide, by decide⟩ (Nat.le_of_ble_eq_true rfl) ⟨by decide, by decide⟩ (fun x32 pic5 hx6 => ?_)
      rcases hx6 with ⟨rfl, rfl, hpb⟩ | ⟨rfl, rfl, hqb⟩
      · simp only [i2lT, show (-1 : Int64).toInt = -1 from by decide, show (999 : Int64).toInt = 999 from by decide] at hpb
        refine v_if_eq K 66 dX6_isEvent_35 (by decide) rfl (fun c => absurd c (by decide)) (fun _ => ?_)
        refine v_iload_n K 3 dX6_isEvent_38 rfl rfl ?_
        refine v_i2l K dX6_isEvent_39 ?_
        refine v_ldc2 K gw_169 dX6_isEvent_40 ?_
        refine v_iload_n K 2 dX6_isEvent_43 rfl rfl ?_
        refine v_if_ge K 53 dX6_isEvent_44 (by decide) rfl (fun c44 => ?_) (fun c44 => ?_)
        · refine v_ldc2 K gw_168 dX6_isEvent_53 ?_
          refine cl_X6_70 K dX6_isEvent_56 (c_X6_in l D cA base pic _ _ _) rfl rfl ⟨by decide, by decide⟩ (Nat.le_of_ble_eq_true rfl) ⟨by decide, by decide⟩ (fun x56 pic7 hx8 => ?_)
          rcases hx8 with ⟨rfl, rfl, hpc⟩ | ⟨rfl, rfl, hqc⟩
          · simp only [i2lT, show (-1 : Int64).toInt = -1 from by decide, show (999 : Int64).toInt = 999 from by decide] at hpc
            refine v_if_eq K 66 dX6_isEvent_59 (by decide) rfl (fun c => absurd c (by decide)) (fun _ => ?_)
            refine v_iconst (v := nI 1) K dX6_isEvent_62 (by decide) ?_
            refine v_goto K 67 dX6_isEvent_63 (by decide) ?_
            exact v_zret K dX6_isEvent_67 hr (narB (by first | exact isB0 | exact isB1 | assumption)) hlk (by decide) (by decide) (by first | exact (Or.inl ⟨rfl, rfl, by unfold evOK isTop isTopN; omega⟩) | exact (Or.inr ⟨rfl, rfl, by unfold evOK isTop isTopN; omega⟩))
          · simp only [i2lT, show (-1 : Int64).toInt = -1 from by decide, show (999 : Int64).toInt = 999 from by decide] at hqc
            refine v_if_eq K 66 dX6_isEvent_59 (by decide) rfl (fun _ => ?_) (fun c => absurd c (by decide))
            refine v_iconst (v := nI 0) K dX6_isEvent_66 (by decide) ?_
            exact v_zret K dX6_isEvent_67 hr (narB (by first | exact isB0 | exact isB1 | assumption)) hlk (by decide) (by decide) (by first | exact (Or.inl ⟨rfl, rfl, by unfold evOK isTop isTopN; omega⟩) | exact (Or.inr ⟨rfl, rfl, by unfold evOK isTop isTopN; omega⟩))
        · refine v_ldc2 K gw_169 dX6_isEvent_47 ?_
          refine v_goto K 56 dX6_isEvent_50 (by decide) ?_
          refine cl_X6_70 K dX6_isEvent_56 (c_X6_in l D cA base pic _ _ _) rfl rfl ⟨by decide, by decide⟩ (Nat.le_of_ble_eq_true rfl) ⟨by decide, by decide⟩ (fun x56 pic9 hx10 => ?_)
          rcases hx10 with ⟨rfl, rfl, hpc⟩ | ⟨rfl, rfl, hqc⟩
          · simp only [i2lT, show (-1 : Int64).toInt = -1 from by decide, show (-1 : Int64).toInt = -1 from by decide] at hpc
            refine v_if_eq K 66 dX6_isEvent_59 (by decide) rfl (fun c => absurd c (by decide)) (fun _ => ?_)
            refine v_iconst (v := nI 1) K dX6_isEvent_62 (by decide) ?_
            refine v_goto K 67 dX6_isEvent_63 (by decide) ?_
            exact v_zret K dX6_isEvent_67 hr (narB (by first | exact isB0 | exact isB1 | assumption)) hlk (by decide) (by decide) (by first | exact (Or.inl ⟨rfl, rfl, by unfold evOK isTop isTopN; omega⟩) | exact (Or.inr ⟨rfl, rfl, by unfold evOK isTop isTopN; omega⟩))
          · simp only [i2lT, show (-1 : Int64).toInt = -1 from by decide, show (-1 : Int64).toInt = -1 from by decide] at hqc
            refine v_if_eq K 66 dX6_isEvent_59 (by decide) rfl (fun _ => ?_) (fun c => absurd c (by decide))
            refine v_iconst (v := nI 0) K dX6_isEvent_66 (by decide) ?_
            exact v_zret K dX6_isEvent_67 hr (narB (by first | exact isB0 | exact isB1 | assumption)) hlk (by decide) (by decide) (by first | exact (Or.inl ⟨rfl, rfl, by unfold evOK isTop isTopN; omega⟩) | exact (Or.inr ⟨rfl, rfl, by unfold evOK isTop isTopN; omega⟩))
      · simp only [i2lT, show (-1 : Int64).toInt = -1 from by decide, show (999 : Int64).toInt = 999 from by decide] at hqb
        refine v_if_eq K 66 dX6_isEvent_35 (by decide) rfl (fun _ => ?_) (fun c => absurd c (by decide))
        refine v_iconst (v := nI 0) K dX6_isEvent_66 (by decide) ?_
        exact v_zret K dX6_isEvent_67 hr (narB (by first | exact isB0 | exact isB1 | assumption)) hlk (by decide) (by decide) (by first | exact (Or.inl ⟨rfl, rfl, by unfold evOK isTop isTopN; omega⟩) | exact (Or.inr ⟨rfl, rfl, by unfold evOK isTop isTopN; omega⟩))
    · simp only [i2lT, show (0 : Int64).toInt = 0 from by decide, show (999 : Int64).toInt = 999 from by decide] at hqa
      refine v_if_eq K 66 dX6_isEvent_21 (by decide) rfl (fun _ => ?_) (fun c => absurd c (by decide))
      refine v_iconst (v := nI 0) K dX6_isEvent_66 (by decide) ?_
      exact v_zret K dX6_isEvent_67 hr (narB (by first | exact isB0 | exact isB1 | assumption)) hlk (by decide) (by decide) (by first | exact (Or.inl ⟨rfl, rfl, by unfold evOK isTop isTopN; omega⟩) | exact (Or.inr ⟨rfl, rfl, by unfold evOK isTop isTopN; omega⟩))
  · simp only [i2lT, show (0 : Int64).toInt = 0 from by decide, show (9 : Int64).toInt = 9 from by decide] at hqx
    refine v_if_eq K 66 dX6_isEvent_9 (by decide) rfl (fun _ => ?_) (fun c => absurd c (by decide))
    refine v_iconst (v := nI 0) K dX6_isEvent_66 (by decide) ?_
    exact v_zret K dX6_isEvent_67 hr (narB (by first | exact isB0 | exact isB1 | assumption)) hlk (by decide) (by decide) (by first | exact (Or.inl ⟨rfl, rfl, by unfold evOK isTop isTopN; omega⟩) | exact (Or.inr ⟨rfl, rfl, by unfold evOK isTop isTopN; omega⟩))

def tpU (mtp : Nat → Int32) (e : Nat) (a b c : Int32) : Nat → Int32 := upd (upd (upd mtp (3 * e) a) (3 * e + 1) b) (3 * e + 2) c
set_option maxHeartbeats 4000000 in
set_option maxRecDepth 100000 in
theorem c_X6_tell (l : Launch) (D : va_G) (cA : Nat → ClassId) (base : Nat) (pic : PIC) (ad : Nat → Nat) (th cl : Int32) (on nb d no ns : Nat) (lim use beg cau : Nat → Int32) (mac mtp : Nat → Int32) (mvl : Nat → Int64) (mse : Nat → Int32) (ac a b2 c2 : Int32) (v : Int64) (fM : pic 1000 = some (ad 1000, moE ad th nb cl (nI on) d no ns)) (hC : MCalls pic cA ad lim use beg cau) (hV : MEv pic cA ad mac mtp mvl mse) (hd : d ≤ 8) (hon : on ≤ 32)  : CI l yX6_tell cX6_tell 9 (some .int) { frames := 2, cells := 0, slots := 0, locals := 48 } 0 0 D cA base pic [.ref (ad 1000), .int ac, .int a, .int b2, .int c2, .long v] (fun x9 pic1 => x9 = (tellF d lim use beg cau on ac a b2 c2).1 ∧ pic1 1000 = some (ad 1000, moE ad th nb cl (tellF d lim use beg cau on ac a b2 c2).2.2.2.1 (tellF d lim use beg cau on ac a b2 c2).2.1 no ns) ∧ MCalls pic1 cA ad lim (tellF d lim use beg cau on ac a b2 c2).2.2.1 beg cau ∧ MEv pic1 cA ad (cond (tellF d lim use beg cau on ac a b2 c2).2.2.2.2 (upd mac (1280 + on) ac) mac) (cond (tellF d lim use beg cau on ac a b2 c2).2.2.2.2 (tpU mtp (1280 + on) a b2 c2) mtp) (cond (tellF d lim use beg cau on ac a b2 c2).2.2.2.2 (vp_updL mvl (1280 + on) v) mvl) (cond (tellF d lim use beg cau on ac a b2 c2).2.2.2.2 (upd mse (1280 + on) (cl + nI on)) mse) ∧ ∀ q, ¬ (1000 ≤ q ∧ q < 1005 ∨ 1013 ≤ q ∧ q < 1017) → pic1 q = pic q) := by
  refine ofI (by decide) (Nat.le_of_ble_eq_true rfl) ?_
  intro p e s m below meth c K hr hlk hnm
  have FR : ∀ q, ¬ (1000 ≤ q ∧ q < 1005 ∨ 1013 ≤ q ∧ q < 1017) → pic q = pic q := fun _ _ => rfl
  obtain ⟨mc1, mc2, mc3, mc4⟩ := hC
  obtain ⟨mv1, mv2, mv3, mv4⟩ := hV
  refine v_iload_n K 1 dX6_tell_0 rfl rfl ?_
  refine v_iload_n K 2 dX6_tell_1 rfl rfl ?_
  refine v_iload_n K 3 dX6_tell_2 rfl rfl ?_
  refine v_iload K dX6_tell_3 rfl ?_
  refine cl_X6_98 K dX6_tell_5 (c_X6_isEvent l D cA base pic ac a b2 c2) rfl rfl ⟨by decide, by decide⟩ (Nat.le_of_ble_eq_true rfl) ⟨by decide, by decide⟩ (fun x5 pic1 hx2 => ?_)
  rcases hx2 with ⟨rfl, rfl, hpE⟩ | ⟨rfl, rfl, hqE⟩
  · have hpE2 := hpE
    unfold evOK isTop isTopN at hpE2
    refine v_if_ne K 13 dX6_tell_8 (by decide) rfl (fun _ => ?_) (fun c => absurd c (by decide))
    refine v_aload_n K 0 dX6_tell_13 rfl rfl ?_
    refine gf_X6_74 K dX6_tell_14 fM rfl ?_
    refine v_if_ne K 23 dX6_tell_17 (by decide) (nI_toInt (by omega)) (fun c17 => ?_) (fun c17 => ?_)
    · refine v_aload_n K 0 dX6_tell_23 rfl rfl ?_
      refine gf_X6_77 K dX6_tell_24 fM rfl ?_
      refine v_bipush (v := nI 32) K dX6_tell_27 (by decide) ?_
      refine v_icmp_ne K 35 dX6_tell_29 (by decide) (nI_toInt (by omega)) (nI_toInt (by omega)) (fun c29 => ?_) (fun c29 => ?_)
      · refine v_iload_n K 3 dX6_tell_35 rfl rfl ?_
        refine v_if_ge K 44 dX6_tell_36 (by decide) rfl (fun c36 => ?_) (fun c36 => ?_)
        · refine v_iload K dX6_tell_44 rfl ?_
          refine v_if_ge K 54 dX6_tell_46 (by decide) rfl (fun c46 => ?_) (fun c46 => ?_)
          · refine v_bipush (v := nI 11) K dX6_tell_54 (by decide) ?_
            refine v_top (v := .int (costF b2 c2)) (by rw [costF, if_neg (by omega), if_neg (by omega)]) ?_
            refine v_istore K dX6_tell_56 (by decide) ?_
            refine v_iload K dX6_tell_58 rfl ?_
            refine v_aload_n K 0 dX6_tell_60 rfl rfl ?_
            refine cl_X6_85 K dX6_tell_61 fM (c_X6_left l D cA base pic ad th cl (nI on) nb d no ns lim use beg cau fM ⟨mc1, mc2, mc3, mc4⟩ hd) rfl rfl ⟨by decide, by decide⟩ (Nat.le_of_ble_eq_true rfl) ⟨by decide, by decide⟩ (fun x61 pic3 hx4 => ?_)
            obtain ⟨rfl, rfl⟩ := hx4
            refine v_icmp_le K 72 dX6_tell_64 (by decide) rfl rfl (fun c64 => ?_) (fun c64 => ?_)
            · refine v_aload_n K 0 dX6_tell_72 rfl rfl ?_
              refine gf_X6_39 K dX6_tell_73 fM rfl ?_
              refine v_aload_n K 0 dX6_tell_76 rfl rfl ?_
              refine gf_X6_74 K dX6_tell_77 fM rfl ?_
              refine v_iconst (v := nI 1) K dX6_tell_80 (by decide) ?_
              refine v_isubN K dX6_tell_81 (by omega) ?_
              refine v_dup2 K dX6_tell_82 rfl rfl ?_
              refine v_iald K dX6_tell_83 mc2 (by omega) (by decide) ?_
              refine v_iload K dX6_tell_84 rfl ?_
              refine v_iadd K dX6_tell_86 ?_
              refine v_iast K dX6_tell_87 mc2 (by omega) (by decide) (fun pic7 zg5 zf6 => ?_)
              replace fM := (zf6 _ (by omega)).trans fM
              replace mc1 := (zf6 _ (by omega)).trans mc1
              replace mc2 := zg5
              replace mc3 := (zf6 _ (by omega)).trans mc3
              replace mc4 := (zf6 _ (by omega)).trans mc4
              replace mv1 := (zf6 _ (by omega)).trans mv1
              replace mv2 := (zf6 _ (by omega)).trans mv2
              replace mv3 := (zf6 _ (by omega)).trans mv3
              replace mv4 := (zf6 _ (by omega)).trans mv4
              have FR : ∀ q, ¬ (1000 ≤ q ∧ q < 1005 ∨ 1013 ≤ q ∧ q < 1017) → pic7 q = pic q := fun q hq => (zf6 q (by omega)).trans (FR q hq)
              refine v_sipush (v := nI 1280) K dX6_tell_88 (by decide) ?_
              refine v_aload_n K 0 dX6_tell_91 rfl rfl ?_
              refine gf_X6_77 K dX6_tell_92 fM rfl ?_
              refine v_iaddN K dX6_tell_95 ?_
              refine v_istore K dX6_tell_96 (by decide) ?_
              refine v_aload_n K 0 dX6_tell_98 rfl rfl ?_
              refine gf_X6_7 K dX6_tell_99 fM rfl ?_
              refine v_iload K dX6_tell_102 rfl ?_
              refine v_iload_n K 1 dX6_tell_104 rfl rfl ?_
              refine v_iast K dX6_tell_105 mv1 (by omega) (by decide) (fun pic10 zg8 zf9 => ?_)
              replace fM := (zf9 _ (by omega)).trans fM
              replace mc1 := (zf9 _ (by omega)).trans mc1
              replace mc2 := (zf9 _ (by omega)).trans mc2
              replace mc3 := (zf9 _ (by omega)).trans mc3
              replace mc4 := (zf9 _ (by omega)).trans mc4
              replace mv1 := zg8
              replace mv2 := (zf9 _ (by omega)).trans mv2
              replace mv3 := (zf9 _ (by omega)).trans mv3
              replace mv4 := (zf9 _ (by omega)).trans mv4
              have FR : ∀ q, ¬ (1000 ≤ q ∧ q < 1005 ∨ 1013 ≤ q ∧ q < 1017) → pic10 q = pic q := fun q hq => (zf9 q (by omega)).trans (FR q hq)
              refine v_aload_n K 0 dX6_tell_106 rfl rfl ?_
              refine gf_X6_13 K dX6_tell_107 fM rfl ?_
              refine v_iconst (v := nI 3) K dX6_tell_110 (by decide) ?_
              refine v_iload K dX6_tell_111 rfl ?_
              refine v_imulN K dX6_tell_113 ?_
              refine v_iload_n K 2 dX6_tell_114 rfl rfl ?_
              refine v_iast K dX6_tell_115 mv2 (by omega) (by decide) (fun pic13 zg11 zf12 => ?_)
              replace fM := (zf12 _ (by omega)).trans fM
              replace mc1 := (zf12 _ (by omega)).trans mc1
              replace mc2 := (zf12 _ (by omega)).trans mc2
              replace mc3 := (zf12 _ (by omega)).trans mc3
              replace mc4 := (zf12 _ (by omega)).trans mc4
              replace mv1 := (zf12 _ (by omega)).trans mv1
              replace mv2 := zg11
              replace mv3 := (zf12 _ (by omega)).trans mv3
              replace mv4 := (zf12 _ (by omega)).trans mv4
              have FR : ∀ q, ¬ (1000 ≤ q ∧ q < 1005 ∨ 1013 ≤ q ∧ q < 1017) → pic13 q = pic q := fun q hq => (zf12 q (by omega)).trans (FR q hq)
              refine v_aload_n K 0 dX6_tell_116 rfl rfl ?_
              refine gf_X6_13 K dX6_tell_117 fM rfl ?_
              refine v_iconst (v := nI 3) K dX6_tell_120 (by decide) ?_
              refine v_iload K dX6_tell_121 rfl ?_
              refine v_imulN K dX6_tell_123 ?_
              refine v_iconst (v := nI 1) K dX6_tell_124 (by decide) ?_
              refine v_iaddN K dX6_tell_125 ?_
              refine v_iload_n K 3 dX6_tell_126 rfl rfl ?_
              refine v_iast K dX6_tell_127 mv2 (by omega) (by decide) (fun pic16 zg14 zf15 => ?_)
              replace fM := (zf15 _ (by omega)).trans fM
              replace mc1 := (zf15 _ (by omega)).trans mc1
              replace mc2 := (zf15 _ (by omega)).trans mc2
              replace mc3 := (zf15 _ (by omega)).trans mc3
              replace mc4 := (zf15 _ (by omega)).trans mc4
              replace mv1 := (zf15 _ (by omega)).trans mv1
              replace mv2 := zg14
              replace mv3 := (zf15 _ (by omega)).trans mv3
              replace mv4 := (zf15 _ (by omega)).trans mv4
              have FR : ∀ q, ¬ (1000 ≤ q ∧ q < 1005 ∨ 1013 ≤ q ∧ q < 1017) → pic16 q = pic q := fun q hq => (zf15 q (by omega)).trans (FR q hq)
              refine v_aload_n K 0 dX6_tell_128 rfl rfl ?_
              refine gf_X6_13 K dX6_tell_129 fM rfl ?_
              refine v_iconst (v := nI 3) K dX6_tell_132 (by decide) ?_
              refine v_iload K dX6_tell_133 rfl ?_
              refine v_imulN K dX6_tell_135 ?_
              refine v_iconst (v := nI 2) K dX6_tell_136 (by decide) ?_
              refine v_iaddN K dX6_tell_137 ?_
              refine v_iload K dX6_tell_138 rfl ?_
              refine v_iast K dX6_tell_140 mv2 (by omega) (by decide) (fun pic19 zg17 zf18 => ?_)
              replace fM := (zf18 _ (by omega)).trans fM
              replace mc1 := (zf18 _ (by omega)).trans mc1
              replace mc2 := (zf18 _ (by omega)).trans mc2
              replace mc3 := (zf18 _ (by omega)).trans mc3
              replace mc4 := (zf18 _ (by omega)).trans mc4
              replace mv1 := (zf18 _ (by omega)).trans mv1
              replace mv2 := zg17
              replace mv3 := (zf18 _ (by omega)).trans mv3
              replace mv4 := (zf18 _ (by omega)).trans mv4
              have FR : ∀ q, ¬ (1000 ≤ q ∧ q < 1005 ∨ 1013 ≤ q ∧ q < 1017) → pic19 q = pic q := fun q hq => (zf18 q (by omega)).trans (FR q hq)
              refine v_aload_n K 0 dX6_tell_141 rfl rfl ?_
              refine gf_X6_16 K dX6_tell_142 fM rfl ?_
              refine v_iload K dX6_tell_145 rfl ?_
              refine v_lload K dX6_tell_147 rfl ?_
              refine v_last K dX6_tell_149 mv3 (by omega) (by decide) (fun pic22 zg20 zf21 => ?_)
              replace fM := (zf21 _ (by omega)).trans fM
              replace mc1 := (zf21 _ (by omega)).trans mc1
              replace mc2 := (zf21 _ (by omega)).trans mc2
              replace mc3 := (zf21 _ (by omega)).trans mc3
              replace mc4 := (zf21 _ (by omega)).trans mc4
              replace mv1 := (zf21 _ (by omega)).trans mv1
              replace mv2 := (zf21 _ (by omega)).trans mv2
              replace mv3 := zg20
              replace mv4 := (zf21 _ (by omega)).trans mv4
              have FR : ∀ q, ¬ (1000 ≤ q ∧ q < 1005 ∨ 1013 ≤ q ∧ q < 1017) → pic22 q = pic q := fun q hq => (zf21 q (by omega)).trans (FR q hq)
              refine v_aload_n K 0 dX6_tell_150 rfl rfl ?_
              refine gf_X6_20 K dX6_tell_151 fM rfl ?_
              refine v_iload K dX6_tell_154 rfl ?_
              refine v_aload_n K 0 dX6_tell_156 rfl rfl ?_
              refine gf_X6_102 K dX6_tell_157 fM rfl ?_
              refine v_aload_n K 0 dX6_tell_160 rfl rfl ?_
              refine gf_X6_77 K dX6_tell_161 fM rfl ?_
              refine v_iadd K dX6_tell_164 ?_
              refine v_iast K dX6_tell_165 mv4 (by omega) (by decide) (fun pic25 zg23 zf24 => ?_)
              replace fM := (zf24 _ (by omega)).trans fM
              replace mc1 := (zf24 _ (by omega)).trans mc1
              replace mc2 := (zf24 _ (by omega)).trans mc2
              replace mc3 := (zf24 _ (by omega)).trans mc3
              replace mc4 := (zf24 _ (by omega)).trans mc4
              replace mv1 := (zf24 _ (by omega)).trans mv1
              replace mv2 := (zf24 _ (by omega)).trans mv2
              replace mv3 := (zf24 _ (by omega)).trans mv3
              replace mv4 := zg23
              have FR : ∀ q, ¬ (1000 ≤ q ∧ q < 1005 ∨ 1013 ≤ q ∧ q < 1017) → pic25 q = pic q := fun q hq => (zf24 q (by omega)).trans (FR q hq)
              refine v_aload_n K 0 dX6_tell_166 rfl rfl ?_
              refine v_dup K dX6_tell_167 rfl ?_
              refine gf_X6_77 K dX6_tell_168 fM rfl ?_
              refine v_iconst (v := nI 1) K dX6_tell_171 (by decide) ?_
              refine v_iaddN K dX6_tell_172 ?_
              refine pf_X6_77 K dX6_tell_173 fM (Nat.le_of_ble_eq_true rfl) (fun pic28 zg26 zf27 => ?_)
              replace fM := zg26
              replace mc1 := (zf27 _ (by omega)).trans mc1
              replace mc2 := (zf27 _ (by omega)).trans mc2
              replace mc3 := (zf27 _ (by omega)).trans mc3
              replace mc4 := (zf27 _ (by omega)).trans mc4
              replace mv1 := (zf27 _ (by omega)).trans mv1
              replace mv2 := (zf27 _ (by omega)).trans mv2
              replace mv3 := (zf27 _ (by omega)).trans mv3
              replace mv4 := (zf27 _ (by omega)).trans mv4
              have FR : ∀ q, ¬ (1000 ≤ q ∧ q < 1005 ∨ 1013 ≤ q ∧ q < 1017) → pic28 q = pic q := fun q hq => (zf27 q (by omega)).trans (FR q hq)
              refine v_aload_n K 0 dX6_tell_176 rfl rfl ?_
              refine gf_X6_77 K dX6_tell_177 fM rfl ?_
              exact v_iret K dX6_tell_180 hr hlk (by decide) (by decide) (by first | exact (by rw [tellF_0 hqE]; exact ⟨rfl, fM, ⟨mc1, mc2, mc3, mc4⟩, ⟨mv1, mv2, mv3, mv4⟩, FR⟩) | exact (by rw [tellF_1 (fun h => h hpE) (by omega)]; exact ⟨rfl, fM, ⟨mc1, mc2, mc3, mc4⟩, ⟨mv1, mv2, mv3, mv4⟩, FR⟩) | exact (by rw [tellF_2 (fun h => h hpE) (by omega) (by omega)]; exact ⟨rfl, fM, ⟨mc1, mc2, mc3, mc4⟩, ⟨mv1, mv2, mv3, mv4⟩, FR⟩) | exact (by rw [tellF_3 (fun h => h hpE) (by omega) (by omega) (by omega)]; exact ⟨rfl, fM, ⟨mc1, mc2, mc3, mc4⟩, ⟨mv1, mv2, mv3, mv4⟩, FR⟩) | exact (by rw [tellF_4 (fun h => h hpE) (by omega) (by omega) (by omega)]; exact ⟨rfl, fM, ⟨mc1, mc2, mc3, mc4⟩, ⟨mv1, mv2, mv3, mv4⟩, FR⟩))
            · refine v_aload_n K 0 dX6_tell_67 rfl rfl ?_
              refine cl_X6_89 K dX6_tell_68 fM (c_X6_fails l D cA base pic ad th cl (nI on) nb d no ns lim use beg cau fM ⟨mc1, mc2, mc3, mc4⟩ hd (by omega)) rfl rfl ⟨by decide, by decide⟩ (Nat.le_of_ble_eq_true rfl) ⟨by decide, by decide⟩ (fun x68 pic29 hx30 => ?_)
              obtain ⟨rfl, h0, ⟨h1, h2, h3, h4⟩, h5⟩ := hx30
              replace fM := h0
              replace mc1 := h1
              replace mc2 := h2
              replace mc3 := h3
              replace mc4 := h4
              replace mv1 := (h5 _ (by omega)).trans mv1
              replace mv2 := (h5 _ (by omega)).trans mv2
              replace mv3 := (h5 _ (by omega)).trans mv3
              replace mv4 := (h5 _ (by omega)).trans mv4
              have FR : ∀ q, ¬ (1000 ≤ q ∧ q < 1005 ∨ 1013 ≤ q ∧ q < 1017) → pic29 q = pic q := fun q hq => (h5 q (by omega)).trans (FR q hq)
              exact v_iret K dX6_tell_71 hr hlk (by decide) (by decide) (by first | exact (by rw [tellF_0 hqE]; exact ⟨rfl, fM, ⟨mc1, mc2, mc3, mc4⟩, ⟨mv1, mv2, mv3, mv4⟩, FR⟩) | exact (by rw [tellF_1 (fun h => h hpE) (by omega)]; exact ⟨rfl, fM, ⟨mc1, mc2, mc3, mc4⟩, ⟨mv1, mv2, mv3, mv4⟩, FR⟩) | exact (by rw [tellF_2 (fun h => h hpE) (by omega) (by omega)]; exact ⟨rfl, fM, ⟨mc1, mc2, mc3, mc4⟩, ⟨mv1, mv2, mv3, mv4⟩, FR⟩) | exact (by rw [tellF_3 (fun h => h hpE) (by omega) (by omega) (by omega)]; exact ⟨rfl, fM, ⟨mc1, mc2, mc3, mc4⟩, ⟨mv1, mv2, mv3, mv4⟩, FR⟩) | exact (by rw [tellF_4 (fun h => h hpE) (by omega) (by omega) (by omega)]; exact ⟨rfl, fM, ⟨mc1, mc2, mc3, mc4⟩, ⟨mv1, mv2, mv3, mv4⟩, FR⟩))
          · refine v_bipush (v := nI 9) K dX6_tell_49 (by decide) ?_
            refine v_goto K 56 dX6_tell_51 (by decide) ?_
            refine v_top (v := .int (costF b2 c2)) (by rw [costF, if_neg (by omega), if_pos (by omega)]) ?_
            refine v_istore K dX6_tell_56 (by decide) ?_
            refine v_iload K dX6_tell_58 rfl ?_
            refine v_aload_n K 0 dX6_tell_60 rfl rfl ?_
            refine cl_X6_85 K dX6_tell_61 fM (c_X6_left l D cA base pic ad th cl (nI on) nb d no ns lim use beg cau fM ⟨mc1, mc2, mc3, mc4⟩ hd) rfl rfl ⟨by decide, by decide⟩ (Nat.le_of_ble_eq_true rfl) ⟨by decide, by decide⟩ (fun x61 pic31 hx32 => ?_)
            obtain ⟨rfl, rfl⟩ := hx32
            refine v_icmp_le K 72 dX6_tell_64 (by decide) rfl rfl (fun c64 => ?_) (fun c64 => ?_)
            · refine v_aload_n K 0 dX6_tell_72 rfl rfl ?_
              refine gf_X6_39 K dX6_tell_73 fM rfl ?_
              refine v_aload_n K 0 dX6_tell_76 rfl rfl ?_
              refine gf_X6_74 K dX6_tell_77 fM rfl ?_
              refine v_iconst (v := nI 1) K dX6_tell_80 (by decide) ?_
              refine v_isubN K dX6_tell_81 (by omega) ?_
              refine v_dup2 K dX6_tell_82 rfl rfl ?_
              refine v_iald K dX6_tell_83 mc2 (by omega) (by decide) ?_
              refine v_iload K dX6_tell_84 rfl ?_
              refine v_iadd K dX6_tell_86 ?_
              refine v_iast K dX6_tell_87 mc2 (by omega) (by decide) (fun pic35 zg33 zf34 => ?_)
              replace fM := (zf34 _ (by omega)).trans fM
              replace mc1 := (zf34 _ (by omega)).trans mc1
              replace mc2 := zg33
              replace mc3 := (zf34 _ (by omega)).trans mc3
              replace mc4 := (zf34 _ (by omega)).trans mc4
              replace mv1 := (zf34 _ (by omega)).trans mv1
              replace mv2 := (zf34 _ (by omega)).trans mv2
              replace mv3 := (zf34 _ (by omega)).trans mv3
              replace mv4 := (zf34 _ (by omega)).trans mv4
              have FR : ∀ q, ¬ (1000 ≤ q ∧ q < 1005 ∨ 1013 ≤ q ∧ q < 1017) → pic35 q = pic q := fun q hq => (zf34 q (by omega)).trans (FR q hq)
              refine v_sipush (v := nI 1280) K dX6_tell_88 (by decide) ?_
              refine v_aload_n K 0 dX6_tell_91 rfl rfl ?_
              refine gf_X6_77 K dX6_tell_92 fM rfl ?_
              refine v_iaddN K dX6_tell_95 ?_
              refine v_istore K dX6_tell_96 (by decide) ?_
              refine v_aload_n K 0 dX6_tell_98 rfl rfl ?_
              refine gf_X6_7 K dX6_tell_99 fM rfl ?_
              refine v_iload K dX6_tell_102 rfl ?_
              refine v_iload_n K 1 dX6_tell_104 rfl rfl ?_
              refine v_iast K dX6_tell_105 mv1 (by omega) (by decide) (fun pic38 zg36 zf37 => ?_)
              replace fM := (zf37 _ (by omega)).trans fM
              replace mc1 := (zf37 _ (by omega)).trans mc1
              replace mc2 := (zf37 _ (by omega)).trans mc2
              replace mc3 := (zf37 _ (by omega)).trans mc3
              replace mc4 := (zf37 _ (by omega)).trans mc4
              replace mv1 := zg36
              replace mv2 := (zf37 _ (by omega)).trans mv2
              replace mv3 := (zf37 _ (by omega)).trans mv3
              replace mv4 := (zf37 _ (by omega)).trans mv4
              have FR : ∀ q, ¬ (1000 ≤ q ∧ q < 1005 ∨ 1013 ≤ q ∧ q < 1017) → pic38 q = pic q := fun q hq => (zf37 q (by omega)).trans (FR q hq)
              refine v_aload_n K 0 dX6_tell_106 rfl rfl ?_
              refine gf_X6_13 K dX6_tell_107 fM rfl ?_
              refine v_iconst (v := nI 3) K dX6_tell_110 (by decide) ?_
              refine v_iload K dX6_tell_111 rfl ?_
              refine v_imulN K dX6_tell_113 ?_
              refine v_iload_n K 2 dX6_tell_114 rfl rfl ?_
              refine v_iast K dX6_tell_115 mv2 (by omega) (by decide) (fun pic41 zg39 zf40 => ?_)
              replace fM := (zf40 _ (by omega)).trans fM
              replace mc1 := (zf40 _ (by omega)).trans mc1
              replace mc2 := (zf40 _ (by omega)).trans mc2
              replace mc3 := (zf40 _ (by omega)).trans mc3
              replace mc4 := (zf40 _ (by omega)).trans mc4
              replace mv1 := (zf40 _ (by omega)).trans mv1
              replace mv2 := zg39
              replace mv3 := (zf40 _ (by omega)).trans mv3
              replace mv4 := (zf40 _ (by omega)).trans mv4
              have FR : ∀ q, ¬ (1000 ≤ q ∧ q < 1005 ∨ 1013 ≤ q ∧ q < 1017) → pic41 q = pic q := fun q hq => (zf40 q (by omega)).trans (FR q hq)
              refine v_aload_n K 0 dX6_tell_116 rfl rfl ?_
              refine gf_X6_13 K dX6_tell_117 fM rfl ?_
              refine v_iconst (v := nI 3) K dX6_tell_120 (by decide) ?_
              refine v_iload K dX6_tell_121 rfl ?_
              refine v_imulN K dX6_tell_123 ?_
              refine v_iconst (v := nI 1) K dX6_tell_124 (by decide) ?_
              refine v_iaddN K dX6_tell_125 ?_
              refine v_iload_n K 3 dX6_tell_126 rfl rfl ?_
              refine v_iast K dX6_tell_127 mv2 (by omega) (by decide) (fun pic44 zg42 zf43 => ?_)
              replace fM := (zf43 _ (by omega)).trans fM
              replace mc1 := (zf43 _ (by omega)).trans mc1
              replace mc2 := (zf43 _ (by omega)).trans mc2
              replace mc3 := (zf43 _ (by omega)).trans mc3
              replace mc4 := (zf43 _ (by omega)).trans mc4
              replace mv1 := (zf43 _ (by omega)).trans mv1
              replace mv2 := zg42
              replace mv3 := (zf43 _ (by omega)).trans mv3
              replace mv4 := (zf43 _ (by omega)).trans mv4
              have FR : ∀ q, ¬ (1000 ≤ q ∧ q < 1005 ∨ 1013 ≤ q ∧ q < 1017) → pic44 q = pic q := fun q hq => (zf43 q (by omega)).trans (FR q hq)
              refine v_aload_n K 0 dX6_tell_128 rfl rfl ?_
              refine gf_X6_13 K dX6_tell_129 fM rfl ?_
              refine v_iconst (v := nI 3) K dX6_tell_132 (by decide) ?_
              refine v_iload K dX6_tell_133 rfl ?_
              refine v_imulN K dX6_tell_135 ?_
              refine v_iconst (v := nI 2) K dX6_tell_136 (by decide) ?_
              refine v_iaddN K dX6_tell_137 ?_
              refine v_iload K dX6_tell_138 rfl ?_
              refine v_iast K dX6_tell_140 mv2 (by omega) (by decide) (fun pic47 zg45 zf46 => ?_)
              replace fM := (zf46 _ (by omega)).trans fM
              replace mc1 := (zf46 _ (by omega)).trans mc1
              replace mc2 := (zf46 _ (by omega)).trans mc2
              replace mc3 := (zf46 _ (by omega)).trans mc3
              replace mc4 := (zf46 _ (by omega)).trans mc4
              replace mv1 := (zf46 _ (by omega)).trans mv1
              replace mv2 := zg45
              replace mv3 := (zf46 _ (by omega)).trans mv3
              replace mv4 := (zf46 _ (by omega)).trans mv4
              have FR : ∀ q, ¬ (1000 ≤ q ∧ q < 1005 ∨ 1013 ≤ q ∧ q < 1017) → pic47 q = pic q := fun q hq => (zf46 q (by omega)).trans (FR q hq)
              refine v_aload_n K 0 dX6_tell_141 rfl rfl ?_
              refine gf_X6_16 K dX6_tell_142 fM rfl ?_
              refine v_iload K dX6_tell_145 rfl ?_
              refine v_lload K dX6_tell_147 rfl ?_
              refine v_last K dX6_tell_149 mv3 (by omega) (by decide) (fun pic50 zg48 zf49 => ?_)
              replace fM := (zf49 _ (by omega)).trans fM
              replace mc1 := (zf49 _ (by omega)).trans mc1
              replace mc2 := (zf49 _ (by omega)).trans mc2
              replace mc3 := (zf49 _ (by omega)).trans mc3
              replace mc4 := (zf49 _ (by omega)).trans mc4
              replace mv1 := (zf49 _ (by omega)).trans mv1
              replace mv2 := (zf49 _ (by omega)).trans mv2
              replace mv3 := zg48
              replace mv4 := (zf49 _ (by omega)).trans mv4
              have FR : ∀ q, ¬ (1000 ≤ q ∧ q < 1005 ∨ 1013 ≤ q ∧ q < 1017) → pic50 q = pic q := fun q hq => (zf49 q (by omega)).trans (FR q hq)
              refine v_aload_n K 0 dX6_tell_150 rfl rfl ?_
              refine gf_X6_20 K dX6_tell_151 fM rfl ?_
              refine v_iload K dX6_tell_154 rfl ?_
              refine v_aload_n K 0 dX6_tell_156 rfl rfl ?_
              refine gf_X6_102 K dX6_tell_157 fM rfl ?_
              refine v_aload_n K 0 dX6_tell_160 rfl rfl ?_
              refine gf_X6_77 K dX6_tell_161 fM rfl ?_
              refine v_iadd K dX6_tell_164 ?_
              refine v_iast K dX6_tell_165 mv4 (by omega) (by decide) (fun pic53 zg51 zf52 => ?_)
              replace fM := (zf52 _ (by omega)).trans fM
              replace mc1 := (zf52 _ (by omega)).trans mc1
              replace mc2 := (zf52 _ (by omega)).trans mc2
              replace mc3 := (zf52 _ (by omega)).trans mc3
              replace mc4 := (zf52 _ (by omega)).trans mc4
              replace mv1 := (zf52 _ (by omega)).trans mv1
              replace mv2 := (zf52 _ (by omega)).trans mv2
              replace mv3 := (zf52 _ (by omega)).trans mv3
              replace mv4 := zg51
              have FR : ∀ q, ¬ (1000 ≤ q ∧ q < 1005 ∨ 1013 ≤ q ∧ q < 1017) → pic53 q = pic q := fun q hq => (zf52 q (by omega)).trans (FR q hq)
              refine v_aload_n K 0 dX6_tell_166 rfl rfl ?_
              refine v_dup K dX6_tell_167 rfl ?_
              refine gf_X6_77 K dX6_tell_168 fM rfl ?_
              refine v_iconst (v := nI 1) K dX6_tell_171 (by decide) ?_
              refine v_iaddN K dX6_tell_172 ?_
              refine pf_X6_77 K dX6_tell_173 fM (Nat.le_of_ble_eq_true rfl) (fun pic56 zg54 zf55 => ?_)
              replace fM := zg54
              replace mc1 := (zf55 _ (by omega)).trans mc1
              replace mc2 := (zf55 _ (by omega)).trans mc2
              replace mc3 := (zf55 _ (by omega)).trans mc3
              replace mc4 := (zf55 _ (by omega)).trans mc4
              replace mv1 := (zf55 _ (by omega)).trans mv1
              replace mv2 := (zf55 _ (by omega)).trans mv2
              replace mv3 := (zf55 _ (by omega)).trans mv3
              replace mv4 := (zf55 _ (by omega)).trans mv4
              have FR : ∀ q, ¬ (1000 ≤ q ∧ q < 1005 ∨ 1013 ≤ q ∧ q < 1017) → pic56 q = pic q := fun q hq => (zf55 q (by omega)).trans (FR q hq)
              refine v_aload_n K 0 dX6_tell_176 rfl rfl ?_
              refine gf_X6_77 K dX6_tell_177 fM rfl ?_
              exact v_iret K dX6_tell_180 hr hlk (by decide) (by decide) (by first | exact (by rw [tellF_0 hqE]; exact ⟨rfl, fM, ⟨mc1, mc2, mc3, mc4⟩, ⟨mv1, mv2, mv3, mv4⟩, FR⟩) | exact (by rw [tellF_1 (fun h => h hpE) (by omega)]; exact ⟨rfl, fM, ⟨mc1, mc2, mc3, mc4⟩, ⟨mv1, mv2, mv3, mv4⟩, FR⟩) | exact (by rw [tellF_2 (fun h => h hpE) (by omega) (by omega)]; exact ⟨rfl, fM, ⟨mc1, mc2, mc3, mc4⟩, ⟨mv1, mv2, mv3, mv4⟩, FR⟩) | exact (by rw [tellF_3 (fun h => h hpE) (by omega) (by omega) (by omega)]; exact ⟨rfl, fM, ⟨mc1, mc2, mc3, mc4⟩, ⟨mv1, mv2, mv3, mv4⟩, FR⟩) | exact (by rw [tellF_4 (fun h => h hpE) (by omega) (by omega) (by omega)]; exact ⟨rfl, fM, ⟨mc1, mc2, mc3, mc4⟩, ⟨mv1, mv2, mv3, mv4⟩, FR⟩))
            · refine v_aload_n K 0 dX6_tell_67 rfl rfl ?_
              refine cl_X6_89 K dX6_tell_68 fM (c_X6_fails l D cA base pic ad th cl (nI on) nb d no ns lim use beg cau fM ⟨mc1, mc2, mc3, mc4⟩ hd (by omega)) rfl rfl ⟨by decide, by decide⟩ (Nat.le_of_ble_eq_true rfl) ⟨by decide, by decide⟩ (fun x68 pic57 hx58 => ?_)
              obtain ⟨rfl, h0, ⟨h1, h2, h3, h4⟩, h5⟩ := hx58
              replace fM := h0
              replace mc1 := h1
              replace mc2 := h2
              replace mc3 := h3
              replace mc4 := h4
              replace mv1 := (h5 _ (by omega)).trans mv1
              replace mv2 := (h5 _ (by omega)).trans mv2
              replace mv3 := (h5 _ (by omega)).trans mv3
              replace mv4 := (h5 _ (by omega)).trans mv4
              have FR : ∀ q, ¬ (1000 ≤ q ∧ q < 1005 ∨ 1013 ≤ q ∧ q < 1017) → pic57 q = pic q := fun q hq => (h5 q (by omega)).trans (FR q hq)
              exact v_iret K dX6_tell_71 hr hlk (by decide) (by decide) (by first | exact (by rw [tellF_0 hqE]; exact ⟨rfl, fM, ⟨mc1, mc2, mc3, mc4⟩, ⟨mv1, mv2, mv3, mv4⟩, FR⟩) | exact (by rw [tellF_1 (fun h => h hpE) (by omega)]; exact ⟨rfl, fM, ⟨mc1, mc2, mc3, mc4⟩, ⟨mv1, mv2, mv3, mv4⟩, FR⟩) | exact (by rw [tellF_2 (fun h => h hpE) (by omega) (by omega)]; exact ⟨rfl, fM, ⟨mc1, mc2, mc3, mc4⟩, ⟨mv1, mv2, mv3, mv4⟩, FR⟩) | exact (by rw [tellF_3 (fun h => h hpE) (by omega) (by omega) (by omega)]; exact ⟨rfl, fM, ⟨mc1, mc2, mc3, mc4⟩, ⟨mv1, mv2, mv3, mv4⟩, FR⟩) | exact (by rw [tellF_4 (fun h => h hpE) (by omega) (by omega) (by omega)]; exact ⟨rfl, fM, ⟨mc1, mc2, mc3, mc4⟩, ⟨mv1, mv2, mv3, mv4⟩, FR⟩))
        · refine v_bipush (v := nI 7) K dX6_tell_39 (by decide) ?_
          refine v_goto K 56 dX6_tell_41 (by decide) ?_
          refine v_top (v := .int (costF b2 c2)) (by rw [costF, if_pos (by omega)]) ?_
          refine v_istore K dX6_tell_56 (by decide) ?_
          refine v_iload K dX6_tell_58 rfl ?_
          refine v_aload_n K 0 dX6_tell_60 rfl rfl ?_
          refine cl_X6_85 K dX6_tell_61 fM (c_X6_left l D cA base pic ad th cl (nI on) nb d no ns lim use beg cau fM ⟨mc1, mc2, mc3, mc4⟩ hd) rfl rfl ⟨by decide, by decide⟩ (Nat.le_of_ble_eq_true rfl) ⟨by decide, by decide⟩ (fun x61 pic59 hx60 => ?_)
          obtain ⟨rfl, rfl⟩ := hx60
          refine v_icmp_le K 72 dX6_tell_64 (by decide) rfl rfl (fun c64 => ?_) (fun c64 => ?_)
          · refine v_aload_n K 0 dX6_tell_72 rfl rfl ?_
            refine gf_X6_39 K dX6_tell_73 fM rfl ?_
            refine v_aload_n K 0 dX6_tell_76 rfl rfl ?_
            refine gf_X6_74 K dX6_tell_77 fM rfl ?_
            refine v_iconst (v := nI 1) K dX6_tell_80 (by decide) ?_
            refine v_isubN K dX6_tell_81 (by omega) ?_
            refine v_dup2 K dX6_tell_82 rfl rfl ?_
            refine v_iald K dX6_tell_83 mc2 (by omega) (by decide) ?_
            refine v_iload K dX6_tell_84 rfl ?_
            refine v_iadd K dX6_tell_86 ?_
            refine v_iast K dX6_tell_87 mc2 (by omega) (by decide) (fun pic63 zg61 zf62 => ?_)
            replace fM := (zf62 _ (by omega)).trans fM
            replace mc1 := (zf62 _ (by omega)).trans mc1
            replace mc2 := zg61
            replace mc3 := (zf62 _ (by omega)).trans mc3
            replace mc4 := (zf62 _ (by omega)).trans mc4
            replace mv1 := (zf62 _ (by omega)).trans mv1
            replace mv2 := (zf62 _ (by omega)).trans mv2
            replace mv3 := (zf62 _ (by omega)).trans mv3
            replace mv4 := (zf62 _ (by omega)).trans mv4
            have FR : ∀ q, ¬ (1000 ≤ q ∧ q < 1005 ∨ 1013 ≤ q ∧ q < 1017) → pic63 q = pic q := fun q hq => (zf62 q (by omega)).trans (FR q hq)
            refine v_sipush (v := nI 1280) K dX6_tell_88 (by decide) ?_
            refine v_aload_n K 0 dX6_tell_91 rfl rfl ?_
            refine gf_X6_77 K dX6_tell_92 fM rfl ?_
            refine v_iaddN K dX6_tell_95 ?_
            refine v_istore K dX6_tell_96 (by decide) ?_
            refine v_aload_n K 0 dX6_tell_98 rfl rfl ?_
            refine gf_X6_7 K dX6_tell_99 fM rfl ?_
            refine v_iload K dX6_tell_102 rfl ?_
            refine v_iload_n K 1 dX6_tell_104 rfl rfl ?_
            refine v_iast K dX6_tell_105 mv1 (by omega) (by decide) (fun pic66 zg64 zf65 => ?_)
            replace fM := (zf65 _ (by omega)).trans fM
            replace mc1 := (zf65 _ (by omega)).trans mc1
            replace mc2 := (zf65 _ (by omega)).trans mc2
            replace mc3 := (zf65 _ (by omega)).trans mc3
            replace mc4 := (zf65 _ (by omega)).trans mc4
            replace mv1 := zg64
            replace mv2 := (zf65 _ (by omega)).trans mv2
            replace mv3 := (zf65 _ (by omega)).trans mv3
            replace mv4 := (zf65 _ (by omega)).trans mv4
            have FR : ∀ q, ¬ (1000 ≤ q ∧ q < 1005 ∨ 1013 ≤ q ∧ q < 1017) → pic66 q = pic q := fun q hq => (zf65 q (by omega)).trans (FR q hq)
            refine v_aload_n K 0 dX6_tell_106 rfl rfl ?_
            refine gf_X6_13 K dX6_tell_107 fM rfl ?_
            refine v_iconst (v := nI 3) K dX6_tell_110 (by decide) ?_
            refine v_iload K dX6_tell_111 rfl ?_
            refine v_imulN K dX6_tell_113 ?_
            refine v_iload_n K 2 dX6_tell_114 rfl rfl ?_
            refine v_iast K dX6_tell_115 mv2 (by omega) (by decide) (fun pic69 zg67 zf68 => ?_)
            replace fM := (zf68 _ (by omega)).trans fM
            replace mc1 := (zf68 _ (by omega)).trans mc1
            replace mc2 := (zf68 _ (by omega)).trans mc2
            replace mc3 := (zf68 _ (by omega)).trans mc3
            replace mc4 := (zf68 _ (by omega)).trans mc4
            replace mv1 := (zf68 _ (by omega)).trans mv1
            replace mv2 := zg67
            replace mv3 := (zf68 _ (by omega)).trans mv3
            replace mv4 := (zf68 _ (by omega)).trans mv4
            have FR : ∀ q, ¬ (1000 ≤ q ∧ q < 1005 ∨ 1013 ≤ q ∧ q < 1017) → pic69 q = pic q := fun q hq => (zf68 q (by omega)).trans (FR q hq)
            refine v_aload_n K 0 dX6_tell_116 rfl rfl ?_
            refine gf_X6_13 K dX6_tell_117 fM rfl ?_
            refine v_iconst (v := nI 3) K dX6_tell_120 (by decide) ?_
            refine v_iload K dX6_tell_121 rfl ?_
            refine v_imulN K dX6_tell_123 ?_
            refine v_iconst (v := nI 1) K dX6_tell_124 (by decide) ?_
            refine v_iaddN K dX6_tell_125 ?_
            refine v_iload_n K 3 dX6_tell_126 rfl rfl ?_
            refine v_iast K dX6_tell_127 mv2 (by omega) (by decide) (fun pic72 zg70 zf71 => ?_)
            replace fM := (zf71 _ (by omega)).trans fM
            replace mc1 := (zf71 _ (by omega)).trans mc1
            replace mc2 := (zf71 _ (by omega)).trans mc2
            replace mc3 := (zf71 _ (by omega)).trans mc3
            replace mc4 := (zf71 _ (by omega)).trans mc4
            replace mv1 := (zf71 _ (by omega)).trans mv1
            replace mv2 := zg70
            replace mv3 := (zf71 _ (by omega)).trans mv3
            replace mv4 := (zf71 _ (by omega)).trans mv4
            have FR : ∀ q, ¬ (1000 ≤ q ∧ q < 1005 ∨ 1013 ≤ q ∧ q < 1017) → pic72 q = pic q := fun q hq => (zf71 q (by omega)).trans (FR q hq)
            refine v_aload_n K 0 dX6_tell_128 rfl rfl ?_
            refine gf_X6_13 K dX6_tell_129 fM rfl ?_
            refine v_iconst (v := nI 3) K dX6_tell_132 (by decide) ?_
            refine v_iload K dX6_tell_133 rfl ?_
            refine v_imulN K dX6_tell_135 ?_
            refine v_iconst (v := nI 2) K dX6_tell_136 (by decide) ?_
            refine v_iaddN K dX6_tell_137 ?_
            refine v_iload K dX6_tell_138 rfl ?_
            refine v_iast K dX6_tell_140 mv2 (by omega) (by decide) (fun pic75 zg73 zf74 => ?_)
            replace fM := (zf74 _ (by omega)).trans fM
            replace mc1 := (zf74 _ (by omega)).trans mc1
            replace mc2 := (zf74 _ (by omega)).trans mc2
            replace mc3 := (zf74 _ (by omega)).trans mc3
            replace mc4 := (zf74 _ (by omega)).trans mc4
            replace mv1 := (zf74 _ (by omega)).trans mv1
            replace mv2 := zg73
            replace mv3 := (zf74 _ (by omega)).trans mv3
            replace mv4 := (zf74 _ (by omega)).trans mv4
            have FR : ∀ q, ¬ (1000 ≤ q ∧ q < 1005 ∨ 1013 ≤ q ∧ q < 1017) → pic75 q = pic q := fun q hq => (zf74 q (by omega)).trans (FR q hq)
            refine v_aload_n K 0 dX6_tell_141 rfl rfl ?_
            refine gf_X6_16 K dX6_tell_142 fM rfl ?_
            refine v_iload K dX6_tell_145 rfl ?_
            refine v_lload K dX6_tell_147 rfl ?_
            refine v_last K dX6_tell_149 mv3 (by omega) (by decide) (fun pic78 zg76 zf77 => ?_)
            replace fM := (zf77 _ (by omega)).trans fM
            replace mc1 := (zf77 _ (by omega)).trans mc1
            replace mc2 := (zf77 _ (by omega)).trans mc2
            replace mc3 := (zf77 _ (by omega)).trans mc3
            replace mc4 := (zf77 _ (by omega)).trans mc4
            replace mv1 := (zf77 _ (by omega)).trans mv1
            replace mv2 := (zf77 _ (by omega)).trans mv2
            replace mv3 := zg76
            replace mv4 := (zf77 _ (by omega)).trans mv4
            have FR : ∀ q, ¬ (1000 ≤ q ∧ q < 1005 ∨ 1013 ≤ q ∧ q < 1017) → pic78 q = pic q := fun q hq => (zf77 q (by omega)).trans (FR q hq)
            refine v_aload_n K 0 dX6_tell_150 rfl rfl ?_
            refine gf_X6_20 K dX6_tell_151 fM rfl ?_
            refine v_iload K dX6_tell_154 rfl ?_
            refine v_aload_n K 0 dX6_tell_156 rfl rfl ?_
            refine gf_X6_102 K dX6_tell_157 fM rfl ?_
            refine v_aload_n K 0 dX6_tell_160 rfl rfl ?_
            refine gf_X6_77 K dX6_tell_161 fM rfl ?_
            refine v_iadd K dX6_tell_164 ?_
            refine v_iast K dX6_tell_165 mv4 (by omega) (by decide) (fun pic81 zg79 zf80 => ?_)
            replace fM := (zf80 _ (by omega)).trans fM
            replace mc1 := (zf80 _ (by omega)).trans mc1
            replace mc2 := (zf80 _ (by omega)).trans mc2
            replace mc3 := (zf80 _ (by omega)).trans mc3
            replace mc4 := (zf80 _ (by omega)).trans mc4
            replace mv1 := (zf80 _ (by omega)).trans mv1
            replace mv2 := (zf80 _ (by omega)).trans mv2
            replace mv3 := (zf80 _ (by omega)).trans mv3
            replace mv4 := zg79
            have FR : ∀ q, ¬ (1000 ≤ q ∧ q < 1005 ∨ 1013 ≤ q ∧ q < 1017) → pic81 q = pic q := fun q hq => (zf80 q (by omega)).trans (FR q hq)
            refine v_aload_n K 0 dX6_tell_166 rfl rfl ?_
            refine v_dup K dX6_tell_167 rfl ?_
            refine gf_X6_77 K dX6_tell_168 fM rfl ?_
            refine v_iconst (v := nI 1) K dX6_tell_171 (by decide) ?_
            refine v_iaddN K dX6_tell_172 ?_
            refine pf_X6_77 K dX6_tell_173 fM (Nat.le_of_ble_eq_true rfl) (fun pic84 zg82 zf83 => ?_)
            replace fM := zg82
            replace mc1 := (zf83 _ (by omega)).trans mc1
            replace mc2 := (zf83 _ (by omega)).trans mc2
            replace mc3 := (zf83 _ (by omega)).trans mc3
            replace mc4 := (zf83 _ (by omega)).trans mc4
            replace mv1 := (zf83 _ (by omega)).trans mv1
            replace mv2 := (zf83 _ (by omega)).trans mv2
            replace mv3 := (zf83 _ (by omega)).trans mv3
            replace mv4 := (zf83 _ (by omega)).trans mv4
            have FR : ∀ q, ¬ (1000 ≤ q ∧ q < 1005 ∨ 1013 ≤ q ∧ q < 1017) → pic84 q = pic q := fun q hq => (zf83 q (by omega)).trans (FR q hq)
            refine v_aload_n K 0 dX6_tell_176 rfl rfl ?_
            refine gf_X6_77 K dX6_tell_177 fM rfl ?_
            exact v_iret K dX6_tell_180 hr hlk (by decide) (by decide) (by first | exact (by rw [tellF_0 hqE]; exact ⟨rfl, fM, ⟨mc1, mc2, mc3, mc4⟩, ⟨mv1, mv2, mv3, mv4⟩, FR⟩) | exact (by rw [tellF_1 (fun h => h hpE) (by omega)]; exact ⟨rfl, fM, ⟨mc1, mc2, mc3, mc4⟩, ⟨mv1, mv2, mv3, mv4⟩, FR⟩) | exact (by rw [tellF_2 (fun h => h hpE) (by omega) (by omega)]; exact ⟨rfl, fM, ⟨mc1, mc2, mc3, mc4⟩, ⟨mv1, mv2, mv3, mv4⟩, FR⟩) | exact (by rw [tellF_3 (fun h => h hpE) (by omega) (by omega) (by omega)]; exact ⟨rfl, fM, ⟨mc1, mc2, mc3, mc4⟩, ⟨mv1, mv2, mv3, mv4⟩, FR⟩) | exact (by rw [tellF_4 (fun h => h hpE) (by omega) (by omega) (by omega)]; exact ⟨rfl, fM, ⟨mc1, mc2, mc3, mc4⟩, ⟨mv1, mv2, mv3, mv4⟩, FR⟩))
          · refine v_aload_n K 0 dX6_tell_67 rfl rfl ?_
            refine cl_X6_89 K dX6_tell_68 fM (c_X6_fails l D cA base pic ad th cl (nI on) nb d no ns lim use beg cau fM ⟨mc1, mc2, mc3, mc4⟩ hd (by omega)) rfl rfl ⟨by decide, by decide⟩ (Nat.le_of_ble_eq_true rfl) ⟨by decide, by decide⟩ (fun x68 pic85 hx86 => ?_)
            obtain ⟨rfl, h0, ⟨h1, h2, h3, h4⟩, h5⟩ := hx86
            replace fM := h0
            replace mc1 := h1
            replace mc2 := h2
            replace mc3 := h3
            replace mc4 := h4
            replace mv1 := (h5 _ (by omega)).trans mv1
            replace mv2 := (h5 _ (by omega)).trans mv2
            replace mv3 := (h5 _ (by omega)).trans mv3
            replace mv4 := (h5 _ (by omega)).trans mv4
            have FR : ∀ q, ¬ (1000 ≤ q ∧ q < 1005 ∨ 1013 ≤ q ∧ q < 1017) → pic85 q = pic q := fun q hq => (h5 q (by omega)).trans (FR q hq)
            exact v_iret K dX6_tell_71 hr hlk (by decide) (by decide) (by first | exact (by rw [tellF_0 hqE]; exact ⟨rfl, fM, ⟨mc1, mc2, mc3, mc4⟩, ⟨mv1, mv2, mv3, mv4⟩, FR⟩) | exact (by rw [tellF_1 (fun h => h hpE) (by omega)]; exact ⟨rfl, fM, ⟨mc1, mc2, mc3, mc4⟩, ⟨mv1, mv2, mv3, mv4⟩, FR⟩) | exact (by rw [tellF_2 (fun h => h hpE) (by omega) (by omega)]; exact ⟨rfl, fM, ⟨mc1, mc2, mc3, mc4⟩, ⟨mv1, mv2, mv3, mv4⟩, FR⟩) | exact (by rw [tellF_3 (fun h => h hpE) (by omega) (by omega) (by omega)]; exact ⟨rfl, fM, ⟨mc1, mc2, mc3, mc4⟩, ⟨mv1, mv2, mv3, mv4⟩, FR⟩) | exact (by rw [tellF_4 (fun h => h hpE) (by omega) (by omega) (by omega)]; exact ⟨rfl, fM, ⟨mc1, mc2, mc3, mc4⟩, ⟨mv1, mv2, mv3, mv4⟩, FR⟩))
      · refine v_bipush (v := -3) K dX6_tell_32 (by decide) ?_
        exact v_iret K dX6_tell_34 hr hlk (by decide) (by decide) (by first | exact (by rw [tellF_0 hqE]; exact ⟨rfl, fM, ⟨mc1, mc2, mc3, mc4⟩, ⟨mv1, mv2, mv3, mv4⟩, FR⟩) | exact (by rw [tellF_1 (fun h => h hpE) (by omega)]; exact ⟨rfl, fM, ⟨mc1, mc2, mc3, mc4⟩, ⟨mv1, mv2, mv3, mv4⟩, FR⟩) | exact (by rw [tellF_2 (fun h => h hpE) (by omega) (by omega)]; exact ⟨rfl, fM, ⟨mc1, mc2, mc3, mc4⟩, ⟨mv1, mv2, mv3, mv4⟩, FR⟩) | exact (by rw [tellF_3 (fun h => h hpE) (by omega) (by omega) (by omega)]; exact ⟨rfl, fM, ⟨mc1, mc2, mc3, mc4⟩, ⟨mv1, mv2, mv3, mv4⟩, FR⟩) | exact (by rw [tellF_4 (fun h => h hpE) (by omega) (by omega) (by omega)]; exact ⟨rfl, fM, ⟨mc1, mc2, mc3, mc4⟩, ⟨mv1, mv2, mv3, mv4⟩, FR⟩))
    · refine v_bipush (v := -2) K dX6_tell_20 (by decide) ?_
      exact v_iret K dX6_tell_22 hr hlk (by decide) (by decide) (by first | exact (by rw [tellF_0 hqE]; exact ⟨rfl, fM, ⟨mc1, mc2, mc3, mc4⟩, ⟨mv1, mv2, mv3, mv4⟩, FR⟩) | exact (by rw [tellF_1 (fun h => h hpE) (by omega)]; exact ⟨rfl, fM, ⟨mc1, mc2, mc3, mc4⟩, ⟨mv1, mv2, mv3, mv4⟩, FR⟩) | exact (by rw [tellF_2 (fun h => h hpE) (by omega) (by omega)]; exact ⟨rfl, fM, ⟨mc1, mc2, mc3, mc4⟩, ⟨mv1, mv2, mv3, mv4⟩, FR⟩) | exact (by rw [tellF_3 (fun h => h hpE) (by omega) (by omega) (by omega)]; exact ⟨rfl, fM, ⟨mc1, mc2, mc3, mc4⟩, ⟨mv1, mv2, mv3, mv4⟩, FR⟩) | exact (by rw [tellF_4 (fun h => h hpE) (by omega) (by omega) (by omega)]; exact ⟨rfl, fM, ⟨mc1, mc2, mc3, mc4⟩, ⟨mv1, mv2, mv3, mv4⟩, FR⟩))
  · refine v_if_ne K 13 dX6_tell_8 (by decide) rfl (fun c => absurd c (by decide)) (fun _ => ?_)
    refine v_iconst (v := -1) K dX6_tell_11 (by decide) ?_
    exact v_iret K dX6_tell_12 hr hlk (by decide) (by decide) (by first | exact (by rw [tellF_0 hqE]; exact ⟨rfl, fM, ⟨mc1, mc2, mc3, mc4⟩, ⟨mv1, mv2, mv3, mv4⟩, FR⟩) | exact (by rw [tellF_1 (fun h => h hpE) (by omega)]; exact ⟨rfl, fM, ⟨mc1, mc2, mc3, mc4⟩, ⟨mv1, mv2, mv3, mv4⟩, FR⟩) | exact (by rw [tellF_2 (fun h => h hpE) (by omega) (by omega)]; exact ⟨rfl, fM, ⟨mc1, mc2, mc3, mc4⟩, ⟨mv1, mv2, mv3, mv4⟩, FR⟩) | exact (by rw [tellF_3 (fun h => h hpE) (by omega) (by omega) (by omega)]; exact ⟨rfl, fM, ⟨mc1, mc2, mc3, mc4⟩, ⟨mv1, mv2, mv3, mv4⟩, FR⟩) | exact (by rw [tellF_4 (fun h => h hpE) (by omega) (by omega) (by omega)]; exact ⟨rfl, fM, ⟨mc1, mc2, mc3, mc4⟩, ⟨mv1, mv2, mv3, mv4⟩, FR⟩))

set_option maxHeartbeats 4000000 in
set_option maxRecDepth 100000 in
theorem c_X6_told (l : Launch) (D : va_G) (cA : Nat → ClassId) (base : Nat) (pic : PIC) (ad : Nat → Nat) (th cl : Int32) (on nb d no ns : Nat) (lim use beg cau : Nat → Int32) (w : Int32) (fM : pic 1000 = some (ad 1000, moE ad th nb cl (nI on) d no ns)) (hC : MCalls pic cA ad lim use beg cau) (hd : d ≤ 8)  : CI l yX6_told cX6_told 2 (some .int) { frames := 1, cells := 0, slots := 0, locals := 20 } 0 0 D cA base pic [.ref (ad 1000), .int w] (fun x9 pic1 => pic = pic1 ∧ x9 = toldF d lim use on nb ns cl w.toInt) := by
  refine ofI (by decide) (Nat.le_of_ble_eq_true rfl) ?_
  intro p e s m below meth c K hr hlk hnm
  obtain ⟨mc1, mc2, mc3, mc4⟩ := hC
  refine v_iload_n K 1 dX6_told_0 rfl rfl ?_
  rcases tsw7 w with hw | rfl | rfl | rfl | rfl | rfl | rfl | rfl
  · refine v_tableOut K 102 dX6_told_1 rfl (by omega) (by decide) ?_
    refine v_iconst (v := -1) K dX6_told_102 (by decide) ?_
    exact v_iret K dX6_told_103 hr hlk (by decide) (by decide) (⟨rfl, by rw [toldF_7 (by omega) (by omega) (by omega) (by omega) (by omega) (by omega) (by omega)]⟩)
  · refine v_tableIn K 44 dX6_told_1 (nI_toInt (n := 0) (by decide)) (by decide) (by decide) rfl (by decide) ?_
    refine v_aload_n K 0 dX6_told_44 rfl rfl ?_
    refine gf_X6_74 K dX6_told_45 fM rfl ?_
    exact v_iret K dX6_told_48 hr hlk (by decide) (by decide) (⟨rfl, by rw [show (nI 0).toInt = 0 from by decide, toldF_0 rfl]⟩)
  · refine v_tableIn K 49 dX6_told_1 (nI_toInt (n := 1) (by decide)) (by decide) (by decide) rfl (by decide) ?_
    refine v_aload_n K 0 dX6_told_49 rfl rfl ?_
    refine gf_X6_74 K dX6_told_50 fM rfl ?_
    refine v_if_ne K 60 dX6_told_53 (by decide) (nI_toInt (by omega)) (fun c53 => ?_) (fun c53 => ?_)
    · refine v_aload_n K 0 dX6_told_60 rfl rfl ?_
      refine gf_X6_39 K dX6_told_61 fM rfl ?_
      refine v_aload_n K 0 dX6_told_64 rfl rfl ?_
      refine gf_X6_74 K dX6_told_65 fM rfl ?_
      refine v_iconst (v := nI 1) K dX6_told_68 (by decide) ?_
      refine v_isubN K dX6_told_69 (by omega) ?_
      refine v_iald K dX6_told_70 mc2 (by omega) (by decide) ?_
      exact v_iret K dX6_told_71 hr hlk (by decide) (by decide) (⟨rfl, by rw [show (nI 1).toInt = 1 from by decide, toldF_1 (by decide) rfl]; first | (rw [if_pos (by omega)]; rfl) | rw [if_neg (by omega)]⟩)
    · refine v_iconst (v := nI 0) K dX6_told_56 (by decide) ?_
      refine v_goto K 71 dX6_told_57 (by decide) ?_
      exact v_iret K dX6_told_71 hr hlk (by decide) (by decide) (⟨rfl, by rw [show (nI 1).toInt = 1 from by decide, toldF_1 (by decide) rfl]; first | (rw [if_pos (by omega)]; rfl) | rw [if_neg (by omega)]⟩)
  · refine v_tableIn K 72 dX6_told_1 (nI_toInt (n := 2) (by decide)) (by decide) (by decide) rfl (by decide) ?_
    refine v_aload_n K 0 dX6_told_72 rfl rfl ?_
    refine cl_X6_85 K dX6_told_73 fM (c_X6_left l D cA base pic ad th cl (nI on) nb d no ns lim use beg cau fM ⟨mc1, mc2, mc3, mc4⟩ hd) rfl rfl ⟨by decide, by decide⟩ (Nat.le_of_ble_eq_true rfl) ⟨by decide, by decide⟩ (fun x73 pic1 hx2 => ?_)
    obtain ⟨rfl, rfl⟩ := hx2
    exact v_iret K dX6_told_76 hr hlk (by decide) (by decide) (⟨rfl, by rw [show (nI 2).toInt = 2 from by decide, toldF_2 (by decide) (by decide) rfl]⟩)
  · refine v_tableIn K 77 dX6_told_1 (nI_toInt (n := 3) (by decide)) (by decide) (by decide) rfl (by decide) ?_
    refine v_aload_n K 0 dX6_told_77 rfl rfl ?_
    refine gf_X6_77 K dX6_told_78 fM rfl ?_
    exact v_iret K dX6_told_81 hr hlk (by decide) (by decide) (⟨rfl, by rw [show (nI 3).toInt = 3 from by decide, toldF_3 (by decide) (by decide) (by decide) rfl]⟩)
  · refine v_tableIn K 82 dX6_told_1 (nI_toInt (n := 4) (by decide)) (by decide) (by decide) rfl (by decide) ?_
    refine v_aload_n K 0 dX6_told_82 rfl rfl ?_
    refine gf_X6_102 K dX6_told_83 fM rfl ?_
    refine v_aload_n K 0 dX6_told_86 rfl rfl ?_
    refine gf_X6_77 K dX6_told_87 fM rfl ?_
    refine v_iadd K dX6_told_90 ?_
    exact v_iret K dX6_told_91 hr hlk (by decide) (by decide) (⟨rfl, by rw [show (nI 4).toInt = 4 from by decide, toldF_4 (by decide) (by decide) (by decide) (by decide) rfl]⟩)
  · refine v_tableIn K 92 dX6_told_1 (nI_toInt (n := 5) (by decide)) (by decide) (by decide) rfl (by decide) ?_
    refine v_aload_n K 0 dX6_told_92 rfl rfl ?_
    refine gf_X6_67 K dX6_told_93 fM rfl ?_
    exact v_iret K dX6_told_96 hr hlk (by decide) (by decide) (⟨rfl, by rw [show (nI 5).toInt = 5 from by decide, toldF_5 (by decide) (by decide) (by decide) (by decide) (by decide) rfl]⟩)
  · refine v_tableIn K 97 dX6_told_1 (nI_toInt (n := 6) (by decide)) (by decide) (by decide) rfl (by decide) ?_
    refine v_aload_n K 0 dX6_told_97 rfl rfl ?_
    refine gf_X6_105 K dX6_told_98 fM rfl ?_
    exact v_iret K dX6_told_101 hr hlk (by decide) (by decide) (⟨rfl, by rw [show (nI 6).toInt = 6 from by decide, toldF_6 (by decide) (by decide) (by decide) (by decide) (by decide) (by decide) rfl]⟩)

