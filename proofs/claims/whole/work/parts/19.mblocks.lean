theorem v_lookup {p : Program} {l : Launch} {e : Env} {s : State} {m : MethodId} {args : Array Value} {below : List Frame} {meth : Method} {c : Code} {Q : State → Prop} {D : va_G} {cA : Nat → ClassId} {base : Nat} {cw : Cond} {R : Room} {cc : ByteArray} {nL : Nat} {own : String} {pic : PIC} {lv : LV} {pc : Nat} {st : List Value} {cells slots : Nat} (K : KX p m c cc nL s args cw own D cA) {dflt : Int} {ps : Array (Int × Int)} {len : Nat} {x : Int32} {off : Int} (tgt : Nat) (d : decode cc pc = .ok (.lookupswitch dflt ps, len)) (hp : (ps.toList.zip (ps.toList.drop 1)).all (fun (a, next) => a.1 < next.1) = true) (ho : Op.lookupswitch.offset ps.toList dflt x.toInt = off) (ht : (pc : Int) + off = (tgt : Int)) (k : V p l e R s m args below meth c Q D base nL pic lv tgt st cells slots) : V p l e R s m args below meth c Q D base nL pic lv pc (.int x :: st) cells slots := fun H locs ls hP hS hl => lv_lookup K.1.1 K.1.2.1 d hp ho ht (k H locs ls hP hS hl)
def topOK (a b c : Int32) : Prop := isTop a ∧ isTopN b ∧ isTopN c ∧ (b.toInt = -1 → c.toInt = -1)
/-- the reference's rows from o on hold the events E, whose serial numbers begin at fs -/
def RelE (o n : Nat) (E : Evs) (fs : Int32) (mac mtp : Nat → Int32) (mvl : Nat → Int64) (mse : Nat → Int32) : Prop := ∀ i, i < n → (mac (o + i) = eA E i ∧ mtp (3 * (o + i)) = e1 E i ∧ mtp (3 * (o + i) + 1) = e2 E i ∧ mtp (3 * (o + i) + 2) = e3 E i ∧ mvl (o + i) = eV E i ∧ mse (o + i) = fs + nI i) ∧ topOK (e1 E i) (e2 E i) (e3 E i)
def RelB (nb : Nat) (B : Nat → Bk) (msz mpr : Nat → Int32) (mro mfi : Nat → Int64) (mac mtp : Nat → Int32) (mvl : Nat → Int64) (mse : Nat → Int32) : Prop := ∀ j, j < nb → msz j = nI (bN (B j)) ∧ bN (B j) ≤ 32 ∧ ((mpr j).toInt + (bKp (B j)).toInt = 1 ∧ ((bKp (B j)).toInt = 0 ∨ (bKp (B j)).toInt = 1)) ∧ mro j = bRd (B j) ∧ mfi j = bFb (B j) ∧ RelE (32 * j) (bN (B j)) (bE (B j)) (bFs (B j)) mac mtp mvl mse
theorem RelB.prune {nb j : Nat} {B : Nat → Bk} {msz mpr : Nat → Int32} {mro mfi : Nat → Int64} {mac mtp : Nat → Int32} {mvl : Nat → Int64} {mse : Nat → Int32} (h : RelB nb B msz mpr mro mfi mac mtp mvl mse) : RelB nb (va_up B j (bN (B j), 0, (B j).2.2)) msz (upd mpr j 1) mro mfi mac mtp mvl mse := by
  intro k hk
  obtain ⟨a1, a2, a3, a4, a5, a6⟩ := h k hk
  by_cases hkj : k = j
  · subst hkj
    rw [va_up_self, pk_us]
    exact ⟨a1, a2, ⟨show (1 : Int32).toInt + (0 : Int32).toInt = 1 from by decide, Or.inl (show (0 : Int32).toInt = 0 from by decide)⟩, a4, a5, a6⟩
  · rw [va_up_ne _ _ hkj, pk_un hkj]
    exact ⟨a1, a2, a3, a4, a5, a6⟩
set_option maxHeartbeats 4000000 in
set_option maxRecDepth 100000 in
theorem c_X6_topicMany (l : Launch) (D : va_G) (cA : Nat → ClassId) (base : Nat) (pic : PIC) (ad : Nat → Nat) (th cl cnt : Int32) (nb d no ns : Nat) (mtp : Nat → Int32) (e0 : Nat) (fM : pic 1000 = some (ad 1000, moE ad th nb cl cnt d no ns)) (mv2 : pic 1002 = some (ad 1002, .inl (cA 0, 3936, .inl mtp))) (he : e0 < 1312)  : CI l yX6_topicMany cX6_topicMany 2 (some .int) { frames := 0, cells := 0, slots := 0, locals := 0 } 0 0 D cA base pic [.ref (ad 1000), .int (nI e0)] (fun x pic1 => (pic = pic1 ∧ x = nI 1 ∧ (mtp (3 * e0 + 1)).toInt < 0) ∨ (pic = pic1 ∧ x = nI 2 ∧ ¬ (mtp (3 * e0 + 1)).toInt < 0 ∧ (mtp (3 * e0 + 2)).toInt < 0) ∨ (pic = pic1 ∧ x = nI 3 ∧ ¬ (mtp (3 * e0 + 1)).toInt < 0 ∧ ¬ (mtp (3 * e0 + 2)).toInt < 0)) := by
  refine ofI (by decide) (Nat.le_of_ble_eq_true rfl) ?_
  intro p e s m below meth c K hr hlk hnm
  refine v_aload_n K 0 dX6_topicMany_0 rfl rfl ?_
  refine gf_X6_13 K dX6_topicMany_1 fM rfl ?_
  refine v_iconst (v := nI 3) K dX6_topicMany_4 (by decide) ?_
  refine v_iload_n K 1 dX6_topicMany_5 rfl rfl ?_
  refine v_imulN K dX6_topicMany_6 ?_
  refine v_iconst (v := nI 1) K dX6_topicMany_7 (by decide) ?_
  refine v_iaddN K dX6_topicMany_8 ?_
  refine v_iald K dX6_topicMany_9 mv2 (by omega) (by decide) ?_
  refine v_if_ge K 17 dX6_topicMany_10 (by decide) rfl (fun c10 => ?_) (fun c10 => ?_)
  · refine v_aload_n K 0 dX6_topicMany_17 rfl rfl ?_
    refine gf_X6_13 K dX6_topicMany_18 fM rfl ?_
    refine v_iconst (v := nI 3) K dX6_topicMany_21 (by decide) ?_
    refine v_iload_n K 1 dX6_topicMany_22 rfl rfl ?_
    refine v_imulN K dX6_topicMany_23 ?_
    refine v_iconst (v := nI 2) K dX6_topicMany_24 (by decide) ?_
    refine v_iaddN K dX6_topicMany_25 ?_
    refine v_iald K dX6_topicMany_26 mv2 (by omega) (by decide) ?_
    refine v_if_ge K 34 dX6_topicMany_27 (by decide) rfl (fun c27 => ?_) (fun c27 => ?_)
    · refine v_iconst (v := nI 3) K dX6_topicMany_34 (by decide) ?_
      exact v_iret K dX6_topicMany_35 hr hlk (by decide) (by decide) (by first | exact (Or.inl ⟨rfl, rfl, by omega⟩) | exact (Or.inr (Or.inl ⟨rfl, rfl, by omega, by omega⟩)) | exact (Or.inr (Or.inr ⟨rfl, rfl, by omega, by omega⟩)))
    · refine v_iconst (v := nI 2) K dX6_topicMany_30 (by decide) ?_
      refine v_goto K 35 dX6_topicMany_31 (by decide) ?_
      exact v_iret K dX6_topicMany_35 hr hlk (by decide) (by decide) (by first | exact (Or.inl ⟨rfl, rfl, by omega⟩) | exact (Or.inr (Or.inl ⟨rfl, rfl, by omega, by omega⟩)) | exact (Or.inr (Or.inr ⟨rfl, rfl, by omega, by omega⟩)))
  · refine v_iconst (v := nI 1) K dX6_topicMany_13 (by decide) ?_
    refine v_goto K 35 dX6_topicMany_14 (by decide) ?_
    exact v_iret K dX6_topicMany_35 hr hlk (by decide) (by decide) (by first | exact (Or.inl ⟨rfl, rfl, by omega⟩) | exact (Or.inr (Or.inl ⟨rfl, rfl, by omega, by omega⟩)) | exact (Or.inr (Or.inr ⟨rfl, rfl, by omega, by omega⟩)))

set_option maxHeartbeats 4000000 in
set_option maxRecDepth 100000 in
theorem c_X6_has (l : Launch) (D : va_G) (cA : Nat → ClassId) (base : Nat) (pic : PIC) (ad : Nat → Nat) (th cl cnt : Int32) (nb d no ns : Nat) (mtp : Nat → Int32) (e0 : Nat) (t : Int32) (fM : pic 1000 = some (ad 1000, moE ad th nb cl cnt d no ns)) (mv2 : pic 1002 = some (ad 1002, .inl (cA 0, 3936, .inl mtp))) (he : e0 < 1312)  : CI l yX6_has cX6_has 3 (some .boolean) { frames := 0, cells := 0, slots := 0, locals := 0 } 0 0 D cA base pic [.ref (ad 1000), .int (nI e0), .int t] (fun x pic1 => (pic = pic1 ∧ x = 1 ∧ hasT (mtp (3 * e0)) (mtp (3 * e0 + 1)) (mtp (3 * e0 + 2)) t) ∨ (pic = pic1 ∧ x = 0 ∧ ¬ hasT (mtp (3 * e0)) (mtp (3 * e0 + 1)) (mtp (3 * e0 + 2)) t)) := by
  refine ofI (by decide) (Nat.le_of_ble_eq_true rfl) ?_
  intro p e s m below meth c K hr hlk hnm
  refine v_aload_n K 0 dX6_has_0 rfl rfl ?_
  refine gf_X6_13 K dX6_has_1 fM rfl ?_
  refine v_iconst (v := nI 3) K dX6_has_4 (by decide) ?_
  refine v_iload_n K 1 dX6_has_5 rfl rfl ?_
  refine v_imulN K dX6_has_6 ?_
  refine v_iald K dX6_has_7 mv2 (by omega) (by decide) ?_
  refine v_iload_n K 2 dX6_has_8 rfl rfl ?_
  refine v_icmp_eq K 40 dX6_has_9 (by decide) rfl rfl (fun c9 => ?_) (fun c9 => ?_)
  · refine v_iconst (v := nI 1) K dX6_has_40 (by decide) ?_
    refine v_goto K 45 dX6_has_41 (by decide) ?_
    exact v_zret K dX6_has_45 hr (narB (by first | exact isB0 | exact isB1 | assumption)) hlk (by decide) (by decide) (by first | exact (Or.inl ⟨rfl, rfl, by unfold hasT; omega⟩) | exact (Or.inr ⟨rfl, rfl, by unfold hasT; omega⟩))
  · refine v_aload_n K 0 dX6_has_12 rfl rfl ?_
    refine gf_X6_13 K dX6_has_13 fM rfl ?_
    refine v_iconst (v := nI 3) K dX6_has_16 (by decide) ?_
    refine v_iload_n K 1 dX6_has_17 rfl rfl ?_
    refine v_imulN K dX6_has_18 ?_
    refine v_iconst (v := nI 1) K dX6_has_19 (by decide) ?_
    refine v_iaddN K dX6_has_20 ?_
    refine v_iald K dX6_has_21 mv2 (by omega) (by decide) ?_
    refine v_iload_n K 2 dX6_has_22 rfl rfl ?_
    refine v_icmp_eq K 40 dX6_has_23 (by decide) rfl rfl (fun c23 => ?_) (fun c23 => ?_)
    · refine v_iconst (v := nI 1) K dX6_has_40 (by decide) ?_
      refine v_goto K 45 dX6_has_41 (by decide) ?_
      exact v_zret K dX6_has_45 hr (narB (by first | exact isB0 | exact isB1 | assumption)) hlk (by decide) (by decide) (by first | exact (Or.inl ⟨rfl, rfl, by unfold hasT; omega⟩) | exact (Or.inr ⟨rfl, rfl, by unfold hasT; omega⟩))
    · refine v_aload_n K 0 dX6_has_26 rfl rfl ?_
      refine gf_X6_13 K dX6_has_27 fM rfl ?_
      refine v_iconst (v := nI 3) K dX6_has_30 (by decide) ?_
      refine v_iload_n K 1 dX6_has_31 rfl rfl ?_
      refine v_imulN K dX6_has_32 ?_
      refine v_iconst (v := nI 2) K dX6_has_33 (by decide) ?_
      refine v_iaddN K dX6_has_34 ?_
      refine v_iald K dX6_has_35 mv2 (by omega) (by decide) ?_
      refine v_iload_n K 2 dX6_has_36 rfl rfl ?_
      refine v_icmp_ne K 44 dX6_has_37 (by decide) rfl rfl (fun c37 => ?_) (fun c37 => ?_)
      · refine v_iconst (v := nI 0) K dX6_has_44 (by decide) ?_
        exact v_zret K dX6_has_45 hr (narB (by first | exact isB0 | exact isB1 | assumption)) hlk (by decide) (by decide) (by first | exact (Or.inl ⟨rfl, rfl, by unfold hasT; omega⟩) | exact (Or.inr ⟨rfl, rfl, by unfold hasT; omega⟩))
      · refine v_iconst (v := nI 1) K dX6_has_40 (by decide) ?_
        refine v_goto K 45 dX6_has_41 (by decide) ?_
        exact v_zret K dX6_has_45 hr (narB (by first | exact isB0 | exact isB1 | assumption)) hlk (by decide) (by decide) (by first | exact (Or.inl ⟨rfl, rfl, by unfold hasT; omega⟩) | exact (Or.inr ⟨rfl, rfl, by unfold hasT; omega⟩))

set_option maxHeartbeats 4000000 in
set_option maxRecDepth 100000 in
theorem l_X6_leaves {p : Program} {l : Launch} {e : Env} {s : State} {m : MethodId} {args : Array Value} {below : List Frame} {meth : Method} {c : Code} {Q : State → Prop} {D : va_G} {cA : Nat → ClassId} {base : Nat} {cw : Cond} (K : KX p m c cX6_leaves 4 s args cw RX6 D cA) (ad : Nat → Nat) (th cl cnt : Int32) (nb d no ns : Nat) (mac mtp : Nat → Int32) (mvl : Nat → Int64) (mse : Nat → Int32) (msz mpr : Nat → Int32) (mro mfi : Nat → Int64) (j n : Nat) (hj : j < 41) (hs : msz j = nI n) (hn : n ≤ 32) (ht : ∀ i, i < n → -1 ≤ (mtp (3 * (32 * j + i) + 1)).toInt ∧ -1 ≤ (mtp (3 * (32 * j + i) + 2)).toInt) (pic0 : PIC) (kx : ∀ (pic1 : PIC) (g : Nat → Int64), MLev pic1 cA ad g → (∀ i, i < n → g i = (leafF (mac (32 * j + i)) (mtp (3 * (32 * j + i))) (mtp (3 * (32 * j + i) + 1)) (mtp (3 * (32 * j + i) + 2)) (mvl (32 * j + i)) (nI i))) → (∀ q, ¬ (q = 1023) → pic1 q = pic0 q) → V p l e { frames := 2, cells := 0, slots := 0, locals := 53 } s m args below meth c Q D base 4 pic1 (lvOf []) 75 [] 0 0) : ∀ (g i : Nat) (pic : PIC) (row : Nat → Int64), n - i < g → i ≤ n → pic 1000 = some (ad 1000, moE ad th nb cl cnt d no ns) → MEv pic cA ad mac mtp mvl mse → MBl pic cA ad msz mpr mro mfi → MLev pic cA ad row → (∀ i2, i2 < i → row i2 = (leafF (mac (32 * j + i2)) (mtp (3 * (32 * j + i2))) (mtp (3 * (32 * j + i2) + 1)) (mtp (3 * (32 * j + i2) + 2)) (mvl (32 * j + i2)) (nI i2))) → (∀ q, ¬ (q = 1023) → pic q = pic0 q) → V p l e { frames := 2, cells := 0, slots := 0, locals := 53 } s m args below meth c Q D base 4 pic (lvOf [(0, .ref (ad 1000)), (1, .int (nI j)), (2, .int (nI (i)))]) 2 [] 0 0 := by
  intro g
  induction g with
  | zero => intro i pic row h; omega
  | succ g ih =>
    intro i pic row hg hi fM hV hBl my1 hrow FR
    unfold MLev at my1
    have ⟨mv1, mv2, mv3, mv4⟩ := hV
    have ⟨mb1, mb2, mb3, mb4⟩ := hBl
    refine v_iload_n K 2 dX6_leaves_2 rfl rfl ?_
    refine v_aload_n K 0 dX6_leaves_3 rfl rfl ?_
    refine gf_X6_23 K dX6_leaves_4 fM rfl ?_
    refine v_iload_n K 1 dX6_leaves_7 rfl rfl ?_
    refine v_iald K dX6_leaves_8 mb1 (by omega) (by decide) ?_
    refine v_top (v := .int (nI n)) (by rw [hs]) ?_
    refine v_icmp_ge K 75 dX6_leaves_9 (by decide) (nI_toInt (by omega)) (nI_toInt (by omega)) (fun c9 => ?_) (fun c9 => ?_)
    · obtain rfl : i = n := by omega
      refine v_at [] (lnil) ?_
      exact kx pic row my1 hrow FR
    · refine v_bipush (v := nI 32) K dX6_leaves_12 (by decide) ?_
      refine v_iload_n K 1 dX6_leaves_14 rfl rfl ?_
      refine v_imulN K dX6_leaves_15 ?_
      refine v_iload_n K 2 dX6_leaves_16 rfl rfl ?_
      refine v_iaddN K dX6_leaves_17 ?_
      refine v_istore_n K 3 dX6_leaves_18 rfl (by decide) ?_
      refine v_aload_n K 0 dX6_leaves_19 rfl rfl ?_
      refine gf_X6_60 K dX6_leaves_20 fM rfl ?_
      refine v_iload_n K 2 dX6_leaves_23 rfl rfl ?_
      refine v_aload_n K 0 dX6_leaves_24 rfl rfl ?_
      refine gf_X6_7 K dX6_leaves_25 fM rfl ?_
      refine v_iload_n K 3 dX6_leaves_28 rfl rfl ?_
      refine v_iald K dX6_leaves_29 mv1 (by omega) (by decide) ?_
      refine v_aload_n K 0 dX6_leaves_30 rfl rfl ?_
      refine gf_X6_13 K dX6_leaves_31 fM rfl ?_
      refine v_iconst (v := nI 3) K dX6_leaves_34 (by decide) ?_
      refine v_iload_n K 3 dX6_leaves_35 rfl rfl ?_
      refine v_imulN K dX6_leaves_36 ?_
      refine v_iald K dX6_leaves_37 mv2 (by omega) (by decide) ?_
      refine v_aload_n K 0 dX6_leaves_38 rfl rfl ?_
      refine gf_X6_13 K dX6_leaves_39 fM rfl ?_
      refine v_iconst (v := nI 3) K dX6_leaves_42 (by decide) ?_
      refine v_iload_n K 3 dX6_leaves_43 rfl rfl ?_
      refine v_imulN K dX6_leaves_44 ?_
      refine v_iconst (v := nI 1) K dX6_leaves_45 (by decide) ?_
      refine v_iaddN K dX6_leaves_46 ?_
      refine v_iald K dX6_leaves_47 mv2 (by omega) (by decide) ?_
      refine v_aload_n K 0 dX6_leaves_48 rfl rfl ?_
      refine gf_X6_13 K dX6_leaves_49 fM rfl ?_
      refine v_iconst (v := nI 3) K dX6_leaves_52 (by decide) ?_
      refine v_iload_n K 3 dX6_leaves_53 rfl rfl ?_
      refine v_imulN K dX6_leaves_54 ?_
      refine v_iconst (v := nI 2) K dX6_leaves_55 (by decide) ?_
      refine v_iaddN K dX6_leaves_56 ?_
      refine v_iald K dX6_leaves_57 mv2 (by omega) (by decide) ?_
      refine v_aload_n K 0 dX6_leaves_58 rfl rfl ?_
      refine gf_X6_16 K dX6_leaves_59 fM rfl ?_
      refine v_iload_n K 3 dX6_leaves_62 rfl rfl ?_
      refine v_lald K dX6_leaves_63 mv3 (by omega) (by decide) ?_
      refine v_iload_n K 2 dX6_leaves_64 rfl rfl ?_
      refine cl_X6_118 K dX6_leaves_65 (c_X6_leaf l D cA base pic _ _ _ _ _ _ (ht i (by omega)).1 (ht i (by omega)).2) rfl rfl ⟨by decide, by decide⟩ (Nat.le_of_ble_eq_true rfl) ⟨by decide, by decide⟩ (fun x65 pic1 hx2 => ?_)
      obtain ⟨rfl, rfl⟩ := hx2
      refine v_last K dX6_leaves_68 my1 (by omega) (by decide) (fun pic5 zg3 zf4 => ?_)
      replace fM := (zf4 _ (by omega)).trans fM
      replace mv1 := (zf4 _ (by omega)).trans mv1
      replace mv2 := (zf4 _ (by omega)).trans mv2
      replace mv3 := (zf4 _ (by omega)).trans mv3
      replace mv4 := (zf4 _ (by omega)).trans mv4
      replace mb1 := (zf4 _ (by omega)).trans mb1
      replace mb2 := (zf4 _ (by omega)).trans mb2
      replace mb3 := (zf4 _ (by omega)).trans mb3
      replace mb4 := (zf4 _ (by omega)).trans mb4
      replace my1 := zg3
      have FR : ∀ q, ¬ (q = 1023) → pic5 q = pic0 q := fun q hq => (zf4 q (by omega)).trans (FR q hq)
      refine v_iincN K 1 dX6_leaves_69 rfl (by decide) (by decide) ?_
      refine v_goto K 2 dX6_leaves_72 (by decide) ?_
      refine v_at [(0, .ref (ad 1000)), (1, .int (nI j)), (2, .int (nI (i + 1)))] (lcons rfl (lcons rfl (lcons rfl (lnil)))) ?_
      exact ih (i + 1) pic5 _ (by omega) (by omega) fM ⟨mv1, mv2, mv3, mv4⟩ ⟨mb1, mb2, mb3, mb4⟩ my1 (fun i2 h2 => by
        by_cases h : i2 = i
        · subst h; rw [pk_uLs]
        · rw [pk_uLn h]; exact hrow i2 (by omega)) FR

set_option maxHeartbeats 4000000 in
set_option maxRecDepth 100000 in
theorem c_X6_leaves (l : Launch) (D : va_G) (cA : Nat → ClassId) (base : Nat) (pic : PIC) (ad : Nat → Nat) (th cl cnt : Int32) (nb d no ns : Nat) (mac mtp : Nat → Int32) (mvl : Nat → Int64) (mse : Nat → Int32) (msz mpr : Nat → Int32) (mro mfi : Nat → Int64) (mlv : Nat → Int64) (j n : Nat) (fM : pic 1000 = some (ad 1000, moE ad th nb cl cnt d no ns)) (hV : MEv pic cA ad mac mtp mvl mse) (hBl : MBl pic cA ad msz mpr mro mfi) (my1 : MLev pic cA ad mlv) (hj : j < 41) (hs : msz j = nI n) (hn : n ≤ 32) (ht : ∀ i, i < n → -1 ≤ (mtp (3 * (32 * j + i) + 1)).toInt ∧ -1 ≤ (mtp (3 * (32 * j + i) + 2)).toInt)  : CV l yX6_leaves cX6_leaves 4 none { frames := 2, cells := 0, slots := 0, locals := 53 } 0 0 D cA base pic [.ref (ad 1000), .int (nI j)] (fun pic1 => (∃ g, MLev pic1 cA ad g ∧ ∀ i, i < n → g i = (leafF (mac (32 * j + i)) (mtp (3 * (32 * j + i))) (mtp (3 * (32 * j + i) + 1)) (mtp (3 * (32 * j + i) + 2)) (mvl (32 * j + i)) (nI i))) ∧ ∀ q, ¬ (q = 1023) → pic1 q = pic q) := by
  refine ofV (by decide) (Nat.le_of_ble_eq_true rfl) ?_
  intro p e s m below meth c K hr hlk hnm
  have FR : ∀ q, ¬ (q = 1023) → pic q = pic q := fun _ _ => rfl
  unfold MLev at my1
  have ⟨mv1, mv2, mv3, mv4⟩ := hV
  have ⟨mb1, mb2, mb3, mb4⟩ := hBl
  refine v_iconst (v := nI 0) K dX6_leaves_0 (by decide) ?_
  refine v_istore_n K 2 dX6_leaves_1 rfl (by decide) ?_
  refine v_at [(0, .ref (ad 1000)), (1, .int (nI j)), (2, .int (nI (0)))] (lcons rfl (lcons rfl (lcons rfl (lnil)))) ?_
  refine l_X6_leaves K ad th cl cnt nb d no ns mac mtp mvl mse msz mpr mro mfi j n hj hs hn ht pic (fun pic1 g h1 h2 h3 => ?_) (n - 0 + 1) 0 pic _ (by omega) (by omega) fM ⟨mv1, mv2, mv3, mv4⟩ ⟨mb1, mb2, mb3, mb4⟩ my1 (fun j hj => absurd hj (by omega)) FR
  exact v_vret K dX6_leaves_75 hr hlk (by decide) (by decide) (⟨⟨g, h1, h2⟩, h3⟩)

set_option maxHeartbeats 4000000 in
set_option maxRecDepth 100000 in
theorem l_X6_rises {p : Program} {l : Launch} {e : Env} {s : State} {m : MethodId} {args : Array Value} {below : List Frame} {meth : Method} {c : Code} {Q : State → Prop} {D : va_G} {cA : Nat → ClassId} {base : Nat} {cw : Cond} (K : KX p m c cX6_rises 3 s args cw RX6 D cA) (ad : Nat → Nat) (th cl cnt : Int32) (nb d no ns : Nat) (w : Nat) (g0 : Nat → Int64) (hw : w ≤ 32) (pic0 : PIC) (kx : ∀ (pic1 : PIC) (g : Nat → Int64), MLev pic1 cA ad g → (∀ i, i < (w + 1) / 2 → g i = riseF g0 w i) → (∀ q, ¬ (q = 1023) → pic1 q = pic0 q) → V p l e { frames := 1, cells := 0, slots := 0, locals := 25 } s m args below meth c Q D base 3 pic1 (lvOf [(1, .int (nI w))]) 62 [] 0 0) : ∀ (g i : Nat) (pic : PIC) (row : Nat → Int64), (w + 1) / 2 - i < g → i ≤ (w + 1) / 2 → pic 1000 = some (ad 1000, moE ad th nb cl cnt d no ns) → MLev pic cA ad row → (∀ i2, i2 < i → row i2 = riseF g0 w i2) → (∀ i2, i ≤ i2 → row i2 = g0 i2) → (∀ q, ¬ (q = 1023) → pic q = pic0 q) → V p l e { frames := 1, cells := 0, slots := 0, locals := 25 } s m args below meth c Q D base 3 pic (lvOf [(0, .ref (ad 1000)), (1, .int (nI w)), (2, .int (nI (i)))]) 2 [] 0 0 := by
  intro g
  induction g with
  | zero => intro i pic row h; omega
  | succ g ih =>
    intro i pic row hg hi fM my1 hlo hhi FR
    unfold MLev at my1
    refine v_iconst (v := nI 2) K dX6_rises_2 (by decide) ?_
    refine v_iload_n K 2 dX6_rises_3 rfl rfl ?_
    refine v_imulN K dX6_rises_4 ?_
    refine v_iload_n K 1 dX6_rises_5 rfl rfl ?_
    refine v_icmp_ge K 62 dX6_rises_6 (by decide) (nI_toInt (by omega)) (nI_toInt (by omega)) (fun c6 => ?_) (fun c6 => ?_)
    · obtain rfl : i = (w + 1) / 2 := by omega
      refine v_at [(1, .int (nI w))] (lcons rfl (lnil)) ?_
      exact kx pic row my1 hlo FR
    · refine v_aload_n K 0 dX6_rises_9 rfl rfl ?_
      refine gf_X6_60 K dX6_rises_10 fM rfl ?_
      refine v_iload_n K 2 dX6_rises_13 rfl rfl ?_
      refine v_iconst (v := nI 2) K dX6_rises_14 (by decide) ?_
      refine v_iload_n K 2 dX6_rises_15 rfl rfl ?_
      refine v_imulN K dX6_rises_16 ?_
      refine v_iconst (v := nI 1) K dX6_rises_17 (by decide) ?_
      refine v_iaddN K dX6_rises_18 ?_
      refine v_iload_n K 1 dX6_rises_19 rfl rfl ?_
      refine v_icmp_ge K 47 dX6_rises_20 (by decide) (nI_toInt (by omega)) (nI_toInt (by omega)) (fun c20 => ?_) (fun c20 => ?_)
      · refine v_aload_n K 0 dX6_rises_47 rfl rfl ?_
        refine gf_X6_60 K dX6_rises_48 fM rfl ?_
        refine v_iconst (v := nI 2) K dX6_rises_51 (by decide) ?_
        refine v_iload_n K 2 dX6_rises_52 rfl rfl ?_
        refine v_imulN K dX6_rises_53 ?_
        refine v_lald K dX6_rises_54 my1 (by omega) (by decide) ?_
        refine v_last K dX6_rises_55 my1 (by omega) (by decide) (fun pic3 zg1 zf2 => ?_)
        replace fM := (zf2 _ (by omega)).trans fM
        replace my1 := zg1
        have FR : ∀ q, ¬ (q = 1023) → pic3 q = pic0 q := fun q hq => (zf2 q (by omega)).trans (FR q hq)
        refine v_iincN K 1 dX6_rises_56 rfl (by decide) (by decide) ?_
        refine v_goto K 2 dX6_rises_59 (by decide) ?_
        refine v_at [(0, .ref (ad 1000)), (1, .int (nI w)), (2, .int (nI (i + 1)))] (lcons rfl (lcons rfl (lcons rfl (lnil)))) ?_
        exact ih (i + 1) pic3 _ (by omega) (by omega) fM my1 (fun i2 h2 => by
          by_cases h : i2 = i
          · rw [h]; rw [pk_uLs, riseF, if_neg (by omega), hhi (2 * i) (by omega)]
          · rw [pk_uLn h]; exact hlo i2 (by omega)) (fun i2 h2 => by rw [pk_uLn (by omega)]; exact hhi i2 (by omega)) FR
      · refine v_aload_n K 0 dX6_rises_23 rfl rfl ?_
        refine gf_X6_60 K dX6_rises_24 fM rfl ?_
        refine v_iconst (v := nI 2) K dX6_rises_27 (by decide) ?_
        refine v_iload_n K 2 dX6_rises_28 rfl rfl ?_
        refine v_imulN K dX6_rises_29 ?_
        refine v_lald K dX6_rises_30 my1 (by omega) (by decide) ?_
        refine v_aload_n K 0 dX6_rises_31 rfl rfl ?_
        refine gf_X6_60 K dX6_rises_32 fM rfl ?_
        refine v_iconst (v := nI 2) K dX6_rises_35 (by decide) ?_
        refine v_iload_n K 2 dX6_rises_36 rfl rfl ?_
        refine v_imulN K dX6_rises_37 ?_
        refine v_iconst (v := nI 1) K dX6_rises_38 (by decide) ?_
        refine v_iaddN K dX6_rises_39 ?_
        refine v_lald K dX6_rises_40 my1 (by omega) (by decide) ?_
        refine cl_X6_114 K dX6_rises_41 (c_X6_mix l D cA base pic _ _) rfl rfl ⟨by decide, by decide⟩ (Nat.le_of_ble_eq_true rfl) ⟨by decide, by decide⟩ (fun x41 pic4 hx5 => ?_)
        obtain ⟨rfl, rfl⟩ := hx5
        refine v_goto K 55 dX6_rises_44 (by decide) ?_
        refine v_last K dX6_rises_55 my1 (by omega) (by decide) (fun pic8 zg6 zf7 => ?_)
        replace fM := (zf7 _ (by omega)).trans fM
        replace my1 := zg6
        have FR : ∀ q, ¬ (q = 1023) → pic8 q = pic0 q := fun q hq => (zf7 q (by omega)).trans (FR q hq)
        refine v_iincN K 1 dX6_rises_56 rfl (by decide) (by decide) ?_
        refine v_goto K 2 dX6_rises_59 (by decide) ?_
        refine v_at [(0, .ref (ad 1000)), (1, .int (nI w)), (2, .int (nI (i + 1)))] (lcons rfl (lcons rfl (lcons rfl (lnil)))) ?_
        exact ih (i + 1) pic8 _ (by omega) (by omega) fM my1 (fun i2 h2 => by
          by_cases h : i2 = i
          · rw [h]; rw [pk_uLs, riseF, if_pos (by omega), hhi (2 * i) (by omega), hhi (2 * i + 1) (by omega)]
          · rw [pk_uLn h]; exact hlo i2 (by omega)) (fun i2 h2 => by rw [pk_uLn (by omega)]; exact hhi i2 (by omega)) FR

set_option maxHeartbeats 4000000 in
set_option maxRecDepth 100000 in
theorem c_X6_rises (l : Launch) (D : va_G) (cA : Nat → ClassId) (base : Nat) (pic : PIC) (ad : Nat → Nat) (th cl cnt : Int32) (nb d no ns : Nat) (w : Nat) (g0 : Nat → Int64) (fM : pic 1000 = some (ad 1000, moE ad th nb cl cnt d no ns)) (my1 : MLev pic cA ad g0) (hw : w ≤ 32)  : CI l yX6_rises cX6_rises 3 (some .int) { frames := 1, cells := 0, slots := 0, locals := 25 } 0 0 D cA base pic [.ref (ad 1000), .int (nI w)] (fun x pic1 => x = nI ((w + 1) / 2) ∧ (∃ g, MLev pic1 cA ad g ∧ ∀ i, i < (w + 1) / 2 → g i = riseF g0 w i) ∧ ∀ q, ¬ (q = 1023) → pic1 q = pic q) := by
  refine ofI (by decide) (Nat.le_of_ble_eq_true rfl) ?_
  intro p e s m below meth c K hr hlk hnm
  have FR : ∀ q, ¬ (q = 1023) → pic q = pic q := fun _ _ => rfl
  unfold MLev at my1
  refine v_iconst (v := nI 0) K dX6_rises_0 (by decide) ?_
  refine v_istore_n K 2 dX6_rises_1 rfl (by decide) ?_
  refine v_at [(0, .ref (ad 1000)), (1, .int (nI w)), (2, .int (nI (0)))] (lcons rfl (lcons rfl (lcons rfl (lnil)))) ?_
  refine l_X6_rises K ad th cl cnt nb d no ns w g0 hw pic (fun pic1 g h1 h2 h3 => ?_) ((w + 1) / 2 - 0 + 1) 0 pic _ (by omega) (by omega) fM my1 (fun j hj => absurd hj (by omega)) (fun j hj => rfl) FR
  refine v_iload_n K 1 dX6_rises_62 rfl rfl ?_
  refine v_iconst (v := nI 1) K dX6_rises_63 (by decide) ?_
  refine v_iaddN K dX6_rises_64 ?_
  refine v_iconst (v := nI 2) K dX6_rises_65 (by decide) ?_
  refine v_idivN K dX6_rises_66 (by omega) (by omega) (by omega) ?_
  exact v_iret K dX6_rises_67 hr hlk (by decide) (by decide) (⟨rfl, ⟨g, h1, h2⟩, h3⟩)

set_option maxHeartbeats 4000000 in
set_option maxRecDepth 100000 in
theorem c_X6_size (l : Launch) (D : va_G) (cA : Nat → ClassId) (base : Nat) (pic : PIC) (ad : Nat → Nat) (th cl cnt : Int32) (nb d no ns : Nat) (mac mtp : Nat → Int32) (mvl : Nat → Int64) (mse : Nat → Int32) (msz mpr : Nat → Int32) (mro mfi : Nat → Int64) (B : Nat → Bk) (b w : Int32) (fM : pic 1000 = some (ad 1000, moE ad th nb cl cnt d no ns)) (hV : MEv pic cA ad mac mtp mvl mse) (hBl : MBl pic cA ad msz mpr mro mfi) (hB : RelB nb B msz mpr mro mfi mac mtp mvl mse) (hnb : nb ≤ 40)  : CI l yX6_size cX6_size 3 (some .int) { frames := 2, cells := 0, slots := 0, locals := 46 } 0 0 D cA base pic [.ref (ad 1000), .int b, .int w] (fun x9 pic1 => pic = pic1 ∧ x9 = sizeF nb B b w) := by
  refine ofI (by decide) (Nat.le_of_ble_eq_true rfl) ?_
  intro p e s m below meth c K hr hlk hnm
  have ⟨mv1, mv2, mv3, mv4⟩ := hV
  have ⟨mb1, mb2, mb3, mb4⟩ := hBl
  refine v_aload_n K 0 dX6_size_0 rfl rfl ?_
  refine v_iload_n K 1 dX6_size_1 rfl rfl ?_
  refine cl_X6_134 K dX6_size_2 fM (c_X6_isBlock l D cA base pic ad th cl cnt nb d no ns b fM hnb) rfl rfl ⟨by decide, by decide⟩ (Nat.le_of_ble_eq_true rfl) ⟨by decide, by decide⟩ (fun x2 pic1 hx2 => ?_)
  rcases hx2 with ⟨rfl, rfl, hpb⟩ | ⟨rfl, rfl, hqb⟩
  · obtain ⟨j, hj, rfl⟩ := ixN b nb (by omega) (by omega) (by omega)
    obtain ⟨hs, hn, ⟨hp1, hp2⟩, hro, hfi, hEv⟩ := hB j hj
    have hbI := nI_toInt (n := j) (by omega)
    have hbx := bx_nI (j := j) (by omega)
    refine v_if_eq K 18 dX6_size_5 (by decide) rfl (fun c => absurd c (by decide)) (fun _ => ?_)
    refine v_iload_n K 2 dX6_size_8 rfl rfl ?_
    refine v_i2l K dX6_size_9 ?_
    refine v_lconst (v := 0) K dX6_size_10 (by decide) ?_
    refine v_lconst (v := 1) K dX6_size_11 (by decide) ?_
    refine cl_X6_70 K dX6_size_12 (c_X6_in l D cA base pic _ _ _) rfl rfl ⟨by decide, by decide⟩ (Nat.le_of_ble_eq_true rfl) ⟨by decide, by decide⟩ (fun x12 pic3 hx4 => ?_)
    rcases hx4 with ⟨rfl, rfl, hpw⟩ | ⟨rfl, rfl, hqw⟩
    · simp only [i2lT, show (0 : Int64).toInt = 0 from by decide, show (1 : Int64).toInt = 1 from by decide] at hpw
      refine v_if_ne K 22 dX6_size_15 (by decide) rfl (fun _ => ?_) (fun c => absurd c (by decide))
      refine v_iload_n K 2 dX6_size_22 rfl rfl ?_
      refine v_if_ne K 35 dX6_size_23 (by decide) rfl (fun c23 => ?_) (fun c23 => ?_)
      · refine v_aload_n K 0 dX6_size_35 rfl rfl ?_
        refine gf_X6_26 K dX6_size_36 fM rfl ?_
        refine v_iload_n K 1 dX6_size_39 rfl rfl ?_
        refine v_zald K dX6_size_40 mb2 (by omega) (by decide) ?_
        refine v_if_eq K 48 dX6_size_41 (by decide) rfl (fun c41 => ?_) (fun c41 => ?_)
        · refine v_iconst (v := nI 1) K dX6_size_48 (by decide) ?_
          exact v_iret K dX6_size_49 hr hlk (by decide) (by decide) (by first | exact (⟨rfl, by rw [sizeF_0 (by omega)]⟩) | exact (⟨rfl, by rw [sizeF_1 (by omega) (by omega), hbx]⟩) | exact (⟨rfl, by rw [sizeF_2 (by omega) (by omega) (by rw [hbx]; omega)]; rfl⟩) | exact (⟨rfl, by rw [sizeF_3 (by omega) (by omega) (by rw [hbx]; omega)]; rfl⟩))
        · refine v_iconst (v := nI 0) K dX6_size_44 (by decide) ?_
          refine v_goto K 49 dX6_size_45 (by decide) ?_
          exact v_iret K dX6_size_49 hr hlk (by decide) (by decide) (by first | exact (⟨rfl, by rw [sizeF_0 (by omega)]⟩) | exact (⟨rfl, by rw [sizeF_1 (by omega) (by omega), hbx]⟩) | exact (⟨rfl, by rw [sizeF_2 (by omega) (by omega) (by rw [hbx]; omega)]; rfl⟩) | exact (⟨rfl, by rw [sizeF_3 (by omega) (by omega) (by rw [hbx]; omega)]; rfl⟩))
      · refine v_aload_n K 0 dX6_size_26 rfl rfl ?_
        refine gf_X6_23 K dX6_size_27 fM rfl ?_
        refine v_iload_n K 1 dX6_size_30 rfl rfl ?_
        refine v_iald K dX6_size_31 mb1 (by omega) (by decide) ?_
        refine v_top (v := .int (nI (bN (B j)))) (by rw [hs]) ?_
        refine v_goto K 49 dX6_size_32 (by decide) ?_
        exact v_iret K dX6_size_49 hr hlk (by decide) (by decide) (by first | exact (⟨rfl, by rw [sizeF_0 (by omega)]⟩) | exact (⟨rfl, by rw [sizeF_1 (by omega) (by omega), hbx]⟩) | exact (⟨rfl, by rw [sizeF_2 (by omega) (by omega) (by rw [hbx]; omega)]; rfl⟩) | exact (⟨rfl, by rw [sizeF_3 (by omega) (by omega) (by rw [hbx]; omega)]; rfl⟩))
    · simp only [i2lT, show (0 : Int64).toInt = 0 from by decide, show (1 : Int64).toInt = 1 from by decide] at hqw
      refine v_if_ne K 22 dX6_size_15 (by decide) rfl (fun c => absurd c (by decide)) (fun _ => ?_)
      refine v_iconst (v := -1) K dX6_size_18 (by decide) ?_
      refine v_goto K 49 dX6_size_19 (by decide) ?_
      exact v_iret K dX6_size_49 hr hlk (by decide) (by decide) (by first | exact (⟨rfl, by rw [sizeF_0 (by omega)]⟩) | exact (⟨rfl, by rw [sizeF_1 (by omega) (by omega), hbx]⟩) | exact (⟨rfl, by rw [sizeF_2 (by omega) (by omega) (by rw [hbx]; omega)]; rfl⟩) | exact (⟨rfl, by rw [sizeF_3 (by omega) (by omega) (by rw [hbx]; omega)]; rfl⟩))
  · refine v_if_eq K 18 dX6_size_5 (by decide) rfl (fun _ => ?_) (fun c => absurd c (by decide))
    refine v_iconst (v := -1) K dX6_size_18 (by decide) ?_
    refine v_goto K 49 dX6_size_19 (by decide) ?_
    exact v_iret K dX6_size_49 hr hlk (by decide) (by decide) (by first | exact (⟨rfl, by rw [sizeF_0 (by omega)]⟩) | exact (⟨rfl, by rw [sizeF_1 (by omega) (by omega), hbx]⟩) | exact (⟨rfl, by rw [sizeF_2 (by omega) (by omega) (by rw [hbx]; omega)]; rfl⟩) | exact (⟨rfl, by rw [sizeF_3 (by omega) (by omega) (by rw [hbx]; omega)]; rfl⟩))

set_option maxHeartbeats 4000000 in
set_option maxRecDepth 100000 in
theorem c_X6_prune (l : Launch) (D : va_G) (cA : Nat → ClassId) (base : Nat) (pic : PIC) (ad : Nat → Nat) (th cl cnt : Int32) (nb d no ns : Nat) (mac mtp : Nat → Int32) (mvl : Nat → Int64) (mse : Nat → Int32) (msz mpr : Nat → Int32) (mro mfi : Nat → Int64) (B : Nat → Bk) (b : Int32) (fM : pic 1000 = some (ad 1000, moE ad th nb cl cnt d no ns)) (hV : MEv pic cA ad mac mtp mvl mse) (hBl : MBl pic cA ad msz mpr mro mfi) (hB : RelB nb B msz mpr mro mfi mac mtp mvl mse) (hnb : nb ≤ 40)  : CI l yX6_prune cX6_prune 3 (some .int) { frames := 2, cells := 0, slots := 0, locals := 46 } 0 0 D cA base pic [.ref (ad 1000), .int b] (fun x9 pic1 => x9 = (pruneF nb B b).1 ∧ (∃ mpr1, MBl pic1 cA ad msz mpr1 mro mfi ∧ RelB nb (pruneF nb B b).2 msz mpr1 mro mfi mac mtp mvl mse) ∧ ∀ q, ¬ (q = 1006) → pic1 q = pic q) := by
  refine ofI (by decide) (Nat.le_of_ble_eq_true rfl) ?_
  intro p e s m below meth c K hr hlk hnm
  have FR : ∀ q, ¬ (q = 1006) → pic q = pic q := fun _ _ => rfl
  have ⟨mv1, mv2, mv3, mv4⟩ := hV
  have ⟨mb1, mb2, mb3, mb4⟩ := hBl
  refine v_aload_n K 0 dX6_prune_0 rfl rfl ?_
  refine v_iload_n K 1 dX6_prune_1 rfl rfl ?_
  refine cl_X6_134 K dX6_prune_2 fM (c_X6_isBlock l D cA base pic ad th cl cnt nb d no ns b fM hnb) rfl rfl ⟨by decide, by decide⟩ (Nat.le_of_ble_eq_true rfl) ⟨by decide, by decide⟩ (fun x2 pic1 hx2 => ?_)
  rcases hx2 with ⟨rfl, rfl, hpb⟩ | ⟨rfl, rfl, hqb⟩
  · obtain ⟨j, hj, rfl⟩ := ixN b nb (by omega) (by omega) (by omega)
    obtain ⟨hs, hn, ⟨hp1, hp2⟩, hro, hfi, hEv⟩ := hB j hj
    have hbI := nI_toInt (n := j) (by omega)
    have hbx := bx_nI (j := j) (by omega)
    refine v_if_ne K 10 dX6_prune_5 (by decide) rfl (fun _ => ?_) (fun c => absurd c (by decide))
    refine v_aload_n K 0 dX6_prune_10 rfl rfl ?_
    refine gf_X6_26 K dX6_prune_11 fM rfl ?_
    refine v_iload_n K 1 dX6_prune_14 rfl rfl ?_
    refine v_zald K dX6_prune_15 mb2 (by omega) (by decide) ?_
    refine v_if_eq K 23 dX6_prune_16 (by decide) rfl (fun c16 => ?_) (fun c16 => ?_)
    · refine v_iconst (v := nI 1) K dX6_prune_23 (by decide) ?_
      refine v_istore_n K 2 dX6_prune_24 rfl (by decide) ?_
      refine v_aload_n K 0 dX6_prune_25 rfl rfl ?_
      refine gf_X6_26 K dX6_prune_26 fM rfl ?_
      refine v_iload_n K 1 dX6_prune_29 rfl rfl ?_
      refine v_iconst (v := nI 1) K dX6_prune_30 (by decide) ?_
      refine v_zast K dX6_prune_31 mb2 (by omega) (by decide) (narB (by first | exact isB0 | exact isB1 | assumption)) (fun pic5 zg3 zf4 => ?_)
      replace fM := (zf4 _ (by omega)).trans fM
      replace mv1 := (zf4 _ (by omega)).trans mv1
      replace mv2 := (zf4 _ (by omega)).trans mv2
      replace mv3 := (zf4 _ (by omega)).trans mv3
      replace mv4 := (zf4 _ (by omega)).trans mv4
      replace mb1 := (zf4 _ (by omega)).trans mb1
      replace mb2 := zg3
      replace mb3 := (zf4 _ (by omega)).trans mb3
      replace mb4 := (zf4 _ (by omega)).trans mb4
      have FR : ∀ q, ¬ (q = 1006) → pic5 q = pic q := fun q hq => (zf4 q (by omega)).trans (FR q hq)
      refine v_iload_n K 2 dX6_prune_32 rfl rfl ?_
      exact v_iret K dX6_prune_33 hr hlk (by decide) (by decide) (by first | exact (by rw [pruneF_0 (by omega)]; exact ⟨rfl, ⟨mpr, ⟨mb1, mb2, mb3, mb4⟩, hB⟩, FR⟩) | exact (by rw [pruneF_1 (by omega) (by rw [hbx]; omega), hbx]; exact ⟨rfl, ⟨_, ⟨mb1, mb2, mb3, mb4⟩, hB.prune⟩, FR⟩) | exact (by rw [pruneF_2 (by omega) (by rw [hbx]; omega), hbx]; exact ⟨rfl, ⟨_, ⟨mb1, mb2, mb3, mb4⟩, hB.prune⟩, FR⟩))
    · refine v_iconst (v := nI 0) K dX6_prune_19 (by decide) ?_
      refine v_goto K 24 dX6_prune_20 (by decide) ?_
      refine v_istore_n K 2 dX6_prune_24 rfl (by decide) ?_
      refine v_aload_n K 0 dX6_prune_25 rfl rfl ?_
      refine gf_X6_26 K dX6_prune_26 fM rfl ?_
      refine v_iload_n K 1 dX6_prune_29 rfl rfl ?_
      refine v_iconst (v := nI 1) K dX6_prune_30 (by decide) ?_
      refine v_zast K dX6_prune_31 mb2 (by omega) (by decide) (narB (by first | exact isB0 | exact isB1 | assumption)) (fun pic8 zg6 zf7 => ?_)
      replace fM := (zf7 _ (by omega)).trans fM
      replace mv1 := (zf7 _ (by omega)).trans mv1
      replace mv2 := (zf7 _ (by omega)).trans mv2
      replace mv3 := (zf7 _ (by omega)).trans mv3
      replace mv4 := (zf7 _ (by omega)).trans mv4
      replace mb1 := (zf7 _ (by omega)).trans mb1
      replace mb2 := zg6
      replace mb3 := (zf7 _ (by omega)).trans mb3
      replace mb4 := (zf7 _ (by omega)).trans mb4
      have FR : ∀ q, ¬ (q = 1006) → pic8 q = pic q := fun q hq => (zf7 q (by omega)).trans (FR q hq)
      refine v_iload_n K 2 dX6_prune_32 rfl rfl ?_
      exact v_iret K dX6_prune_33 hr hlk (by decide) (by decide) (by first | exact (by rw [pruneF_0 (by omega)]; exact ⟨rfl, ⟨mpr, ⟨mb1, mb2, mb3, mb4⟩, hB⟩, FR⟩) | exact (by rw [pruneF_1 (by omega) (by rw [hbx]; omega), hbx]; exact ⟨rfl, ⟨_, ⟨mb1, mb2, mb3, mb4⟩, hB.prune⟩, FR⟩) | exact (by rw [pruneF_2 (by omega) (by rw [hbx]; omega), hbx]; exact ⟨rfl, ⟨_, ⟨mb1, mb2, mb3, mb4⟩, hB.prune⟩, FR⟩))
  · refine v_if_ne K 10 dX6_prune_5 (by decide) rfl (fun c => absurd c (by decide)) (fun _ => ?_)
    refine v_iconst (v := -1) K dX6_prune_8 (by decide) ?_
    exact v_iret K dX6_prune_9 hr hlk (by decide) (by decide) (by first | exact (by rw [pruneF_0 (by omega)]; exact ⟨rfl, ⟨mpr, ⟨mb1, mb2, mb3, mb4⟩, hB⟩, FR⟩) | exact (by rw [pruneF_1 (by omega) (by rw [hbx]; omega), hbx]; exact ⟨rfl, ⟨_, ⟨mb1, mb2, mb3, mb4⟩, hB.prune⟩, FR⟩) | exact (by rw [pruneF_2 (by omega) (by rw [hbx]; omega), hbx]; exact ⟨rfl, ⟨_, ⟨mb1, mb2, mb3, mb4⟩, hB.prune⟩, FR⟩))

set_option maxHeartbeats 4000000 in
set_option maxRecDepth 100000 in
theorem c_X6_event (l : Launch) (D : va_G) (cA : Nat → ClassId) (base : Nat) (pic : PIC) (ad : Nat → Nat) (th cl cnt : Int32) (nb d no ns : Nat) (mac mtp : Nat → Int32) (mvl : Nat → Int64) (mse : Nat → Int32) (msz mpr : Nat → Int32) (mro mfi : Nat → Int64) (B : Nat → Bk) (b i w : Int32) (fM : pic 1000 = some (ad 1000, moE ad th nb cl cnt d no ns)) (hV : MEv pic cA ad mac mtp mvl mse) (hBl : MBl pic cA ad msz mpr mro mfi) (hB : RelB nb B msz mpr mro mfi mac mtp mvl mse) (hnb : nb ≤ 40)  : CI l yX6_event cX6_event 5 (some .int) { frames := 2, cells := 0, slots := 0, locals := 46 } 0 0 D cA base pic [.ref (ad 1000), .int b, .int i, .int w] (fun x9 pic1 => pic = pic1 ∧ x9 = eventF nb B b i w) := by
  refine ofI (by decide) (Nat.le_of_ble_eq_true rfl) ?_
  intro p e s m below meth c K hr hlk hnm
  have ⟨mv1, mv2, mv3, mv4⟩ := hV
  have ⟨mb1, mb2, mb3, mb4⟩ := hBl
  refine v_aload_n K 0 dX6_event_0 rfl rfl ?_
  refine v_iload_n K 1 dX6_event_1 rfl rfl ?_
  refine cl_X6_134 K dX6_event_2 fM (c_X6_isBlock l D cA base pic ad th cl cnt nb d no ns b fM hnb) rfl rfl ⟨by decide, by decide⟩ (Nat.le_of_ble_eq_true rfl) ⟨by decide, by decide⟩ (fun x2 pic1 hx2 => ?_)
  rcases hx2 with ⟨rfl, rfl, hpb⟩ | ⟨rfl, rfl, hqb⟩
  · obtain ⟨j, hj, rfl⟩ := ixN b nb (by omega) (by omega) (by omega)
    obtain ⟨hs, hn, ⟨hp1, hp2⟩, hro, hfi, hEv⟩ := hB j hj
    have hbI := nI_toInt (n := j) (by omega)
    have hbx := bx_nI (j := j) (by omega)
    refine v_if_eq K 38 dX6_event_5 (by decide) rfl (fun c => absurd c (by decide)) (fun _ => ?_)
    refine v_iload_n K 2 dX6_event_8 rfl rfl ?_
    refine v_i2l K dX6_event_9 ?_
    refine v_lconst (v := 0) K dX6_event_10 (by decide) ?_
    refine v_aload_n K 0 dX6_event_11 rfl rfl ?_
    refine gf_X6_23 K dX6_event_12 fM rfl ?_
    refine v_iload_n K 1 dX6_event_15 rfl rfl ?_
    refine v_iald K dX6_event_16 mb1 (by omega) (by decide) ?_
    refine v_top (v := .int (nI (bN (B j)))) (by rw [hs]) ?_
    refine v_iconst (v := nI 1) K dX6_event_17 (by decide) ?_
    refine v_isub K dX6_event_18 ?_
    refine v_i2l K dX6_event_19 ?_
    refine cl_X6_70 K dX6_event_20 (c_X6_in l D cA base pic _ _ _) rfl rfl ⟨by decide, by decide⟩ (Nat.le_of_ble_eq_true rfl) ⟨by decide, by decide⟩ (fun x20 pic3 hx4 => ?_)
    rcases hx4 with ⟨rfl, rfl, hpi⟩ | ⟨rfl, rfl, hqi⟩
    · simp only [i2lT, show (0 : Int64).toInt = 0 from by decide, show (nI (bN (B j)) - nI 1).toInt = (((bN (B j)) : Nat) : Int) - 1 from pk_sub_toInt (by omega) (by omega)] at hpi
      refine v_if_eq K 38 dX6_event_23 (by decide) rfl (fun c => absurd c (by decide)) (fun _ => ?_)
      refine v_iload_n K 3 dX6_event_26 rfl rfl ?_
      refine v_i2l K dX6_event_27 ?_
      refine v_lconst (v := 0) K dX6_event_28 (by decide) ?_
      refine v_ldc2 K gw_340 dX6_event_29 ?_
      refine cl_X6_70 K dX6_event_32 (c_X6_in l D cA base pic _ _ _) rfl rfl ⟨by decide, by decide⟩ (Nat.le_of_ble_eq_true rfl) ⟨by decide, by decide⟩ (fun x32 pic5 hx6 => ?_)
      rcases hx6 with ⟨rfl, rfl, hpw⟩ | ⟨rfl, rfl, hqw⟩
      · simp only [i2lT, show (0 : Int64).toInt = 0 from by decide, show (5 : Int64).toInt = 5 from by decide] at hpw
        refine v_if_ne K 40 dX6_event_35 (by decide) rfl (fun _ => ?_) (fun c => absurd c (by decide))
        refine v_aload_n K 0 dX6_event_40 rfl rfl ?_
        refine gf_X6_26 K dX6_event_41 fM rfl ?_
        refine v_iload_n K 1 dX6_event_44 rfl rfl ?_
        refine v_zald K dX6_event_45 mb2 (by omega) (by decide) ?_
        refine v_if_eq K 52 dX6_event_46 (by decide) rfl (fun c46 => ?_) (fun c46 => ?_)
        · obtain ⟨i1, hi1, rfl⟩ := ixN i (bN (B j)) (by omega) (by omega) (by omega)
          obtain ⟨w1, hw1, rfl⟩ := ixN w 6 (by omega) (by omega) (by omega)
          have hiI := nI_toInt (n := i1) (by omega)
          have hwI := nI_toInt (n := w1) (by omega)
          have hix := bx_nI (j := i1) (by omega)
          have hwx := bx_nI (j := w1) (by omega)
          obtain ⟨⟨q1, q2, q3, q4, q5, q6⟩, q7, q8, q9, q10⟩ := hEv i1 hi1
          rw [← q2] at q7
          rw [← q3] at q8 q10
          rw [← q4] at q9 q10
          unfold isTop at q7
          unfold isTopN at q8 q9
          refine v_bipush (v := nI 32) K dX6_event_52 (by decide) ?_
          refine v_iload_n K 1 dX6_event_54 rfl rfl ?_
          refine v_imulN K dX6_event_55 ?_
          refine v_iload_n K 2 dX6_event_56 rfl rfl ?_
          refine v_iaddN K dX6_event_57 ?_
          refine v_istore K dX6_event_58 (by decide) ?_
          refine v_iload_n K 3 dX6_event_60 rfl rfl ?_
          obtain rfl | rfl | rfl | rfl | rfl | rfl : w1 = 0 ∨ w1 = 1 ∨ w1 = 2 ∨ w1 = 3 ∨ w1 = 4 ∨ w1 = 5 := by omega
          · refine v_lookup K 96 dX6_event_61 (by decide) rfl (by decide) ?_
            refine v_aload_n K 0 dX6_event_96 rfl rfl ?_
            refine gf_X6_7 K dX6_event_97 fM rfl ?_
            refine v_iload K dX6_event_100 rfl ?_
            refine v_iald K dX6_event_102 mv1 (by omega) (by decide) ?_
            exact v_iret K dX6_event_103 hr hlk (by decide) (by decide) (⟨rfl, by rw [eventF_2 (by rw [hbx]; omega) (by rw [hbx]; omega), hbx, hix, hwx]; exact q1⟩)
          · refine v_lookup K 104 dX6_event_61 (by decide) rfl (by decide) ?_
            refine v_aload_n K 0 dX6_event_104 rfl rfl ?_
            refine v_iload K dX6_event_105 rfl ?_
            refine cl_X6_140 K dX6_event_107 fM (c_X6_topicMany l D cA base pic ad th cl cnt nb d no ns mtp (32 * j + i1) fM mv2 (by omega)) rfl rfl ⟨by decide, by decide⟩ (Nat.le_of_ble_eq_true rfl) ⟨by decide, by decide⟩ (fun x107 pic7 hx8 => ?_)
            rcases hx8 with ⟨rfl, rfl, ht1⟩ | ⟨rfl, rfl, ht1, ht2⟩ | ⟨rfl, rfl, ht1, ht2⟩
            · exact v_iret K dX6_event_110 hr hlk (by decide) (by decide) (⟨rfl, by rw [eventF_2 (by rw [hbx]; omega) (by rw [hbx]; omega), hbx, hix, hwx]; show _ = tcF _ _; rw [tcF, ← q3, ← q4]; first | rw [if_pos (by omega)] | rw [if_neg (by omega), if_pos (by omega)] | rw [if_neg (by omega), if_neg (by omega)]⟩)
            · exact v_iret K dX6_event_110 hr hlk (by decide) (by decide) (⟨rfl, by rw [eventF_2 (by rw [hbx]; omega) (by rw [hbx]; omega), hbx, hix, hwx]; show _ = tcF _ _; rw [tcF, ← q3, ← q4]; first | rw [if_pos (by omega)] | rw [if_neg (by omega), if_pos (by omega)] | rw [if_neg (by omega), if_neg (by omega)]⟩)
            · exact v_iret K dX6_event_110 hr hlk (by decide) (by decide) (⟨rfl, by rw [eventF_2 (by rw [hbx]; omega) (by rw [hbx]; omega), hbx, hix, hwx]; show _ = tcF _ _; rw [tcF, ← q3, ← q4]; first | rw [if_pos (by omega)] | rw [if_neg (by omega), if_pos (by omega)] | rw [if_neg (by omega), if_neg (by omega)]⟩)
          · refine v_lookup K 119 dX6_event_61 (by decide) rfl (by decide) ?_
            refine v_iload_n K 3 dX6_event_119 rfl rfl ?_
            refine v_iconst (v := nI 1) K dX6_event_120 (by decide) ?_
            refine v_isubN K dX6_event_121 (by omega) ?_
            refine v_aload_n K 0 dX6_event_122 rfl rfl ?_
            refine v_iload K dX6_event_123 rfl ?_
            refine cl_X6_140 K dX6_event_125 fM (c_X6_topicMany l D cA base pic ad th cl cnt nb d no ns mtp (32 * j + i1) fM mv2 (by omega)) rfl rfl ⟨by decide, by decide⟩ (Nat.le_of_ble_eq_true rfl) ⟨by decide, by decide⟩ (fun x125 pic9 hx10 => ?_)
            rcases hx10 with ⟨rfl, rfl, ht1⟩ | ⟨rfl, rfl, ht1, ht2⟩ | ⟨rfl, rfl, ht1, ht2⟩
            · refine v_icmp_le K 136 dX6_event_128 (by decide) rfl rfl (fun _ => ?_) (fun c => absurd c (by decide))
              refine v_aload_n K 0 dX6_event_136 rfl rfl ?_
              refine gf_X6_13 K dX6_event_137 fM rfl ?_
              refine v_iconst (v := nI 3) K dX6_event_140 (by decide) ?_
              refine v_iload K dX6_event_141 rfl ?_
              refine v_imulN K dX6_event_143 ?_
              refine v_iload_n K 3 dX6_event_144 rfl rfl ?_
              refine v_iaddN K dX6_event_145 ?_
              refine v_iconst (v := nI 2) K dX6_event_146 (by decide) ?_
              refine v_isubN K dX6_event_147 (by omega) ?_
              refine v_iald K dX6_event_148 mv2 (by omega) (by decide) ?_
              exact v_iret K dX6_event_149 hr hlk (by decide) (by decide) (⟨rfl, by rw [eventF_2 (by rw [hbx]; omega) (by rw [hbx]; omega), hbx, hix, hwx]; exact q2⟩)
            · refine v_icmp_le K 136 dX6_event_128 (by decide) rfl rfl (fun _ => ?_) (fun c => absurd c (by decide))
              refine v_aload_n K 0 dX6_event_136 rfl rfl ?_
              refine gf_X6_13 K dX6_event_137 fM rfl ?_
              refine v_iconst (v := nI 3) K dX6_event_140 (by decide) ?_
              refine v_iload K dX6_event_141 rfl ?_
              refine v_imulN K dX6_event_143 ?_
              refine v_iload_n K 3 dX6_event_144 rfl rfl ?_
              refine v_iaddN K dX6_event_145 ?_
              refine v_iconst (v := nI 2) K dX6_event_146 (by decide) ?_
              refine v_isubN K dX6_event_147 (by omega) ?_
              refine v_iald K dX6_event_148 mv2 (by omega) (by decide) ?_
              exact v_iret K dX6_event_149 hr hlk (by decide) (by decide) (⟨rfl, by rw [eventF_2 (by rw [hbx]; omega) (by rw [hbx]; omega), hbx, hix, hwx]; exact q2⟩)
            · refine v_icmp_le K 136 dX6_event_128 (by decide) rfl rfl (fun _ => ?_) (fun c => absurd c (by decide))
              refine v_aload_n K 0 dX6_event_136 rfl rfl ?_
              refine gf_X6_13 K dX6_event_137 fM rfl ?_
              refine v_iconst (v := nI 3) K dX6_event_140 (by decide) ?_
              refine v_iload K dX6_event_141 rfl ?_
              refine v_imulN K dX6_event_143 ?_
              refine v_iload_n K 3 dX6_event_144 rfl rfl ?_
              refine v_iaddN K dX6_event_145 ?_
              refine v_iconst (v := nI 2) K dX6_event_146 (by decide) ?_
              refine v_isubN K dX6_event_147 (by omega) ?_
              refine v_iald K dX6_event_148 mv2 (by omega) (by decide) ?_
              exact v_iret K dX6_event_149 hr hlk (by decide) (by decide) (⟨rfl, by rw [eventF_2 (by rw [hbx]; omega) (by rw [hbx]; omega), hbx, hix, hwx]; exact q2⟩)
          · refine v_lookup K 119 dX6_event_61 (by decide) rfl (by decide) ?_
            refine v_iload_n K 3 dX6_event_119 rfl rfl ?_
            refine v_iconst (v := nI 1) K dX6_event_120 (by decide) ?_
            refine v_isubN K dX6_event_121 (by omega) ?_
            refine v_aload_n K 0 dX6_event_122 rfl rfl ?_
            refine v_iload K dX6_event_123 rfl ?_
            refine cl_X6_140 K dX6_event_125 fM (c_X6_topicMany l D cA base pic ad th cl cnt nb d no ns mtp (32 * j + i1) fM mv2 (by omega)) rfl rfl ⟨by decide, by decide⟩ (Nat.le_of_ble_eq_true rfl) ⟨by decide, by decide⟩ (fun x125 pic11 hx12 => ?_)
            rcases hx12 with ⟨rfl, rfl, ht1⟩ | ⟨rfl, rfl, ht1, ht2⟩ | ⟨rfl, rfl, ht1, ht2⟩
            · refine v_icmp_le K 136 dX6_event_128 (by decide) rfl rfl (fun c => absurd c (by decide)) (fun _ => ?_)
              refine v_bipush (v := -5) K dX6_event_131 (by decide) ?_
              refine v_goto K 149 dX6_event_133 (by decide) ?_
              exact v_iret K dX6_event_149 hr hlk (by decide) (by decide) (⟨rfl, by rw [eventF_2 (by rw [hbx]; omega) (by rw [hbx]; omega), hbx, hix, hwx]; show _ = tonF _; rw [tonF, ← q3]; first | (rw [if_pos (by omega)]; done) | (rw [if_neg (by omega)]; done) | (rw [if_neg (by omega)]; exact congrArg mtp (by omega))⟩)
            · refine v_icmp_le K 136 dX6_event_128 (by decide) rfl rfl (fun _ => ?_) (fun c => absurd c (by decide))
              refine v_aload_n K 0 dX6_event_136 rfl rfl ?_
              refine gf_X6_13 K dX6_event_137 fM rfl ?_
              refine v_iconst (v := nI 3) K dX6_event_140 (by decide) ?_
              refine v_iload K dX6_event_141 rfl ?_
              refine v_imulN K dX6_event_143 ?_
              refine v_iload_n K 3 dX6_event_144 rfl rfl ?_
              refine v_iaddN K dX6_event_145 ?_
              refine v_iconst (v := nI 2) K dX6_event_146 (by decide) ?_
              refine v_isubN K dX6_event_147 (by omega) ?_
              refine v_iald K dX6_event_148 mv2 (by omega) (by decide) ?_
              exact v_iret K dX6_event_149 hr hlk (by decide) (by decide) (⟨rfl, by rw [eventF_2 (by rw [hbx]; omega) (by rw [hbx]; omega), hbx, hix, hwx]; show _ = tonF _; rw [tonF, ← q3]; first | (rw [if_pos (by omega)]; done) | (rw [if_neg (by omega)]; done) | (rw [if_neg (by omega)]; exact congrArg mtp (by omega))⟩)
            · refine v_icmp_le K 136 dX6_event_128 (by decide) rfl rfl (fun _ => ?_) (fun c => absurd c (by decide))
              refine v_aload_n K 0 dX6_event_136 rfl rfl ?_
              refine gf_X6_13 K dX6_event_137 fM rfl ?_
              refine v_iconst (v := nI 3) K dX6_event_140 (by decide) ?_
              refine v_iload K dX6_event_141 rfl ?_
              refine v_imulN K dX6_event_143 ?_
              refine v_iload_n K 3 dX6_event_144 rfl rfl ?_
              refine v_iaddN K dX6_event_145 ?_
              refine v_iconst (v := nI 2) K dX6_event_146 (by decide) ?_
              refine v_isubN K dX6_event_147 (by omega) ?_
              refine v_iald K dX6_event_148 mv2 (by omega) (by decide) ?_
              exact v_iret K dX6_event_149 hr hlk (by decide) (by decide) (⟨rfl, by rw [eventF_2 (by rw [hbx]; omega) (by rw [hbx]; omega), hbx, hix, hwx]; show _ = tonF _; rw [tonF, ← q3]; first | (rw [if_pos (by omega)]; done) | (rw [if_neg (by omega)]; done) | (rw [if_neg (by omega)]; exact congrArg mtp (by omega))⟩)
          · refine v_lookup K 119 dX6_event_61 (by decide) rfl (by decide) ?_
            refine v_iload_n K 3 dX6_event_119 rfl rfl ?_
            refine v_iconst (v := nI 1) K dX6_event_120 (by decide) ?_
            refine v_isubN K dX6_event_121 (by omega) ?_
            refine v_aload_n K 0 dX6_event_122 rfl rfl ?_
            refine v_iload K dX6_event_123 rfl ?_
            refine cl_X6_140 K dX6_event_125 fM (c_X6_topicMany l D cA base pic ad th cl cnt nb d no ns mtp (32 * j + i1) fM mv2 (by omega)) rfl rfl ⟨by decide, by decide⟩ (Nat.le_of_ble_eq_true rfl) ⟨by decide, by decide⟩ (fun x125 pic13 hx14 => ?_)
            rcases hx14 with ⟨rfl, rfl, ht1⟩ | ⟨rfl, rfl, ht1, ht2⟩ | ⟨rfl, rfl, ht1, ht2⟩
            · refine v_icmp_le K 136 dX6_event_128 (by decide) rfl rfl (fun c => absurd c (by decide)) (fun _ => ?_)
              refine v_bipush (v := -5) K dX6_event_131 (by decide) ?_
              refine v_goto K 149 dX6_event_133 (by decide) ?_
              exact v_iret K dX6_event_149 hr hlk (by decide) (by decide) (⟨rfl, by rw [eventF_2 (by rw [hbx]; omega) (by rw [hbx]; omega), hbx, hix, hwx]; show _ = tonF _; rw [tonF, ← q4]; first | (rw [if_pos (by omega)]; done) | (rw [if_neg (by omega)]; done) | (rw [if_neg (by omega)]; exact congrArg mtp (by omega))⟩)
            · refine v_icmp_le K 136 dX6_event_128 (by decide) rfl rfl (fun c => absurd c (by decide)) (fun _ => ?_)
              refine v_bipush (v := -5) K dX6_event_131 (by decide) ?_
              refine v_goto K 149 dX6_event_133 (by decide) ?_
              exact v_iret K dX6_event_149 hr hlk (by decide) (by decide) (⟨rfl, by rw [eventF_2 (by rw [hbx]; omega) (by rw [hbx]; omega), hbx, hix, hwx]; show _ = tonF _; rw [tonF, ← q4]; first | (rw [if_pos (by omega)]; done) | (rw [if_neg (by omega)]; done) | (rw [if_neg (by omega)]; exact congrArg mtp (by omega))⟩)
            · refine v_icmp_le K 136 dX6_event_128 (by decide) rfl rfl (fun _ => ?_) (fun c => absurd c (by decide))
              refine v_aload_n K 0 dX6_event_136 rfl rfl ?_
              refine gf_X6_13 K dX6_event_137 fM rfl ?_
              refine v_iconst (v := nI 3) K dX6_event_140 (by decide) ?_
              refine v_iload K dX6_event_141 rfl ?_
              refine v_imulN K dX6_event_143 ?_
              refine v_iload_n K 3 dX6_event_144 rfl rfl ?_
              refine v_iaddN K dX6_event_145 ?_
              refine v_iconst (v := nI 2) K dX6_event_146 (by decide) ?_
              refine v_isubN K dX6_event_147 (by omega) ?_
              refine v_iald K dX6_event_148 mv2 (by omega) (by decide) ?_
              exact v_iret K dX6_event_149 hr hlk (by decide) (by decide) (⟨rfl, by rw [eventF_2 (by rw [hbx]; omega) (by rw [hbx]; omega), hbx, hix, hwx]; show _ = tonF _; rw [tonF, ← q4]; first | (rw [if_pos (by omega)]; done) | (rw [if_neg (by omega)]; done) | (rw [if_neg (by omega)]; exact congrArg mtp (by omega))⟩)
          · refine v_lookup K 111 dX6_event_61 (by decide) rfl (by decide) ?_
            refine v_aload_n K 0 dX6_event_111 rfl rfl ?_
            refine gf_X6_20 K dX6_event_112 fM rfl ?_
            refine v_iload K dX6_event_115 rfl ?_
            refine v_iald K dX6_event_117 mv4 (by omega) (by decide) ?_
            exact v_iret K dX6_event_118 hr hlk (by decide) (by decide) (⟨rfl, by rw [eventF_2 (by rw [hbx]; omega) (by rw [hbx]; omega), hbx, hix, hwx]; exact q6⟩)
        · refine v_bipush (v := -4) K dX6_event_49 (by decide) ?_
          exact v_iret K dX6_event_51 hr hlk (by decide) (by decide) (by first | exact ⟨rfl, by rw [eventF_0 (by omega)]⟩ | exact ⟨rfl, by rw [eventF_0 (by rw [hbx]; omega)]⟩ | exact ⟨rfl, by rw [eventF_1 (by rw [hbx]; omega) (by rw [hbx]; omega)]⟩)
      · simp only [i2lT, show (0 : Int64).toInt = 0 from by decide, show (5 : Int64).toInt = 5 from by decide] at hqw
        refine v_if_ne K 40 dX6_event_35 (by decide) rfl (fun c => absurd c (by decide)) (fun _ => ?_)
        refine v_iconst (v := -1) K dX6_event_38 (by decide) ?_
        exact v_iret K dX6_event_39 hr hlk (by decide) (by decide) (by first | exact ⟨rfl, by rw [eventF_0 (by omega)]⟩ | exact ⟨rfl, by rw [eventF_0 (by rw [hbx]; omega)]⟩ | exact ⟨rfl, by rw [eventF_1 (by rw [hbx]; omega) (by rw [hbx]; omega)]⟩)
    · simp only [i2lT, show (0 : Int64).toInt = 0 from by decide, show (nI (bN (B j)) - nI 1).toInt = (((bN (B j)) : Nat) : Int) - 1 from pk_sub_toInt (by omega) (by omega)] at hqi
      refine v_if_eq K 38 dX6_event_23 (by decide) rfl (fun _ => ?_) (fun c => absurd c (by decide))
      refine v_iconst (v := -1) K dX6_event_38 (by decide) ?_
      exact v_iret K dX6_event_39 hr hlk (by decide) (by decide) (by first | exact ⟨rfl, by rw [eventF_0 (by omega)]⟩ | exact ⟨rfl, by rw [eventF_0 (by rw [hbx]; omega)]⟩ | exact ⟨rfl, by rw [eventF_1 (by rw [hbx]; omega) (by rw [hbx]; omega)]⟩)
  · refine v_if_eq K 38 dX6_event_5 (by decide) rfl (fun _ => ?_) (fun c => absurd c (by decide))
    refine v_iconst (v := -1) K dX6_event_38 (by decide) ?_
    exact v_iret K dX6_event_39 hr hlk (by decide) (by decide) (by first | exact ⟨rfl, by rw [eventF_0 (by omega)]⟩ | exact ⟨rfl, by rw [eventF_0 (by rw [hbx]; omega)]⟩ | exact ⟨rfl, by rw [eventF_1 (by rw [hbx]; omega) (by rw [hbx]; omega)]⟩)

