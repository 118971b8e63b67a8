set_option maxHeartbeats 4000000 in
set_option maxRecDepth 100000 in
theorem c_X6_may (l : Launch) (D : va_G) (cA : Nat → ClassId) (base : Nat) (pic : PIC) (ad : Nat → Nat) (th cl cnt : Int32) (nb d no ns : Nat) (mac mtp : Nat → Int32) (mvl : Nat → Int64) (mse : Nat → Int32) (msz mpr : Nat → Int32) (mro mfi : Nat → Int64) (B : Nat → Bk) (b t : Int32) (fM : pic 1000 = some (ad 1000, moE ad th nb cl cnt d no ns)) (hV : MEv pic cA ad mac mtp mvl mse) (hBl : MBl pic cA ad msz mpr mro mfi) (hB : RelB nb B msz mpr mro mfi mac mtp mvl mse) (hnb : nb ≤ 40)  : CI l yX6_may cX6_may 3 (some .int) { frames := 2, cells := 0, slots := 0, locals := 46 } 0 0 D cA base pic [.ref (ad 1000), .int b, .int t] (fun x9 pic1 => pic = pic1 ∧ x9 = mayF nb B b t) := by
  refine ofI (by decide) (Nat.le_of_ble_eq_true rfl) ?_
  intro p e s m below meth c K hr hlk hnm
  have ⟨mv1, mv2, mv3, mv4⟩ := hV
  have ⟨mb1, mb2, mb3, mb4⟩ := hBl
  refine v_aload_n K 0 dX6_may_0 rfl rfl ?_
  refine v_iload_n K 1 dX6_may_1 rfl rfl ?_
  refine cl_X6_134 K dX6_may_2 fM (c_X6_isBlock l D cA base pic ad th cl cnt nb d no ns b fM hnb) rfl rfl ⟨by decide, by decide⟩ (Nat.le_of_ble_eq_true rfl) ⟨by decide, by decide⟩ (fun x2 pic1 hx2 => ?_)
  rcases hx2 with ⟨rfl, rfl, hpb⟩ | ⟨rfl, rfl, hqb⟩
  · obtain ⟨j, hj, rfl⟩ := ixN b nb (by omega) (by omega) (by omega)
    obtain ⟨hs, hn, ⟨hp1, hp2⟩, hro, hfi, hEv⟩ := hB j hj
    have hbI := nI_toInt (n := j) (by omega)
    have hbx := bx_nI (j := j) (by omega)
    refine v_if_eq K 20 dX6_may_5 (by decide) rfl (fun c => absurd c (by decide)) (fun _ => ?_)
    refine v_iload_n K 2 dX6_may_8 rfl rfl ?_
    refine v_i2l K dX6_may_9 ?_
    refine v_lconst (v := 0) K dX6_may_10 (by decide) ?_
    refine v_ldc2 K gw_168 dX6_may_11 ?_
    refine cl_X6_70 K dX6_may_14 (c_X6_in l D cA base pic _ _ _) rfl rfl ⟨by decide, by decide⟩ (Nat.le_of_ble_eq_true rfl) ⟨by decide, by decide⟩ (fun x14 pic3 hx4 => ?_)
    rcases hx4 with ⟨rfl, rfl, hpt⟩ | ⟨rfl, rfl, hqt⟩
    · simp only [i2lT, show (0 : Int64).toInt = 0 from by decide, show (999 : Int64).toInt = 999 from by decide] at hpt
      refine v_if_ne K 24 dX6_may_17 (by decide) rfl (fun _ => ?_) (fun c => absurd c (by decide))
      refine v_aload_n K 0 dX6_may_24 rfl rfl ?_
      refine gf_X6_33 K dX6_may_25 fM rfl ?_
      refine v_iload_n K 1 dX6_may_28 rfl rfl ?_
      refine v_lald K dX6_may_29 mb4 (by omega) (by decide) ?_
      refine v_top (v := .long (bFb (B j))) (by rw [hfi]) ?_
      refine v_iload_n K 2 dX6_may_30 rfl rfl ?_
      refine cl_X6_122 K dX6_may_31 (c_X6_bitsOf l D cA base pic t) rfl rfl ⟨by decide, by decide⟩ (Nat.le_of_ble_eq_true rfl) ⟨by decide, by decide⟩ (fun x31 pic5 hx6 => ?_)
      obtain ⟨rfl, rfl⟩ := hx6
      refine v_land K dX6_may_34 ?_
      refine v_iload_n K 2 dX6_may_35 rfl rfl ?_
      refine cl_X6_122 K dX6_may_36 (c_X6_bitsOf l D cA base pic t) rfl rfl ⟨by decide, by decide⟩ (Nat.le_of_ble_eq_true rfl) ⟨by decide, by decide⟩ (fun x36 pic7 hx8 => ?_)
      obtain ⟨rfl, rfl⟩ := hx8
      refine v_lcmp K dX6_may_39 ?_
      refine v_if_ne K 47 dX6_may_40 (by decide) rfl (fun c40 => ?_) (fun c40 => ?_)
      · refine v_iconst (v := nI 0) K dX6_may_47 (by decide) ?_
        exact v_iret K dX6_may_48 hr hlk (by decide) (by decide) (by first | exact (⟨rfl, by rw [mayF_0 (fun h => hqb h.1)]⟩) | exact (⟨rfl, by rw [mayF_0 (fun h => hqt (by unfold isTop at h; omega))]⟩) | exact (⟨rfl, by rw [mayF_1 (fun h => h ⟨by omega, by unfold isTop; omega⟩) (by rw [hbx]; exact lgc0.mp c40)]; rfl⟩) | exact (⟨rfl, by rw [mayF_2 (fun h => h ⟨by omega, by unfold isTop; omega⟩) (by rw [hbx]; exact fun h => c40 (lgc0.mpr h))]; rfl⟩))
      · refine v_iconst (v := nI 1) K dX6_may_43 (by decide) ?_
        refine v_goto K 48 dX6_may_44 (by decide) ?_
        exact v_iret K dX6_may_48 hr hlk (by decide) (by decide) (by first | exact (⟨rfl, by rw [mayF_0 (fun h => hqb h.1)]⟩) | exact (⟨rfl, by rw [mayF_0 (fun h => hqt (by unfold isTop at h; omega))]⟩) | exact (⟨rfl, by rw [mayF_1 (fun h => h ⟨by omega, by unfold isTop; omega⟩) (by rw [hbx]; exact lgc0.mp c40)]; rfl⟩) | exact (⟨rfl, by rw [mayF_2 (fun h => h ⟨by omega, by unfold isTop; omega⟩) (by rw [hbx]; exact fun h => c40 (lgc0.mpr h))]; rfl⟩))
    · simp only [i2lT, show (0 : Int64).toInt = 0 from by decide, show (999 : Int64).toInt = 999 from by decide] at hqt
      refine v_if_ne K 24 dX6_may_17 (by decide) rfl (fun c => absurd c (by decide)) (fun _ => ?_)
      refine v_iconst (v := -1) K dX6_may_20 (by decide) ?_
      refine v_goto K 48 dX6_may_21 (by decide) ?_
      exact v_iret K dX6_may_48 hr hlk (by decide) (by decide) (by first | exact (⟨rfl, by rw [mayF_0 (fun h => hqb h.1)]⟩) | exact (⟨rfl, by rw [mayF_0 (fun h => hqt (by unfold isTop at h; omega))]⟩) | exact (⟨rfl, by rw [mayF_1 (fun h => h ⟨by omega, by unfold isTop; omega⟩) (by rw [hbx]; exact lgc0.mp c40)]; rfl⟩) | exact (⟨rfl, by rw [mayF_2 (fun h => h ⟨by omega, by unfold isTop; omega⟩) (by rw [hbx]; exact fun h => c40 (lgc0.mpr h))]; rfl⟩))
  · refine v_if_eq K 20 dX6_may_5 (by decide) rfl (fun _ => ?_) (fun c => absurd c (by decide))
    refine v_iconst (v := -1) K dX6_may_20 (by decide) ?_
    refine v_goto K 48 dX6_may_21 (by decide) ?_
    exact v_iret K dX6_may_48 hr hlk (by decide) (by decide) (by first | exact (⟨rfl, by rw [mayF_0 (fun h => hqb h.1)]⟩) | exact (⟨rfl, by rw [mayF_0 (fun h => hqt (by unfold isTop at h; omega))]⟩) | exact (⟨rfl, by rw [mayF_1 (fun h => h ⟨by omega, by unfold isTop; omega⟩) (by rw [hbx]; exact lgc0.mp c40)]; rfl⟩) | exact (⟨rfl, by rw [mayF_2 (fun h => h ⟨by omega, by unfold isTop; omega⟩) (by rw [hbx]; exact fun h => c40 (lgc0.mpr h))]; rfl⟩))

set_option maxHeartbeats 4000000 in
set_option maxRecDepth 100000 in
theorem l_X6_find {p : Program} {l : Launch} {e : Env} {s : State} {m : MethodId} {args : Array Value} {below : List Frame} {meth : Method} {c : Code} {Q : State → Prop} {D : va_G} {cA : Nat → ClassId} {base : Nat} {cw : Cond} (K : KX p m c cX6_find 5 s args cw RX6 D cA) (pic : PIC) (ad : Nat → Nat) (th cl cnt : Int32) (nb d no ns : Nat) (mac mtp : Nat → Int32) (mvl : Nat → Int64) (mse : Nat → Int32) (msz mpr : Nat → Int32) (mro mfi : Nat → Int64) (B : Nat → Bk) (t : Int32) (j i1 : Nat) (fM : pic 1000 = some (ad 1000, moE ad th nb cl cnt d no ns)) (hV : MEv pic cA ad mac mtp mvl mse) (hBl : MBl pic cA ad msz mpr mro mfi) (hB : RelB nb B msz mpr mro mfi mac mtp mvl mse) (hnb : nb ≤ 40) (hj : j < nb) (hpt : 0 ≤ t.toInt ∧ t.toInt ≤ 999) (kr : ∀ (x : Int32) (pc : Nat) (lv : LV), decode cX6_find pc = .ok (.ireturn, 1) → fwR (hasE (bE (B j)) t) i1 (bN (B j)) x → V p l e { frames := 2, cells := 0, slots := 0, locals := 46 } s m args below meth c Q D base 5 pic lv pc [.int x] 0 0) : ∀ (g k : Nat), bN (B j) - k < g → i1 ≤ k → k < 2 ^ 31 → (∀ i, i1 ≤ i → i < k → ¬ hasE (bE (B j)) t i) → V p l e { frames := 2, cells := 0, slots := 0, locals := 46 } s m args below meth c Q D base 5 pic (lvOf [(0, .ref (ad 1000)), (1, .int (nI j)), (2, .int t), (4, .int (nI (k)))]) 41 [] 0 0 := by
  have ⟨mv1, mv2, mv3, mv4⟩ := hV
  have ⟨mb1, mb2, mb3, mb4⟩ := hBl
  obtain ⟨hs, hn, ⟨hp1, hp2⟩, hro, hfi, hEv⟩ := hB j hj
  intro g
  induction g with
  | zero => intro k h; omega
  | succ g ih =>
    intro k hg hk0 hk31 hno
    refine v_iload K dX6_find_41 rfl ?_
    refine v_aload_n K 0 dX6_find_43 rfl rfl ?_
    refine gf_X6_23 K dX6_find_44 fM rfl ?_
    refine v_iload_n K 1 dX6_find_47 rfl rfl ?_
    refine v_iald K dX6_find_48 mb1 (by omega) (by decide) ?_
    refine v_top (v := .int (nI (bN (B j)))) (by rw [hs]) ?_
    refine v_icmp_ge K 76 dX6_find_49 (by decide) (nI_toInt (by omega)) (nI_toInt (by omega)) (fun c49 => ?_) (fun c49 => ?_)
    · refine v_bipush (v := -5) K dX6_find_76 (by decide) ?_
      exact kr _ 78 _ dX6_find_78 (Or.inr ⟨rfl, fun i h1 h2 => hno i h1 (by omega)⟩)
    · refine v_aload_n K 0 dX6_find_52 rfl rfl ?_
      refine v_bipush (v := nI 32) K dX6_find_53 (by decide) ?_
      refine v_iload_n K 1 dX6_find_55 rfl rfl ?_
      refine v_imulN K dX6_find_56 ?_
      refine v_iload K dX6_find_57 rfl ?_
      refine v_iaddN K dX6_find_59 ?_
      refine v_iload_n K 2 dX6_find_60 rfl rfl ?_
      refine cl_X6_143 K dX6_find_61 fM (c_X6_has l D cA base pic ad th cl cnt nb d no ns mtp (32 * j + k) t fM mv2 (by omega)) rfl rfl ⟨by decide, by decide⟩ (Nat.le_of_ble_eq_true rfl) ⟨by decide, by decide⟩ (fun x61 pic1 hx2 => ?_)
      rcases hx2 with ⟨rfl, rfl, hp⟩ | ⟨rfl, rfl, hq⟩
      · obtain ⟨⟨q1, q2, q3, q4, q5, q6⟩, q7⟩ := hEv k (by omega)
        rw [q2, q3, q4] at hp
        refine v_if_eq K 70 dX6_find_64 (by decide) rfl (fun c => absurd c (by decide)) (fun _ => ?_)
        refine v_iload K dX6_find_67 rfl ?_
        exact kr _ 69 _ dX6_find_69 (Or.inl ⟨k, rfl, by omega, by omega, Or.inr hp, hno⟩)
      · obtain ⟨⟨q1, q2, q3, q4, q5, q6⟩, q7⟩ := hEv k (by omega)
        rw [q2, q3, q4] at hq
        refine v_if_eq K 70 dX6_find_64 (by decide) rfl (fun _ => ?_) (fun c => absurd c (by decide))
        refine v_iincN K 1 dX6_find_70 rfl (by decide) (by decide) ?_
        refine v_goto K 41 dX6_find_73 (by decide) ?_
        refine v_at [(0, .ref (ad 1000)), (1, .int (nI j)), (2, .int t), (4, .int (nI (k + 1)))] (lcons rfl (lcons rfl (lcons rfl (lcons rfl (lnil))))) ?_
        exact ih (k + 1) (by omega) (by omega) (by omega) (fun i h1 h2 => by
          by_cases h3 : i < k
          · exact hno i h1 h3
          · have h4 : i = k := by omega
            subst h4
            exact fun h => h.elim (by omega) hq)

set_option maxHeartbeats 4000000 in
set_option maxRecDepth 100000 in
theorem c_X6_find (l : Launch) (D : va_G) (cA : Nat → ClassId) (base : Nat) (pic : PIC) (ad : Nat → Nat) (th cl cnt : Int32) (nb d no ns : Nat) (mac mtp : Nat → Int32) (mvl : Nat → Int64) (mse : Nat → Int32) (msz mpr : Nat → Int32) (mro mfi : Nat → Int64) (B : Nat → Bk) (b t i : Int32) (fM : pic 1000 = some (ad 1000, moE ad th nb cl cnt d no ns)) (hV : MEv pic cA ad mac mtp mvl mse) (hBl : MBl pic cA ad msz mpr mro mfi) (hB : RelB nb B msz mpr mro mfi mac mtp mvl mse) (hnb : nb ≤ 40)  : CI l yX6_find cX6_find 5 (some .int) { frames := 2, cells := 0, slots := 0, locals := 46 } 0 0 D cA base pic [.ref (ad 1000), .int b, .int t, .int i] (fun x9 pic1 => pic = pic1 ∧ x9 = findF nb B b t i) := by
  refine ofI (by decide) (Nat.le_of_ble_eq_true rfl) ?_
  intro p e s m below meth c K hr hlk hnm
  have ⟨mv1, mv2, mv3, mv4⟩ := hV
  have ⟨mb1, mb2, mb3, mb4⟩ := hBl
  refine v_aload_n K 0 dX6_find_0 rfl rfl ?_
  refine v_iload_n K 1 dX6_find_1 rfl rfl ?_
  refine cl_X6_134 K dX6_find_2 fM (c_X6_isBlock l D cA base pic ad th cl cnt nb d no ns b fM hnb) rfl rfl ⟨by decide, by decide⟩ (Nat.le_of_ble_eq_true rfl) ⟨by decide, by decide⟩ (fun x2 pic1 hx2 => ?_)
  rcases hx2 with ⟨rfl, rfl, hpb⟩ | ⟨rfl, rfl, hqb⟩
  · obtain ⟨j, hj, rfl⟩ := ixN b nb (by omega) (by omega) (by omega)
    obtain ⟨hs, hn, ⟨hp1, hp2⟩, hro, hfi, hEv⟩ := hB j hj
    have hbI := nI_toInt (n := j) (by omega)
    have hbx := bx_nI (j := j) (by omega)
    refine v_if_eq K 24 dX6_find_5 (by decide) rfl (fun c => absurd c (by decide)) (fun _ => ?_)
    refine v_iload_n K 2 dX6_find_8 rfl rfl ?_
    refine v_i2l K dX6_find_9 ?_
    refine v_lconst (v := 0) K dX6_find_10 (by decide) ?_
    refine v_ldc2 K gw_168 dX6_find_11 ?_
    refine cl_X6_70 K dX6_find_14 (c_X6_in l D cA base pic _ _ _) rfl rfl ⟨by decide, by decide⟩ (Nat.le_of_ble_eq_true rfl) ⟨by decide, by decide⟩ (fun x14 pic3 hx4 => ?_)
    rcases hx4 with ⟨rfl, rfl, hpt⟩ | ⟨rfl, rfl, hqt⟩
    · simp only [i2lT, show (0 : Int64).toInt = 0 from by decide, show (999 : Int64).toInt = 999 from by decide] at hpt
      refine v_if_eq K 24 dX6_find_17 (by decide) rfl (fun c => absurd c (by decide)) (fun _ => ?_)
      refine v_iload_n K 3 dX6_find_20 rfl rfl ?_
      refine v_if_ge K 26 dX6_find_21 (by decide) rfl (fun c21 => ?_) (fun c21 => ?_)
      · refine v_aload_n K 0 dX6_find_26 rfl rfl ?_
        refine gf_X6_26 K dX6_find_27 fM rfl ?_
        refine v_iload_n K 1 dX6_find_30 rfl rfl ?_
        refine v_zald K dX6_find_31 mb2 (by omega) (by decide) ?_
        refine v_if_eq K 38 dX6_find_32 (by decide) rfl (fun c32 => ?_) (fun c32 => ?_)
        · obtain ⟨i1, hi31, rfl⟩ := ixN31 i (by omega)
          have hix := bx_nI (j := i1) hi31
          refine v_iload_n K 3 dX6_find_38 rfl rfl ?_
          refine v_istore K dX6_find_39 (by decide) ?_
          refine v_at [(0, .ref (ad 1000)), (1, .int (nI j)), (2, .int t), (4, .int (nI (i1)))] (lcons rfl (lcons rfl (lcons rfl (lcons rfl (lnil))))) ?_
          exact l_X6_find K pic ad th cl cnt nb d no ns mac mtp mvl mse msz mpr mro mfi B t j i1 fM hV hBl hB hnb hj hpt (fun x pc lv d h => v_iret K d hr hlk (by decide) (by decide) ⟨rfl, by rw [findF_2 (fun h => h ⟨by omega, by unfold isTop; omega, by omega⟩) (by rw [hbx]; omega), hbx, hix, fwF_eq h]⟩) (bN (B j) - i1 + 1) i1 (by omega) (by omega) hi31 (fun i h1 h2 => absurd h1 (by omega))
        · refine v_bipush (v := -4) K dX6_find_35 (by decide) ?_
          exact v_iret K dX6_find_37 hr hlk (by decide) (by decide) (by first | exact (⟨rfl, by rw [findF_0 (fun h => hqb h.1)]⟩) | exact (⟨rfl, by rw [findF_0 (fun h => hqt (by have := h.2.1; unfold isTop at this; omega))]⟩) | exact (⟨rfl, by rw [findF_0 (fun h => absurd h.2.2 (by omega))]⟩) | exact (⟨rfl, by rw [findF_1 (fun h => h ⟨by omega, by unfold isTop; omega, by omega⟩) (by rw [hbx]; omega)]⟩))
      · refine v_iconst (v := -1) K dX6_find_24 (by decide) ?_
        exact v_iret K dX6_find_25 hr hlk (by decide) (by decide) (by first | exact (⟨rfl, by rw [findF_0 (fun h => hqb h.1)]⟩) | exact (⟨rfl, by rw [findF_0 (fun h => hqt (by have := h.2.1; unfold isTop at this; omega))]⟩) | exact (⟨rfl, by rw [findF_0 (fun h => absurd h.2.2 (by omega))]⟩) | exact (⟨rfl, by rw [findF_1 (fun h => h ⟨by omega, by unfold isTop; omega, by omega⟩) (by rw [hbx]; omega)]⟩))
    · simp only [i2lT, show (0 : Int64).toInt = 0 from by decide, show (999 : Int64).toInt = 999 from by decide] at hqt
      refine v_if_eq K 24 dX6_find_17 (by decide) rfl (fun _ => ?_) (fun c => absurd c (by decide))
      refine v_iconst (v := -1) K dX6_find_24 (by decide) ?_
      exact v_iret K dX6_find_25 hr hlk (by decide) (by decide) (by first | exact (⟨rfl, by rw [findF_0 (fun h => hqb h.1)]⟩) | exact (⟨rfl, by rw [findF_0 (fun h => hqt (by have := h.2.1; unfold isTop at this; omega))]⟩) | exact (⟨rfl, by rw [findF_0 (fun h => absurd h.2.2 (by omega))]⟩) | exact (⟨rfl, by rw [findF_1 (fun h => h ⟨by omega, by unfold isTop; omega, by omega⟩) (by rw [hbx]; omega)]⟩))
  · refine v_if_eq K 24 dX6_find_5 (by decide) rfl (fun _ => ?_) (fun c => absurd c (by decide))
    refine v_iconst (v := -1) K dX6_find_24 (by decide) ?_
    exact v_iret K dX6_find_25 hr hlk (by decide) (by decide) (by first | exact (⟨rfl, by rw [findF_0 (fun h => hqb h.1)]⟩) | exact (⟨rfl, by rw [findF_0 (fun h => hqt (by have := h.2.1; unfold isTop at this; omega))]⟩) | exact (⟨rfl, by rw [findF_0 (fun h => absurd h.2.2 (by omega))]⟩) | exact (⟨rfl, by rw [findF_1 (fun h => h ⟨by omega, by unfold isTop; omega, by omega⟩) (by rw [hbx]; omega)]⟩))

set_option maxHeartbeats 4000000 in
set_option maxRecDepth 100000 in
theorem c_X6_lay (l : Launch) (D : va_G) (cA : Nat → ClassId) (base : Nat) (pic : PIC) (ad : Nat → Nat) (th cl cnt : Int32) (nb d no ns : Nat) (dg : Nat → Int64) (v : Int64) (fM : pic 1000 = some (ad 1000, moE ad th nb cl cnt d no ns)) (mw1 : MOut pic cA ad dg) (hno5 : no ≤ 5)  : CI l yX6_lay cX6_lay 3 (some .int) { frames := 0, cells := 0, slots := 0, locals := 0 } 0 0 D cA base pic [.ref (ad 1000), .long v] (fun x9 pic1 => x9 = (layF no dg v).1 ∧ pic1 1000 = some (ad 1000, moE ad th nb cl cnt d (layF no dg v).2.1 ns) ∧ MOut pic1 cA ad (layF no dg v).2.2 ∧ ∀ q, ¬ (q = 1000 ∨ q = 1017) → pic1 q = pic q) := by
  refine ofI (by decide) (Nat.le_of_ble_eq_true rfl) ?_
  intro p e s m below meth c K hr hlk hnm
  have FR : ∀ q, ¬ (q = 1000 ∨ q = 1017) → pic q = pic q := fun _ _ => rfl
  unfold MOut at mw1
  refine v_aload_n K 0 dX6_lay_0 rfl rfl ?_
  refine gf_X6_147 K dX6_lay_1 fM rfl ?_
  refine v_iconst (v := nI 5) K dX6_lay_4 (by decide) ?_
  refine v_icmp_ne K 11 dX6_lay_5 (by decide) (nI_toInt (by omega)) (nI_toInt (by omega)) (fun c5 => ?_) (fun c5 => ?_)
  · refine v_aload_n K 0 dX6_lay_11 rfl rfl ?_
    refine gf_X6_48 K dX6_lay_12 fM rfl ?_
    refine v_aload_n K 0 dX6_lay_15 rfl rfl ?_
    refine gf_X6_147 K dX6_lay_16 fM rfl ?_
    refine v_lload_n K 1 dX6_lay_19 rfl rfl ?_
    refine v_last K dX6_lay_20 mw1 (by omega) (by decide) (fun pic3 zg1 zf2 => ?_)
    replace fM := (zf2 _ (by omega)).trans fM
    replace mw1 := zg1
    have FR : ∀ q, ¬ (q = 1000 ∨ q = 1017) → pic3 q = pic q := fun q hq => (zf2 q (by omega)).trans (FR q hq)
    refine v_aload_n K 0 dX6_lay_21 rfl rfl ?_
    refine v_dup K dX6_lay_22 rfl ?_
    refine gf_X6_147 K dX6_lay_23 fM rfl ?_
    refine v_iconst (v := nI 1) K dX6_lay_26 (by decide) ?_
    refine v_iaddN K dX6_lay_27 ?_
    refine pf_X6_147 K dX6_lay_28 fM (Nat.le_of_ble_eq_true rfl) (fun pic6 zg4 zf5 => ?_)
    replace fM := zg4
    replace mw1 := (zf5 _ (by omega)).trans mw1
    have FR : ∀ q, ¬ (q = 1000 ∨ q = 1017) → pic6 q = pic q := fun q hq => (zf5 q (by omega)).trans (FR q hq)
    refine v_aload_n K 0 dX6_lay_31 rfl rfl ?_
    refine gf_X6_147 K dX6_lay_32 fM rfl ?_
    exact v_iret K dX6_lay_35 hr hlk (by decide) (by decide) (by first | exact (by rw [layF_0 (by omega)]; exact ⟨rfl, fM, mw1, FR⟩) | exact (by rw [layF_1 (by omega)]; exact ⟨rfl, fM, mw1, FR⟩))
  · refine v_bipush (v := -3) K dX6_lay_8 (by decide) ?_
    exact v_iret K dX6_lay_10 hr hlk (by decide) (by decide) (by first | exact (by rw [layF_0 (by omega)]; exact ⟨rfl, fM, mw1, FR⟩) | exact (by rw [layF_1 (by omega)]; exact ⟨rfl, fM, mw1, FR⟩))

set_option maxHeartbeats 4000000 in
set_option maxRecDepth 100000 in
theorem c_X6_wipe (l : Launch) (D : va_G) (cA : Nat → ClassId) (base : Nat) (pic : PIC) (ad : Nat → Nat) (th cl cnt : Int32) (nb d no ns : Nat) (fM : pic 1000 = some (ad 1000, moE ad th nb cl cnt d no ns))  : CI l yX6_wipe cX6_wipe 2 (some .int) { frames := 0, cells := 0, slots := 0, locals := 0 } 0 0 D cA base pic [.ref (ad 1000)] (fun x9 pic1 => x9 = nI no ∧ pic1 1000 = some (ad 1000, moE ad th nb cl cnt d 0 ns) ∧ ∀ q, ¬ (q = 1000) → pic1 q = pic q) := by
  refine ofI (by decide) (Nat.le_of_ble_eq_true rfl) ?_
  intro p e s m below meth c K hr hlk hnm
  have FR : ∀ q, ¬ (q = 1000) → pic q = pic q := fun _ _ => rfl
  refine v_aload_n K 0 dX6_wipe_0 rfl rfl ?_
  refine gf_X6_147 K dX6_wipe_1 fM rfl ?_
  refine v_istore_n K 1 dX6_wipe_4 rfl (by decide) ?_
  refine v_aload_n K 0 dX6_wipe_5 rfl rfl ?_
  refine v_iconst (v := nI 0) K dX6_wipe_6 (by decide) ?_
  refine pf_X6_147 K dX6_wipe_7 fM (Nat.le_of_ble_eq_true rfl) (fun pic3 zg1 zf2 => ?_)
  replace fM := zg1
  have FR : ∀ q, ¬ (q = 1000) → pic3 q = pic q := fun q hq => (zf2 q (by omega)).trans (FR q hq)
  refine v_iload_n K 1 dX6_wipe_10 rfl rfl ?_
  exact v_iret K dX6_wipe_11 hr hlk (by decide) (by decide) (⟨rfl, fM, FR⟩)

def RelS (ns : Nat) (S : Nat → Sb) (mto mpb mpa : Nat → Int32) : Prop := ∀ j, j < ns → mto j = (S j).1 ∧ mpb j = nI (S j).2.1 ∧ mpa j = nI (S j).2.2
theorem RelS.push {ns b1 : Nat} {S : Nat → Sb} {t : Int32} {mto mpb mpa : Nat → Int32} (h : RelS ns S mto mpb mpa) : RelS (ns + 1) (va_up S ns (t, b1, 0)) (upd mto ns t) (upd mpb ns (nI b1)) (upd mpa ns (nI 0)) := by
  intro j hj
  by_cases hk : j = ns
  · subst hk; rw [va_up_self, pk_us, pk_us, pk_us]; exact ⟨rfl, rfl, rfl⟩
  · rw [va_up_ne _ _ hk, pk_un hk, pk_un hk, pk_un hk]; exact h j (by omega)
theorem RelS.upd {ns k b1 i1 : Nat} {S : Nat → Sb} {mto mpb mpa : Nat → Int32} (h : RelS ns S mto mpb mpa) (hk9 : k < ns) : RelS ns (va_up S k ((S k).1, b1, i1)) mto (upd mpb k (nI b1)) (upd mpa k (nI i1)) := by
  intro j hj
  by_cases hk : j = k
  · subst hk; rw [va_up_self, pk_us, pk_us]; exact ⟨(h j hj).1, rfl, rfl⟩
  · rw [va_up_ne _ _ hk, pk_un hk, pk_un hk]; exact h j hj
theorem mvI_at {S : Nat → Sb} {nb i : Nat} : mvI S nb i i = S i := by rw [mvI, if_neg (Nat.lt_irrefl i)]
theorem RelS.mv {ns nb : Nat} {S : Nat → Sb} {mto mpb mpa : Nat → Int32} (h : RelS ns (mvI S nb ns) mto mpb mpa) : RelS ns (mvF S nb) mto mpb mpa := fun j hj => by have h1 := h j hj; rw [mvI, if_pos hj] at h1; exact h1
theorem sumK_cons (B : Nat → Bk) (a : Nat) : ∀ m, sumK B a (m + 1) = knF (B a) + sumK B (a + 1) m
  | 0 => by show 0 + knF (B (a + 0)) = knF (B a) + 0; rw [Nat.add_zero, Nat.zero_add, Nat.add_zero]
  | m + 1 => by
    show sumK B a (m + 1) + knF (B (a + (m + 1))) = knF (B a) + (sumK B (a + 1) m + knF (B (a + 1 + m)))
    rw [sumK_cons B a m, show a + (m + 1) = a + 1 + m from by omega, Nat.add_assoc]
set_option maxHeartbeats 4000000 in
set_option maxRecDepth 100000 in
theorem c_X6_place (l : Launch) (D : va_G) (cA : Nat → ClassId) (base : Nat) (pic : PIC) (ad : Nat → Nat) (th cl cnt : Int32) (nb d no ns : Nat) (mto mpb mpa : Nat → Int32) (S : Nat → Sb) (s1 : Int32) (fM : pic 1000 = some (ad 1000, moE ad th nb cl cnt d no ns)) (hU : MSub pic cA ad mto mpb mpa) (hS : RelS ns S mto mpb mpa) (hns : ns ≤ 8)  : CI l yX6_place cX6_place 2 (some .int) { frames := 1, cells := 0, slots := 0, locals := 25 } 0 0 D cA base pic [.ref (ad 1000), .int s1] (fun x9 pic1 => pic = pic1 ∧ x9 = placeF ns S s1) := by
  refine ofI (by decide) (Nat.le_of_ble_eq_true rfl) ?_
  intro p e s m below meth c K hr hlk hnm
  have ⟨mu1, mu2, mu3⟩ := hU
  refine v_iload_n K 1 dX6_place_0 rfl rfl ?_
  refine v_i2l K dX6_place_1 ?_
  refine v_lconst (v := 0) K dX6_place_2 (by decide) ?_
  refine v_aload_n K 0 dX6_place_3 rfl rfl ?_
  refine gf_X6_105 K dX6_place_4 fM rfl ?_
  refine v_iconst (v := nI 1) K dX6_place_7 (by decide) ?_
  refine v_isub K dX6_place_8 ?_
  refine v_i2l K dX6_place_9 ?_
  refine cl_X6_70 K dX6_place_10 (c_X6_in l D cA base pic _ _ _) rfl rfl ⟨by decide, by decide⟩ (Nat.le_of_ble_eq_true rfl) ⟨by decide, by decide⟩ (fun x10 pic1 hx2 => ?_)
  rcases hx2 with ⟨rfl, rfl, hps⟩ | ⟨rfl, rfl, hqs⟩
  · simp only [i2lT, show (0 : Int64).toInt = 0 from by decide, show (nI ns - nI 1).toInt = ((ns : Nat) : Int) - 1 from pk_sub_toInt (by omega) (by omega)] at hps
    refine v_if_eq K 35 dX6_place_13 (by decide) rfl (fun c => absurd c (by decide)) (fun _ => ?_)
    obtain ⟨j, hj, rfl⟩ := ixN s1 ns (by omega) (by omega) (by omega)
    obtain ⟨s0, s2, s3⟩ := hS j hj
    have hbx := bx_nI (j := j) (by omega)
    refine v_bipush (v := nI 100) K dX6_place_16 (by decide) ?_
    refine v_aload_n K 0 dX6_place_18 rfl rfl ?_
    refine gf_X6_54 K dX6_place_19 fM rfl ?_
    refine v_iload_n K 1 dX6_place_22 rfl rfl ?_
    refine v_iald K dX6_place_23 mu2 (by omega) (by decide) ?_
    refine v_top (v := .int (nI (S j).2.1)) (by rw [s2]) ?_
    refine v_imulN K dX6_place_24 ?_
    refine v_aload_n K 0 dX6_place_25 rfl rfl ?_
    refine gf_X6_57 K dX6_place_26 fM rfl ?_
    refine v_iload_n K 1 dX6_place_29 rfl rfl ?_
    refine v_iald K dX6_place_30 mu3 (by omega) (by decide) ?_
    refine v_top (v := .int (nI (S j).2.2)) (by rw [s3]) ?_
    refine v_iaddN K dX6_place_31 ?_
    refine v_goto K 36 dX6_place_32 (by decide) ?_
    exact v_iret K dX6_place_36 hr hlk (by decide) (by decide) (by first | exact (⟨rfl, by rw [placeF_0 (by omega)]⟩) | exact (⟨rfl, by rw [placeF_1 (by have := nI_toInt (n := j) (by omega); omega), hbx]⟩))
  · simp only [i2lT, show (0 : Int64).toInt = 0 from by decide, show (nI ns - nI 1).toInt = ((ns : Nat) : Int) - 1 from pk_sub_toInt (by omega) (by omega)] at hqs
    refine v_if_eq K 35 dX6_place_13 (by decide) rfl (fun _ => ?_) (fun c => absurd c (by decide))
    refine v_iconst (v := -1) K dX6_place_35 (by decide) ?_
    exact v_iret K dX6_place_36 hr hlk (by decide) (by decide) (by first | exact (⟨rfl, by rw [placeF_0 (by omega)]⟩) | exact (⟨rfl, by rw [placeF_1 (by have := nI_toInt (n := j) (by omega); omega), hbx]⟩))

set_option maxHeartbeats 4000000 in
set_option maxRecDepth 100000 in
theorem c_X6_subscribe (l : Launch) (D : va_G) (cA : Nat → ClassId) (base : Nat) (pic : PIC) (ad : Nat → Nat) (th cl cnt : Int32) (nb d no ns : Nat) (mto mpb mpa : Nat → Int32) (S : Nat → Sb) (t b : Int32) (fM : pic 1000 = some (ad 1000, moE ad th nb cl cnt d no ns)) (hU : MSub pic cA ad mto mpb mpa) (hS : RelS ns S mto mpb mpa) (hns : ns ≤ 8) (hnb : nb ≤ 40)  : CI l yX6_subscribe cX6_subscribe 3 (some .int) { frames := 1, cells := 0, slots := 0, locals := 25 } 0 0 D cA base pic [.ref (ad 1000), .int t, .int b] (fun x9 pic1 => x9 = (subF nb ns S t b).1 ∧ pic1 1000 = some (ad 1000, moE ad th nb cl cnt d no (subF nb ns S t b).2.1) ∧ (∃ mto1 mpb1 mpa1, MSub pic1 cA ad mto1 mpb1 mpa1 ∧ RelS (subF nb ns S t b).2.1 (subF nb ns S t b).2.2 mto1 mpb1 mpa1) ∧ ∀ q, ¬ (q = 1000 ∨ 1020 ≤ q ∧ q < 1023) → pic1 q = pic q) := by
  refine ofI (by decide) (Nat.le_of_ble_eq_true rfl) ?_
  intro p e s m below meth c K hr hlk hnm
  have FR : ∀ q, ¬ (q = 1000 ∨ 1020 ≤ q ∧ q < 1023) → pic q = pic q := fun _ _ => rfl
  have ⟨mu1, mu2, mu3⟩ := hU
  refine v_iload_n K 1 dX6_subscribe_0 rfl rfl ?_
  refine v_i2l K dX6_subscribe_1 ?_
  refine v_ldc2 K gw_169 dX6_subscribe_2 ?_
  refine v_ldc2 K gw_168 dX6_subscribe_5 ?_
  refine cl_X6_70 K dX6_subscribe_8 (c_X6_in l D cA base pic _ _ _) rfl rfl ⟨by decide, by decide⟩ (Nat.le_of_ble_eq_true rfl) ⟨by decide, by decide⟩ (fun x8 pic1 hx2 => ?_)
  rcases hx2 with ⟨rfl, rfl, hpt⟩ | ⟨rfl, rfl, hqt⟩
  · simp only [i2lT, show (-1 : Int64).toInt = -1 from by decide, show (999 : Int64).toInt = 999 from by decide] at hpt
    refine v_if_eq K 28 dX6_subscribe_11 (by decide) rfl (fun c => absurd c (by decide)) (fun _ => ?_)
    refine v_iload_n K 2 dX6_subscribe_14 rfl rfl ?_
    refine v_i2l K dX6_subscribe_15 ?_
    refine v_lconst (v := 0) K dX6_subscribe_16 (by decide) ?_
    refine v_aload_n K 0 dX6_subscribe_17 rfl rfl ?_
    refine gf_X6_67 K dX6_subscribe_18 fM rfl ?_
    refine v_i2l K dX6_subscribe_21 ?_
    refine cl_X6_70 K dX6_subscribe_22 (c_X6_in l D cA base pic _ _ _) rfl rfl ⟨by decide, by decide⟩ (Nat.le_of_ble_eq_true rfl) ⟨by decide, by decide⟩ (fun x22 pic3 hx4 => ?_)
    rcases hx4 with ⟨rfl, rfl, hpb⟩ | ⟨rfl, rfl, hqb⟩
    · simp only [i2lT, show (0 : Int64).toInt = 0 from by decide, show (nI nb).toInt = ((nb : Nat) : Int) from nI_toInt (by omega)] at hpb
      refine v_if_ne K 30 dX6_subscribe_25 (by decide) rfl (fun _ => ?_) (fun c => absurd c (by decide))
      refine v_aload_n K 0 dX6_subscribe_30 rfl rfl ?_
      refine gf_X6_105 K dX6_subscribe_31 fM rfl ?_
      refine v_bipush (v := nI 8) K dX6_subscribe_34 (by decide) ?_
      refine v_icmp_ne K 42 dX6_subscribe_36 (by decide) (nI_toInt (by omega)) (nI_toInt (by omega)) (fun c36 => ?_) (fun c36 => ?_)
      · obtain ⟨b1, hb1, rfl⟩ := ixN b (nb + 1) (by omega) (by omega) (by omega)
        have hbI := nI_toInt (n := b1) (by omega)
        have hbx := bx_nI (j := b1) (by omega)
        refine v_aload_n K 0 dX6_subscribe_42 rfl rfl ?_
        refine gf_X6_51 K dX6_subscribe_43 fM rfl ?_
        refine v_aload_n K 0 dX6_subscribe_46 rfl rfl ?_
        refine gf_X6_105 K dX6_subscribe_47 fM rfl ?_
        refine v_iload_n K 1 dX6_subscribe_50 rfl rfl ?_
        refine v_iast K dX6_subscribe_51 mu1 (by omega) (by decide) (fun pic7 zg5 zf6 => ?_)
        replace fM := (zf6 _ (by omega)).trans fM
        replace mu1 := zg5
        replace mu2 := (zf6 _ (by omega)).trans mu2
        replace mu3 := (zf6 _ (by omega)).trans mu3
        have FR : ∀ q, ¬ (q = 1000 ∨ 1020 ≤ q ∧ q < 1023) → pic7 q = pic q := fun q hq => (zf6 q (by omega)).trans (FR q hq)
        refine v_aload_n K 0 dX6_subscribe_52 rfl rfl ?_
        refine gf_X6_54 K dX6_subscribe_53 fM rfl ?_
        refine v_aload_n K 0 dX6_subscribe_56 rfl rfl ?_
        refine gf_X6_105 K dX6_subscribe_57 fM rfl ?_
        refine v_iload_n K 2 dX6_subscribe_60 rfl rfl ?_
        refine v_iast K dX6_subscribe_61 mu2 (by omega) (by decide) (fun pic10 zg8 zf9 => ?_)
        replace fM := (zf9 _ (by omega)).trans fM
        replace mu1 := (zf9 _ (by omega)).trans mu1
        replace mu2 := zg8
        replace mu3 := (zf9 _ (by omega)).trans mu3
        have FR : ∀ q, ¬ (q = 1000 ∨ 1020 ≤ q ∧ q < 1023) → pic10 q = pic q := fun q hq => (zf9 q (by omega)).trans (FR q hq)
        refine v_aload_n K 0 dX6_subscribe_62 rfl rfl ?_
        refine gf_X6_57 K dX6_subscribe_63 fM rfl ?_
        refine v_aload_n K 0 dX6_subscribe_66 rfl rfl ?_
        refine gf_X6_105 K dX6_subscribe_67 fM rfl ?_
        refine v_iconst (v := nI 0) K dX6_subscribe_70 (by decide) ?_
        refine v_iast K dX6_subscribe_71 mu3 (by omega) (by decide) (fun pic13 zg11 zf12 => ?_)
        replace fM := (zf12 _ (by omega)).trans fM
        replace mu1 := (zf12 _ (by omega)).trans mu1
        replace mu2 := (zf12 _ (by omega)).trans mu2
        replace mu3 := zg11
        have FR : ∀ q, ¬ (q = 1000 ∨ 1020 ≤ q ∧ q < 1023) → pic13 q = pic q := fun q hq => (zf12 q (by omega)).trans (FR q hq)
        refine v_aload_n K 0 dX6_subscribe_72 rfl rfl ?_
        refine v_dup K dX6_subscribe_73 rfl ?_
        refine gf_X6_105 K dX6_subscribe_74 fM rfl ?_
        refine v_iconst (v := nI 1) K dX6_subscribe_77 (by decide) ?_
        refine v_iaddN K dX6_subscribe_78 ?_
        refine pf_X6_105 K dX6_subscribe_79 fM (Nat.le_of_ble_eq_true rfl) (fun pic16 zg14 zf15 => ?_)
        replace fM := zg14
        replace mu1 := (zf15 _ (by omega)).trans mu1
        replace mu2 := (zf15 _ (by omega)).trans mu2
        replace mu3 := (zf15 _ (by omega)).trans mu3
        have FR : ∀ q, ¬ (q = 1000 ∨ 1020 ≤ q ∧ q < 1023) → pic16 q = pic q := fun q hq => (zf15 q (by omega)).trans (FR q hq)
        refine v_aload_n K 0 dX6_subscribe_82 rfl rfl ?_
        refine gf_X6_105 K dX6_subscribe_83 fM rfl ?_
        refine v_iconst (v := nI 1) K dX6_subscribe_86 (by decide) ?_
        refine v_isubN K dX6_subscribe_87 (by omega) ?_
        exact v_iret K dX6_subscribe_88 hr hlk (by decide) (by decide) (by rw [subF_2 (fun h => h ⟨by unfold isTopN; omega, by omega⟩) (by omega), hbx]; exact ⟨rfl, fM, ⟨_, _, _, ⟨mu1, mu2, mu3⟩, hS.push⟩, FR⟩)
      · refine v_bipush (v := -3) K dX6_subscribe_39 (by decide) ?_
        exact v_iret K dX6_subscribe_41 hr hlk (by decide) (by decide) (by first | (rw [subF_0 (fun h => hqt (by have := h.1; unfold isTopN at this; omega))]; exact ⟨rfl, fM, ⟨_, _, _, hU, hS⟩, FR⟩) | (rw [subF_0 (fun h => hqb (by have := h.2; omega))]; exact ⟨rfl, fM, ⟨_, _, _, hU, hS⟩, FR⟩) | (rw [subF_1 (fun h => h ⟨by unfold isTopN; omega, by omega⟩) (by omega)]; exact ⟨rfl, fM, ⟨_, _, _, hU, hS⟩, FR⟩))
    · simp only [i2lT, show (0 : Int64).toInt = 0 from by decide, show (nI nb).toInt = ((nb : Nat) : Int) from nI_toInt (by omega)] at hqb
      refine v_if_ne K 30 dX6_subscribe_25 (by decide) rfl (fun c => absurd c (by decide)) (fun _ => ?_)
      refine v_iconst (v := -1) K dX6_subscribe_28 (by decide) ?_
      exact v_iret K dX6_subscribe_29 hr hlk (by decide) (by decide) (by first | (rw [subF_0 (fun h => hqt (by have := h.1; unfold isTopN at this; omega))]; exact ⟨rfl, fM, ⟨_, _, _, hU, hS⟩, FR⟩) | (rw [subF_0 (fun h => hqb (by have := h.2; omega))]; exact ⟨rfl, fM, ⟨_, _, _, hU, hS⟩, FR⟩) | (rw [subF_1 (fun h => h ⟨by unfold isTopN; omega, by omega⟩) (by omega)]; exact ⟨rfl, fM, ⟨_, _, _, hU, hS⟩, FR⟩))
  · simp only [i2lT, show (-1 : Int64).toInt = -1 from by decide, show (999 : Int64).toInt = 999 from by decide] at hqt
    refine v_if_eq K 28 dX6_subscribe_11 (by decide) rfl (fun _ => ?_) (fun c => absurd c (by decide))
    refine v_iconst (v := -1) K dX6_subscribe_28 (by decide) ?_
    exact v_iret K dX6_subscribe_29 hr hlk (by decide) (by decide) (by first | (rw [subF_0 (fun h => hqt (by have := h.1; unfold isTopN at this; omega))]; exact ⟨rfl, fM, ⟨_, _, _, hU, hS⟩, FR⟩) | (rw [subF_0 (fun h => hqb (by have := h.2; omega))]; exact ⟨rfl, fM, ⟨_, _, _, hU, hS⟩, FR⟩) | (rw [subF_1 (fun h => h ⟨by unfold isTopN; omega, by omega⟩) (by omega)]; exact ⟨rfl, fM, ⟨_, _, _, hU, hS⟩, FR⟩))

set_option maxHeartbeats 4000000 in
set_option maxRecDepth 100000 in
theorem l_X6_next {p : Program} {l : Launch} {e : Env} {s : State} {m : MethodId} {args : Array Value} {below : List Frame} {meth : Method} {c : Code} {Q : State → Prop} {D : va_G} {cA : Nat → ClassId} {base : Nat} {cw : Cond} (K : KX p m c cX6_next 4 s args cw RX6 D cA) (pic : PIC) (ad : Nat → Nat) (th cl cnt : Int32) (nb d no ns : Nat) (mac mtp : Nat → Int32) (mvl : Nat → Int64) (mse : Nat → Int32) (msz mpr : Nat → Int32) (mro mfi : Nat → Int64) (B : Nat → Bk) (mto mpb mpa : Nat → Int32) (S : Nat → Sb) (s0 : Nat) (fM : pic 1000 = some (ad 1000, moE ad th nb cl cnt d no ns)) (hV : MEv pic cA ad mac mtp mvl mse) (hBl : MBl pic cA ad msz mpr mro mfi) (hB : RelB nb B msz mpr mro mfi mac mtp mvl mse) (hnb : nb ≤ 40) (hU : MSub pic cA ad mto mpb mpa) (hS : RelS ns S mto mpb mpa) (hns : ns ≤ 8) (hs0 : s0 < ns) (htn : isTopN (S s0).1) (kr : ∀ (x : Int32) (pc : Nat) (lv : LV) (pic1 : PIC) (b1 i1 : Nat) (mpb1 mpa1 : Nat → Int32), decode cX6_next pc = .ok (.ireturn, 1) → nxR B (S s0).1 nb (S s0).2.1 (S s0).2.2 x b1 i1 → MSub pic1 cA ad mto mpb1 mpa1 → RelS ns (va_up S s0 ((S s0).1, b1, i1)) mto mpb1 mpa1 → (∀ q, ¬ (1020 ≤ q ∧ q < 1023) → pic1 q = pic q) → V p l e { frames := 1, cells := 0, slots := 0, locals := 25 } s m args below meth c Q D base 4 pic1 lv pc [.int x] 0 0) : ∀ (g b i : Nat), (nb - b) * 40 + (33 - i) < g → b ≤ nb → i ≤ 1000 → lexGe (S s0).2.1 (S s0).2.2 b i → (∀ j2 i2, lexGe (S s0).2.1 (S s0).2.2 j2 i2 → (j2 < b ∨ j2 = b ∧ i2 < i) → ¬ hasX B (S s0).1 j2 i2) → V p l e { frames := 1, cells := 0, slots := 0, locals := 25 } s m args below meth c Q D base 4 pic (lvOf [(0, .ref (ad 1000)), (1, .int (nI s0)), (2, .int (nI (b))), (3, .int (nI (i)))]) 32 [] 0 0 := by
  have ⟨mv1, mv2, mv3, mv4⟩ := hV
  have ⟨mb1, mb2, mb3, mb4⟩ := hBl
  have ⟨mu1, mu2, mu3⟩ := hU
  obtain ⟨r1, r2, r3⟩ := hS s0 hs0
  unfold isTopN at htn
  have FR : ∀ q, ¬ (1020 ≤ q ∧ q < 1023) → pic q = pic q := fun _ _ => rfl
  intro g
  induction g with
  | zero => intro b i h; omega
  | succ g ih =>
    intro b i hg hb hi hlex hnone
    refine v_iload_n K 2 dX6_next_32 rfl rfl ?_
    refine v_aload_n K 0 dX6_next_33 rfl rfl ?_
    refine gf_X6_67 K dX6_next_34 fM rfl ?_
    refine v_icmp_ge K 124 dX6_next_37 (by decide) (nI_toInt (by omega)) (nI_toInt (by omega)) (fun c37 => ?_) (fun c37 => ?_)
    · refine v_aload_n K 0 dX6_next_124 rfl rfl ?_
      refine gf_X6_54 K dX6_next_125 fM rfl ?_
      refine v_iload_n K 1 dX6_next_128 rfl rfl ?_
      refine v_aload_n K 0 dX6_next_129 rfl rfl ?_
      refine gf_X6_67 K dX6_next_130 fM rfl ?_
      refine v_iast K dX6_next_133 mu2 (by omega) (by decide) (fun pic3 zg1 zf2 => ?_)
      replace fM := (zf2 _ (by omega)).trans fM
      replace mv1 := (zf2 _ (by omega)).trans mv1
      replace mv2 := (zf2 _ (by omega)).trans mv2
      replace mv3 := (zf2 _ (by omega)).trans mv3
      replace mv4 := (zf2 _ (by omega)).trans mv4
      replace mb1 := (zf2 _ (by omega)).trans mb1
      replace mb2 := (zf2 _ (by omega)).trans mb2
      replace mb3 := (zf2 _ (by omega)).trans mb3
      replace mb4 := (zf2 _ (by omega)).trans mb4
      replace mu1 := (zf2 _ (by omega)).trans mu1
      replace mu2 := zg1
      replace mu3 := (zf2 _ (by omega)).trans mu3
      have FR : ∀ q, ¬ (1020 ≤ q ∧ q < 1023) → pic3 q = pic q := fun q hq => (zf2 q (by omega)).trans (FR q hq)
      refine v_aload_n K 0 dX6_next_134 rfl rfl ?_
      refine gf_X6_57 K dX6_next_135 fM rfl ?_
      refine v_iload_n K 1 dX6_next_138 rfl rfl ?_
      refine v_iconst (v := nI 0) K dX6_next_139 (by decide) ?_
      refine v_iast K dX6_next_140 mu3 (by omega) (by decide) (fun pic6 zg4 zf5 => ?_)
      replace fM := (zf5 _ (by omega)).trans fM
      replace mv1 := (zf5 _ (by omega)).trans mv1
      replace mv2 := (zf5 _ (by omega)).trans mv2
      replace mv3 := (zf5 _ (by omega)).trans mv3
      replace mv4 := (zf5 _ (by omega)).trans mv4
      replace mb1 := (zf5 _ (by omega)).trans mb1
      replace mb2 := (zf5 _ (by omega)).trans mb2
      replace mb3 := (zf5 _ (by omega)).trans mb3
      replace mb4 := (zf5 _ (by omega)).trans mb4
      replace mu1 := (zf5 _ (by omega)).trans mu1
      replace mu2 := (zf5 _ (by omega)).trans mu2
      replace mu3 := zg4
      have FR : ∀ q, ¬ (1020 ≤ q ∧ q < 1023) → pic6 q = pic q := fun q hq => (zf5 q (by omega)).trans (FR q hq)
      refine v_bipush (v := -5) K dX6_next_141 (by decide) ?_
      exact kr _ 143 _ _ nb 0 _ _ dX6_next_143 (Or.inr ⟨fun j2 i2 h1 h2 => hnone j2 i2 h2 (Or.inl (by omega)), rfl, rfl, rfl⟩) ⟨mu1, mu2, mu3⟩ (hS.upd hs0) FR
    · obtain ⟨hs, hn, ⟨hp1, hp2⟩, hro, hfi, hEv⟩ := hB b (by omega)
      refine v_aload_n K 0 dX6_next_40 rfl rfl ?_
      refine gf_X6_26 K dX6_next_41 fM rfl ?_
      refine v_iload_n K 2 dX6_next_44 rfl rfl ?_
      refine v_zald K dX6_next_45 mb2 (by omega) (by decide) ?_
      refine v_if_ne K 59 dX6_next_46 (by decide) rfl (fun c46 => ?_) (fun c46 => ?_)
      · refine v_iincN K 1 dX6_next_59 rfl (by decide) (by decide) ?_
        refine v_iconst (v := nI 0) K dX6_next_62 (by decide) ?_
        refine v_istore_n K 3 dX6_next_63 rfl (by decide) ?_
        refine v_goto K 32 dX6_next_64 (by decide) ?_
        refine v_at [(0, .ref (ad 1000)), (1, .int (nI s0)), (2, .int (nI (b + 1))), (3, .int (nI (0)))] (lcons rfl (lcons rfl (lcons rfl (lcons rfl (lnil))))) ?_
        exact ih (b + 1) 0 (by omega) (by omega) (by omega) (by unfold lexGe at *; omega) (fun j2 i2 h1 h2 h3 => by
          by_cases h4 : j2 < b ∨ j2 = b ∧ i2 < i
          · exact hnone j2 i2 h1 h4 h3
          · obtain rfl : j2 = b := by omega
            exact h3.2.1 (by omega))
      · refine v_iload_n K 3 dX6_next_49 rfl rfl ?_
        refine v_aload_n K 0 dX6_next_50 rfl rfl ?_
        refine gf_X6_23 K dX6_next_51 fM rfl ?_
        refine v_iload_n K 2 dX6_next_54 rfl rfl ?_
        refine v_iald K dX6_next_55 mb1 (by omega) (by decide) ?_
        refine v_top (v := .int (nI (bN (B b)))) (by rw [hs]) ?_
        refine v_icmp_lt K 67 dX6_next_56 (by decide) (nI_toInt (by omega)) (nI_toInt (by omega)) (fun c56 => ?_) (fun c56 => ?_)
        · refine v_aload_n K 0 dX6_next_67 rfl rfl ?_
          refine gf_X6_51 K dX6_next_68 fM rfl ?_
          refine v_iload_n K 1 dX6_next_71 rfl rfl ?_
          refine v_iald K dX6_next_72 mu1 (by omega) (by decide) ?_
          refine v_top (v := .int (S s0).1) (by rw [r1]) ?_
          refine v_if_lt K 95 dX6_next_73 (by decide) rfl (fun c73 => ?_) (fun c73 => ?_)
          · refine v_aload_n K 0 dX6_next_95 rfl rfl ?_
            refine gf_X6_54 K dX6_next_96 fM rfl ?_
            refine v_iload_n K 1 dX6_next_99 rfl rfl ?_
            refine v_iload_n K 2 dX6_next_100 rfl rfl ?_
            refine v_iast K dX6_next_101 mu2 (by omega) (by decide) (fun pic9 zg7 zf8 => ?_)
            replace fM := (zf8 _ (by omega)).trans fM
            replace mv1 := (zf8 _ (by omega)).trans mv1
            replace mv2 := (zf8 _ (by omega)).trans mv2
            replace mv3 := (zf8 _ (by omega)).trans mv3
            replace mv4 := (zf8 _ (by omega)).trans mv4
            replace mb1 := (zf8 _ (by omega)).trans mb1
            replace mb2 := (zf8 _ (by omega)).trans mb2
            replace mb3 := (zf8 _ (by omega)).trans mb3
            replace mb4 := (zf8 _ (by omega)).trans mb4
            replace mu1 := (zf8 _ (by omega)).trans mu1
            replace mu2 := zg7
            replace mu3 := (zf8 _ (by omega)).trans mu3
            have FR : ∀ q, ¬ (1020 ≤ q ∧ q < 1023) → pic9 q = pic q := fun q hq => (zf8 q (by omega)).trans (FR q hq)
            refine v_aload_n K 0 dX6_next_102 rfl rfl ?_
            refine gf_X6_57 K dX6_next_103 fM rfl ?_
            refine v_iload_n K 1 dX6_next_106 rfl rfl ?_
            refine v_iload_n K 3 dX6_next_107 rfl rfl ?_
            refine v_iconst (v := nI 1) K dX6_next_108 (by decide) ?_
            refine v_iaddN K dX6_next_109 ?_
            refine v_iast K dX6_next_110 mu3 (by omega) (by decide) (fun pic12 zg10 zf11 => ?_)
            replace fM := (zf11 _ (by omega)).trans fM
            replace mv1 := (zf11 _ (by omega)).trans mv1
            replace mv2 := (zf11 _ (by omega)).trans mv2
            replace mv3 := (zf11 _ (by omega)).trans mv3
            replace mv4 := (zf11 _ (by omega)).trans mv4
            replace mb1 := (zf11 _ (by omega)).trans mb1
            replace mb2 := (zf11 _ (by omega)).trans mb2
            replace mb3 := (zf11 _ (by omega)).trans mb3
            replace mb4 := (zf11 _ (by omega)).trans mb4
            replace mu1 := (zf11 _ (by omega)).trans mu1
            replace mu2 := (zf11 _ (by omega)).trans mu2
            replace mu3 := zg10
            have FR : ∀ q, ¬ (1020 ≤ q ∧ q < 1023) → pic12 q = pic q := fun q hq => (zf11 q (by omega)).trans (FR q hq)
            refine v_bipush (v := nI 100) K dX6_next_111 (by decide) ?_
            refine v_iload_n K 2 dX6_next_113 rfl rfl ?_
            refine v_imulN K dX6_next_114 ?_
            refine v_iload_n K 3 dX6_next_115 rfl rfl ?_
            refine v_iaddN K dX6_next_116 ?_
            exact kr _ 117 _ _ b (i + 1) _ _ dX6_next_117 (Or.inl ⟨b, i, by omega, hlex, ⟨by omega, by omega, by first | exact Or.inr hp | exact Or.inl (by omega)⟩, hnone, rfl, rfl, rfl⟩) ⟨mu1, mu2, mu3⟩ (hS.upd hs0) FR
          · refine v_aload_n K 0 dX6_next_76 rfl rfl ?_
            refine v_bipush (v := nI 32) K dX6_next_77 (by decide) ?_
            refine v_iload_n K 2 dX6_next_79 rfl rfl ?_
            refine v_imulN K dX6_next_80 ?_
            refine v_iload_n K 3 dX6_next_81 rfl rfl ?_
            refine v_iaddN K dX6_next_82 ?_
            refine v_aload_n K 0 dX6_next_83 rfl rfl ?_
            refine gf_X6_51 K dX6_next_84 fM rfl ?_
            refine v_iload_n K 1 dX6_next_87 rfl rfl ?_
            refine v_iald K dX6_next_88 mu1 (by omega) (by decide) ?_
            refine v_top (v := .int (S s0).1) (by rw [r1]) ?_
            refine cl_X6_143 K dX6_next_89 fM (c_X6_has l D cA base pic ad th cl cnt nb d no ns mtp (32 * b + i) (S s0).1 fM mv2 (by omega)) rfl rfl ⟨by decide, by decide⟩ (Nat.le_of_ble_eq_true rfl) ⟨by decide, by decide⟩ (fun x89 pic13 hx14 => ?_)
            rcases hx14 with ⟨rfl, rfl, hp⟩ | ⟨rfl, rfl, hq⟩
            · obtain ⟨⟨q1, q2, q3, q4, q5, q6⟩, q7⟩ := hEv i (by omega)
              rw [q2, q3, q4] at hp
              refine v_if_eq K 118 dX6_next_92 (by decide) rfl (fun c => absurd c (by decide)) (fun _ => ?_)
              refine v_aload_n K 0 dX6_next_95 rfl rfl ?_
              refine gf_X6_54 K dX6_next_96 fM rfl ?_
              refine v_iload_n K 1 dX6_next_99 rfl rfl ?_
              refine v_iload_n K 2 dX6_next_100 rfl rfl ?_
              refine v_iast K dX6_next_101 mu2 (by omega) (by decide) (fun pic17 zg15 zf16 => ?_)
              replace fM := (zf16 _ (by omega)).trans fM
              replace mv1 := (zf16 _ (by omega)).trans mv1
              replace mv2 := (zf16 _ (by omega)).trans mv2
              replace mv3 := (zf16 _ (by omega)).trans mv3
              replace mv4 := (zf16 _ (by omega)).trans mv4
              replace mb1 := (zf16 _ (by omega)).trans mb1
              replace mb2 := (zf16 _ (by omega)).trans mb2
              replace mb3 := (zf16 _ (by omega)).trans mb3
              replace mb4 := (zf16 _ (by omega)).trans mb4
              replace mu1 := (zf16 _ (by omega)).trans mu1
              replace mu2 := zg15
              replace mu3 := (zf16 _ (by omega)).trans mu3
              have FR : ∀ q, ¬ (1020 ≤ q ∧ q < 1023) → pic17 q = pic q := fun q hq => (zf16 q (by omega)).trans (FR q hq)
              refine v_aload_n K 0 dX6_next_102 rfl rfl ?_
              refine gf_X6_57 K dX6_next_103 fM rfl ?_
              refine v_iload_n K 1 dX6_next_106 rfl rfl ?_
              refine v_iload_n K 3 dX6_next_107 rfl rfl ?_
              refine v_iconst (v := nI 1) K dX6_next_108 (by decide) ?_
              refine v_iaddN K dX6_next_109 ?_
              refine v_iast K dX6_next_110 mu3 (by omega) (by decide) (fun pic20 zg18 zf19 => ?_)
              replace fM := (zf19 _ (by omega)).trans fM
              replace mv1 := (zf19 _ (by omega)).trans mv1
              replace mv2 := (zf19 _ (by omega)).trans mv2
              replace mv3 := (zf19 _ (by omega)).trans mv3
              replace mv4 := (zf19 _ (by omega)).trans mv4
              replace mb1 := (zf19 _ (by omega)).trans mb1
              replace mb2 := (zf19 _ (by omega)).trans mb2
              replace mb3 := (zf19 _ (by omega)).trans mb3
              replace mb4 := (zf19 _ (by omega)).trans mb4
              replace mu1 := (zf19 _ (by omega)).trans mu1
              replace mu2 := (zf19 _ (by omega)).trans mu2
              replace mu3 := zg18
              have FR : ∀ q, ¬ (1020 ≤ q ∧ q < 1023) → pic20 q = pic q := fun q hq => (zf19 q (by omega)).trans (FR q hq)
              refine v_bipush (v := nI 100) K dX6_next_111 (by decide) ?_
              refine v_iload_n K 2 dX6_next_113 rfl rfl ?_
              refine v_imulN K dX6_next_114 ?_
              refine v_iload_n K 3 dX6_next_115 rfl rfl ?_
              refine v_iaddN K dX6_next_116 ?_
              exact kr _ 117 _ _ b (i + 1) _ _ dX6_next_117 (Or.inl ⟨b, i, by omega, hlex, ⟨by omega, by omega, by first | exact Or.inr hp | exact Or.inl (by omega)⟩, hnone, rfl, rfl, rfl⟩) ⟨mu1, mu2, mu3⟩ (hS.upd hs0) FR
            · obtain ⟨⟨q1, q2, q3, q4, q5, q6⟩, q7⟩ := hEv i (by omega)
              rw [q2, q3, q4] at hq
              refine v_if_eq K 118 dX6_next_92 (by decide) rfl (fun _ => ?_) (fun c => absurd c (by decide))
              refine v_iincN K 1 dX6_next_118 rfl (by decide) (by decide) ?_
              refine v_goto K 32 dX6_next_121 (by decide) ?_
              refine v_at [(0, .ref (ad 1000)), (1, .int (nI s0)), (2, .int (nI (b))), (3, .int (nI (i + 1)))] (lcons rfl (lcons rfl (lcons rfl (lcons rfl (lnil))))) ?_
              exact ih b (i + 1) (by omega) (by omega) (by omega) (by unfold lexGe at *; omega) (fun j2 i2 h1 h2 h3 => by
                by_cases h4 : j2 < b ∨ j2 = b ∧ i2 < i
                · exact hnone j2 i2 h1 h4 h3
                · obtain rfl : j2 = b := by omega
                  obtain rfl : i2 = i := by omega
                  exact h3.2.2.elim (by omega) hq)
        · refine v_iincN K 1 dX6_next_59 rfl (by decide) (by decide) ?_
          refine v_iconst (v := nI 0) K dX6_next_62 (by decide) ?_
          refine v_istore_n K 3 dX6_next_63 rfl (by decide) ?_
          refine v_goto K 32 dX6_next_64 (by decide) ?_
          refine v_at [(0, .ref (ad 1000)), (1, .int (nI s0)), (2, .int (nI (b + 1))), (3, .int (nI (0)))] (lcons rfl (lcons rfl (lcons rfl (lcons rfl (lnil))))) ?_
          exact ih (b + 1) 0 (by omega) (by omega) (by omega) (by unfold lexGe at *; omega) (fun j2 i2 h1 h2 h3 => by
            by_cases h4 : j2 < b ∨ j2 = b ∧ i2 < i
            · exact hnone j2 i2 h1 h4 h3
            · obtain rfl : j2 = b := by omega
              have := h3.1; omega)

set_option maxHeartbeats 4000000 in
set_option maxRecDepth 100000 in
theorem c_X6_next (l : Launch) (D : va_G) (cA : Nat → ClassId) (base : Nat) (pic : PIC) (ad : Nat → Nat) (th cl cnt : Int32) (nb d no ns : Nat) (mac mtp : Nat → Int32) (mvl : Nat → Int64) (mse : Nat → Int32) (msz mpr : Nat → Int32) (mro mfi : Nat → Int64) (B : Nat → Bk) (mto mpb mpa : Nat → Int32) (S : Nat → Sb) (s1 : Int32) (fM : pic 1000 = some (ad 1000, moE ad th nb cl cnt d no ns)) (hV : MEv pic cA ad mac mtp mvl mse) (hBl : MBl pic cA ad msz mpr mro mfi) (hB : RelB nb B msz mpr mro mfi mac mtp mvl mse) (hnb : nb ≤ 40) (hU : MSub pic cA ad mto mpb mpa) (hS : RelS ns S mto mpb mpa) (hns : ns ≤ 8) (hSb : ∀ j, j < ns → ((S j).2.1 ≤ nb ∧ (S j).2.2 ≤ 1000) ∧ isTopN (S j).1)  : CI l yX6_next cX6_next 4 (some .int) { frames := 1, cells := 0, slots := 0, locals := 25 } 0 0 D cA base pic [.ref (ad 1000), .int s1] (fun x9 pic1 => x9 = (nextF nb ns B S s1).1 ∧ (∃ mto1 mpb1 mpa1, MSub pic1 cA ad mto1 mpb1 mpa1 ∧ RelS ns (nextF nb ns B S s1).2 mto1 mpb1 mpa1) ∧ ∀ q, ¬ (1020 ≤ q ∧ q < 1023) → pic1 q = pic q) := by
  refine ofI (by decide) (Nat.le_of_ble_eq_true rfl) ?_
  intro p e s m below meth c K hr hlk hnm
  have ⟨mv1, mv2, mv3, mv4⟩ := hV
  have ⟨mb1, mb2, mb3, mb4⟩ := hBl
  have ⟨mu1, mu2, mu3⟩ := hU
  refine v_iload_n K 1 dX6_next_0 rfl rfl ?_
  refine v_i2l K dX6_next_1 ?_
  refine v_lconst (v := 0) K dX6_next_2 (by decide) ?_
  refine v_aload_n K 0 dX6_next_3 rfl rfl ?_
  refine gf_X6_105 K dX6_next_4 fM rfl ?_
  refine v_iconst (v := nI 1) K dX6_next_7 (by decide) ?_
  refine v_isub K dX6_next_8 ?_
  refine v_i2l K dX6_next_9 ?_
  refine cl_X6_70 K dX6_next_10 (c_X6_in l D cA base pic _ _ _) rfl rfl ⟨by decide, by decide⟩ (Nat.le_of_ble_eq_true rfl) ⟨by decide, by decide⟩ (fun x10 pic1 hx2 => ?_)
  rcases hx2 with ⟨rfl, rfl, hps⟩ | ⟨rfl, rfl, hqs⟩
  · simp only [i2lT, show (0 : Int64).toInt = 0 from by decide, show (nI ns - nI 1).toInt = ((ns : Nat) : Int) - 1 from pk_sub_toInt (by omega) (by omega)] at hps
    refine v_if_ne K 18 dX6_next_13 (by decide) rfl (fun _ => ?_) (fun c => absurd c (by decide))
    obtain ⟨s0, hj, rfl⟩ := ixN s1 ns (by omega) (by omega) (by omega)
    obtain ⟨r1, r2, r3⟩ := hS s0 hj
    have hbx := bx_nI (j := s0) (by omega)
    refine v_aload_n K 0 dX6_next_18 rfl rfl ?_
    refine gf_X6_54 K dX6_next_19 fM rfl ?_
    refine v_iload_n K 1 dX6_next_22 rfl rfl ?_
    refine v_iald K dX6_next_23 mu2 (by omega) (by decide) ?_
    refine v_top (v := .int (nI (S s0).2.1)) (by rw [r2]) ?_
    refine v_istore_n K 2 dX6_next_24 rfl (by decide) ?_
    refine v_aload_n K 0 dX6_next_25 rfl rfl ?_
    refine gf_X6_57 K dX6_next_26 fM rfl ?_
    refine v_iload_n K 1 dX6_next_29 rfl rfl ?_
    refine v_iald K dX6_next_30 mu3 (by omega) (by decide) ?_
    refine v_top (v := .int (nI (S s0).2.2)) (by rw [r3]) ?_
    refine v_istore_n K 3 dX6_next_31 rfl (by decide) ?_
    refine v_at [(0, .ref (ad 1000)), (1, .int (nI s0)), (2, .int (nI ((S s0).2.1))), (3, .int (nI ((S s0).2.2)))] (lcons rfl (lcons rfl (lcons rfl (lcons rfl (lnil))))) ?_
    exact l_X6_next K pic ad th cl cnt nb d no ns mac mtp mvl mse msz mpr mro mfi B mto mpb mpa S s0 fM hV hBl hB hnb hU hS hns hj (hSb s0 hj).2 (fun x pc lv pic1 b1 i1 mpb1 mpa1 d h1 h2 h3 h4 => v_iret K d hr hlk (by decide) (by decide) (by rw [nextF_1 (by have := nI_toInt (n := s0) (by omega); omega), hbx, nxF_eq h1]; exact ⟨rfl, ⟨_, _, _, h2, h3⟩, h4⟩)) _ (S s0).2.1 (S s0).2.2 (Nat.lt_succ_self _) (hSb s0 hj).1.1 (hSb s0 hj).1.2 (Or.inr ⟨rfl, Nat.le_refl _⟩) (fun j2 i2 h1 h2 h3 => absurd h2 (by unfold lexGe at h1; omega))
  · simp only [i2lT, show (0 : Int64).toInt = 0 from by decide, show (nI ns - nI 1).toInt = ((ns : Nat) : Int) - 1 from pk_sub_toInt (by omega) (by omega)] at hqs
    refine v_if_ne K 18 dX6_next_13 (by decide) rfl (fun c => absurd c (by decide)) (fun _ => ?_)
    refine v_iconst (v := -1) K dX6_next_16 (by decide) ?_
    exact v_iret K dX6_next_17 hr hlk (by decide) (by decide) (by rw [nextF_0 (by omega)]; exact ⟨rfl, ⟨_, _, _, hU, hS⟩, fun _ _ => rfl⟩)

set_option maxHeartbeats 4000000 in
set_option maxRecDepth 100000 in
theorem l_X6_back1 {p : Program} {l : Launch} {e : Env} {s : State} {m : MethodId} {args : Array Value} {below : List Frame} {meth : Method} {c : Code} {Q : State → Prop} {D : va_G} {cA : Nat → ClassId} {base : Nat} {cw : Cond} (K : KX p m c cX6_back 4 s args cw RX6 D cA) (ad : Nat → Nat) (th cl cnt : Int32) (nb d no ns : Nat) (mac mtp : Nat → Int32) (mvl : Nat → Int64) (mse : Nat → Int32) (msz mpr : Nat → Int32) (mro mfi : Nat → Int64) (B : Nat → Bk) (n1 : Nat) (hB : RelB nb B msz mpr mro mfi mac mtp mvl mse) (hnb : nb ≤ 40) (hn1 : n1 ≤ nb) (pic0 : PIC) (kx : ∀ (pic1 : PIC), pic1 1000 = some (ad 1000, moE ad th (nb - (n1)) cl cnt d no ns) → (∀ q, ¬ (q = 1000) → pic1 q = pic0 q) → V p l e { frames := 1, cells := 0, slots := 0, locals := 25 } s m args below meth c Q D base 4 pic1 (lvOf [(0, .ref (ad 1000)), (2, .int (nI (sumK B (nb - n1) n1)))]) 79 [] 0 0) : ∀ (g k : Nat) (pic : PIC), n1 - k < g → k ≤ n1 → pic 1000 = some (ad 1000, moE ad th (nb - (k)) cl cnt d no ns) → MBl pic cA ad msz mpr mro mfi → (∀ q, ¬ (q = 1000) → pic q = pic0 q) → V p l e { frames := 1, cells := 0, slots := 0, locals := 25 } s m args below meth c Q D base 4 pic (lvOf [(0, .ref (ad 1000)), (1, .int (nI n1)), (2, .int (nI (sumK B (nb - (k)) (k)))), (3, .int (nI (k)))]) 30 [] 0 0 := by
  intro g
  induction g with
  | zero => intro k pic h; omega
  | succ g ih =>
    intro k pic hg hk fM hBl FR
    have ⟨mb1, mb2, mb3, mb4⟩ := hBl
    refine v_iload_n K 3 dX6_back_30 rfl rfl ?_
    refine v_iload_n K 1 dX6_back_31 rfl rfl ?_
    refine v_icmp_ge K 79 dX6_back_32 (by decide) (nI_toInt (by omega)) (nI_toInt (by omega)) (fun c32 => ?_) (fun c32 => ?_)
    · obtain rfl : k = n1 := by omega
      refine v_at [(0, .ref (ad 1000)), (2, .int (nI (sumK B (nb - k) k)))] (lcons rfl (lcons rfl (lnil))) ?_
      exact kx pic fM FR
    · refine v_aload_n K 0 dX6_back_35 rfl rfl ?_
      refine v_dup K dX6_back_36 rfl ?_
      refine gf_X6_67 K dX6_back_37 fM rfl ?_
      refine v_iconst (v := nI 1) K dX6_back_40 (by decide) ?_
      refine v_isubN K dX6_back_41 (by omega) ?_
      refine pf_X6_67 K dX6_back_42 fM (Nat.le_of_ble_eq_true rfl) (fun pic3 zg1 zf2 => ?_)
      replace fM := zg1
      replace mb1 := (zf2 _ (by omega)).trans mb1
      replace mb2 := (zf2 _ (by omega)).trans mb2
      replace mb3 := (zf2 _ (by omega)).trans mb3
      replace mb4 := (zf2 _ (by omega)).trans mb4
      have FR : ∀ q, ¬ (q = 1000) → pic3 q = pic0 q := fun q hq => (zf2 q (by omega)).trans (FR q hq)
      obtain ⟨hs, hn, ⟨hp1, hp2⟩, hro, hfi, hEv⟩ := hB (nb - k - 1) (by omega)
      refine v_iload_n K 2 dX6_back_45 rfl rfl ?_
      refine v_aload_n K 0 dX6_back_46 rfl rfl ?_
      refine gf_X6_26 K dX6_back_47 fM rfl ?_
      refine v_aload_n K 0 dX6_back_50 rfl rfl ?_
      refine gf_X6_67 K dX6_back_51 fM rfl ?_
      refine v_zald K dX6_back_54 mb2 (by omega) (by decide) ?_
      refine v_if_eq K 62 dX6_back_55 (by decide) rfl (fun c55 => ?_) (fun c55 => ?_)
      · refine v_aload_n K 0 dX6_back_62 rfl rfl ?_
        refine gf_X6_23 K dX6_back_63 fM rfl ?_
        refine v_aload_n K 0 dX6_back_66 rfl rfl ?_
        refine gf_X6_67 K dX6_back_67 fM rfl ?_
        refine v_iald K dX6_back_70 mb1 (by omega) (by decide) ?_
        refine v_top (v := .int (nI (bN (B (nb - k - 1))))) (by rw [hs]) ?_
        refine v_iaddN K dX6_back_71 ?_
        refine v_istore_n K 2 dX6_back_72 rfl (by decide) ?_
        refine v_iincN K 1 dX6_back_73 rfl (by decide) (by decide) ?_
        refine v_goto K 30 dX6_back_76 (by decide) ?_
        have hsum : sumK B (nb - (k + 1)) (k + 1) = sumK B (nb - k) k + bN (B (nb - k - 1)) := by
          rw [sumK_cons, show nb - (k + 1) + 1 = nb - k from by omega, Nat.add_comm]
          show sumK B (nb - k) k + knF (B (nb - k - 1)) = _
          rw [knF, if_neg (by omega)]
        refine v_at [(0, .ref (ad 1000)), (1, .int (nI n1)), (2, .int (nI (sumK B (nb - k) k + bN (B (nb - k - 1))))), (3, .int (nI (k + 1)))] (lcons rfl (lcons rfl (lcons rfl (lcons rfl (lnil))))) ?_
        rw [← hsum]
        exact ih (k + 1) pic3 (by omega) (by omega) fM ⟨mb1, mb2, mb3, mb4⟩ FR
      · refine v_iconst (v := nI 0) K dX6_back_58 (by decide) ?_
        refine v_goto K 71 dX6_back_59 (by decide) ?_
        refine v_iaddN K dX6_back_71 ?_
        refine v_istore_n K 2 dX6_back_72 rfl (by decide) ?_
        refine v_iincN K 1 dX6_back_73 rfl (by decide) (by decide) ?_
        refine v_goto K 30 dX6_back_76 (by decide) ?_
        have hsum : sumK B (nb - (k + 1)) (k + 1) = sumK B (nb - k) k + 0 := by
          rw [sumK_cons, show nb - (k + 1) + 1 = nb - k from by omega, Nat.add_comm]
          show sumK B (nb - k) k + knF (B (nb - k - 1)) = _
          rw [knF, if_pos (by omega)]
        refine v_at [(0, .ref (ad 1000)), (1, .int (nI n1)), (2, .int (nI (sumK B (nb - k) k + 0))), (3, .int (nI (k + 1)))] (lcons rfl (lcons rfl (lcons rfl (lcons rfl (lnil))))) ?_
        rw [← hsum]
        exact ih (k + 1) pic3 (by omega) (by omega) fM ⟨mb1, mb2, mb3, mb4⟩ FR

set_option maxHeartbeats 4000000 in
set_option maxRecDepth 100000 in
theorem l_X6_back2 {p : Program} {l : Launch} {e : Env} {s : State} {m : MethodId} {args : Array Value} {below : List Frame} {meth : Method} {c : Code} {Q : State → Prop} {D : va_G} {cA : Nat → ClassId} {base : Nat} {cw : Cond} (K : KX p m c cX6_back 4 s args cw RX6 D cA) (ad : Nat → Nat) (th cl cnt : Int32) (nb d no ns : Nat) (S : Nat → Sb) (mto : Nat → Int32) (x : Int32) (hnb : nb ≤ 40) (hns : ns ≤ 8) (hSb : ∀ j, j < ns → (S j).2.1 ≤ 40) (pic0 : PIC) (kx : ∀ (pic1 : PIC) (mpb mpa : Nat → Int32), MSub pic1 cA ad mto mpb mpa → RelS ns (mvF S nb) mto mpb mpa → (∀ q, ¬ (1020 ≤ q ∧ q < 1023) → pic1 q = pic0 q) → V p l e { frames := 1, cells := 0, slots := 0, locals := 25 } s m args below meth c Q D base 4 pic1 (lvOf [(2, .int x)]) 125 [] 0 0) : ∀ (g i : Nat) (pic : PIC) (mpb mpa : Nat → Int32), ns - i < g → i ≤ ns → pic 1000 = some (ad 1000, moE ad th nb cl cnt d no ns) → MSub pic cA ad mto mpb mpa → RelS ns (mvI S nb i) mto mpb mpa → (∀ q, ¬ (1020 ≤ q ∧ q < 1023) → pic q = pic0 q) → V p l e { frames := 1, cells := 0, slots := 0, locals := 25 } s m args below meth c Q D base 4 pic (lvOf [(0, .ref (ad 1000)), (2, .int x), (3, .int (nI (i)))]) 81 [] 0 0 := by
  intro g
  induction g with
  | zero => intro i pic mpb mpa h; omega
  | succ g ih =>
    intro i pic mpb mpa hg hi fM hU hR FR
    have ⟨mu1, mu2, mu3⟩ := hU
    refine v_iload_n K 3 dX6_back_81 rfl rfl ?_
    refine v_aload_n K 0 dX6_back_82 rfl rfl ?_
    refine gf_X6_105 K dX6_back_83 fM rfl ?_
    refine v_icmp_ge K 125 dX6_back_86 (by decide) (nI_toInt (by omega)) (nI_toInt (by omega)) (fun c86 => ?_) (fun c86 => ?_)
    · obtain rfl : i = ns := by omega
      refine v_at [(2, .int x)] (lcons rfl (lnil)) ?_
      exact kx pic _ _ ⟨mu1, mu2, mu3⟩ hR.mv FR
    · obtain ⟨r1, r2, r3⟩ := hR i (by omega)
      rw [mvI_at] at r1 r2 r3
      have hb9 := hSb i (by omega)
      refine v_aload_n K 0 dX6_back_89 rfl rfl ?_
      refine gf_X6_54 K dX6_back_90 fM rfl ?_
      refine v_iload_n K 3 dX6_back_93 rfl rfl ?_
      refine v_iald K dX6_back_94 mu2 (by omega) (by decide) ?_
      refine v_top (v := .int (nI (S i).2.1)) (by rw [r2]) ?_
      refine v_aload_n K 0 dX6_back_95 rfl rfl ?_
      refine gf_X6_67 K dX6_back_96 fM rfl ?_
      refine v_icmp_lt K 119 dX6_back_99 (by decide) (nI_toInt (by omega)) (nI_toInt (by omega)) (fun c99 => ?_) (fun c99 => ?_)
      · refine v_iincN K 1 dX6_back_119 rfl (by decide) (by decide) ?_
        refine v_goto K 81 dX6_back_122 (by decide) ?_
        refine v_at [(0, .ref (ad 1000)), (2, .int x), (3, .int (nI (i + 1)))] (lcons rfl (lcons rfl (lcons rfl (lnil)))) ?_
        exact ih (i + 1) pic _ _ (by omega) (by omega) fM ⟨mu1, mu2, mu3⟩ (by rw [mvI_stay (by omega)]; exact hR) FR
      · refine v_aload_n K 0 dX6_back_102 rfl rfl ?_
        refine gf_X6_54 K dX6_back_103 fM rfl ?_
        refine v_iload_n K 3 dX6_back_106 rfl rfl ?_
        refine v_aload_n K 0 dX6_back_107 rfl rfl ?_
        refine gf_X6_67 K dX6_back_108 fM rfl ?_
        refine v_iast K dX6_back_111 mu2 (by omega) (by decide) (fun pic3 zg1 zf2 => ?_)
        replace fM := (zf2 _ (by omega)).trans fM
        replace mu1 := (zf2 _ (by omega)).trans mu1
        replace mu2 := zg1
        replace mu3 := (zf2 _ (by omega)).trans mu3
        have FR : ∀ q, ¬ (1020 ≤ q ∧ q < 1023) → pic3 q = pic0 q := fun q hq => (zf2 q (by omega)).trans (FR q hq)
        refine v_aload_n K 0 dX6_back_112 rfl rfl ?_
        refine gf_X6_57 K dX6_back_113 fM rfl ?_
        refine v_iload_n K 3 dX6_back_116 rfl rfl ?_
        refine v_iconst (v := nI 0) K dX6_back_117 (by decide) ?_
        refine v_iast K dX6_back_118 mu3 (by omega) (by decide) (fun pic6 zg4 zf5 => ?_)
        replace fM := (zf5 _ (by omega)).trans fM
        replace mu1 := (zf5 _ (by omega)).trans mu1
        replace mu2 := (zf5 _ (by omega)).trans mu2
        replace mu3 := zg4
        have FR : ∀ q, ¬ (1020 ≤ q ∧ q < 1023) → pic6 q = pic0 q := fun q hq => (zf5 q (by omega)).trans (FR q hq)
        refine v_iincN K 1 dX6_back_119 rfl (by decide) (by decide) ?_
        refine v_goto K 81 dX6_back_122 (by decide) ?_
        refine v_at [(0, .ref (ad 1000)), (2, .int x), (3, .int (nI (i + 1)))] (lcons rfl (lcons rfl (lcons rfl (lnil)))) ?_
        exact ih (i + 1) pic6 _ _ (by omega) (by omega) fM ⟨mu1, mu2, mu3⟩ (by rw [mvI_move (by omega)]; have h7 := hR.upd (k := i) (b1 := nb) (i1 := 0) (by omega); rw [mvI_at] at h7; exact h7) FR

set_option maxHeartbeats 4000000 in
set_option maxRecDepth 100000 in
theorem c_X6_back (l : Launch) (D : va_G) (cA : Nat → ClassId) (base : Nat) (pic : PIC) (ad : Nat → Nat) (th cl cnt : Int32) (nb d no ns : Nat) (mac mtp : Nat → Int32) (mvl : Nat → Int64) (mse : Nat → Int32) (msz mpr : Nat → Int32) (mro mfi : Nat → Int64) (B : Nat → Bk) (mto mpb mpa : Nat → Int32) (S : Nat → Sb) (n : Int32) (fM : pic 1000 = some (ad 1000, moE ad th nb cl cnt d no ns)) (hV : MEv pic cA ad mac mtp mvl mse) (hBl : MBl pic cA ad msz mpr mro mfi) (hB : RelB nb B msz mpr mro mfi mac mtp mvl mse) (hnb : nb ≤ 40) (hU : MSub pic cA ad mto mpb mpa) (hS : RelS ns S mto mpb mpa) (hns : ns ≤ 8) (hSb : ∀ j, j < ns → ((S j).2.1 ≤ nb ∧ (S j).2.2 ≤ 1000) ∧ isTopN (S j).1) (hd : d ≤ 8)  : CI l yX6_back cX6_back 4 (some .int) { frames := 1, cells := 0, slots := 0, locals := 25 } 0 0 D cA base pic [.ref (ad 1000), .int n] (fun x9 pic1 => x9 = (backF d nb B S n).1 ∧ pic1 1000 = some (ad 1000, moE ad th (backF d nb B S n).2.1 cl cnt d no ns) ∧ (∃ mto1 mpb1 mpa1, MSub pic1 cA ad mto1 mpb1 mpa1 ∧ RelS ns (backF d nb B S n).2.2 mto1 mpb1 mpa1) ∧ ∀ q, ¬ (q = 1000 ∨ 1020 ≤ q ∧ q < 1023) → pic1 q = pic q) := by
  refine ofI (by decide) (Nat.le_of_ble_eq_true rfl) ?_
  intro p e s m below meth c K hr hlk hnm
  have FR : ∀ q, ¬ (q = 1000 ∨ 1020 ≤ q ∧ q < 1023) → pic q = pic q := fun _ _ => rfl
  have ⟨mv1, mv2, mv3, mv4⟩ := hV
  have ⟨mb1, mb2, mb3, mb4⟩ := hBl
  have ⟨mu1, mu2, mu3⟩ := hU
  refine v_iload_n K 1 dX6_back_0 rfl rfl ?_
  refine v_i2l K dX6_back_1 ?_
  refine v_lconst (v := 0) K dX6_back_2 (by decide) ?_
  refine v_aload_n K 0 dX6_back_3 rfl rfl ?_
  refine gf_X6_67 K dX6_back_4 fM rfl ?_
  refine v_i2l K dX6_back_7 ?_
  refine cl_X6_70 K dX6_back_8 (c_X6_in l D cA base pic _ _ _) rfl rfl ⟨by decide, by decide⟩ (Nat.le_of_ble_eq_true rfl) ⟨by decide, by decide⟩ (fun x8 pic1 hx2 => ?_)
  rcases hx2 with ⟨rfl, rfl, hpn⟩ | ⟨rfl, rfl, hqn⟩
  · simp only [i2lT, show (0 : Int64).toInt = 0 from by decide, show (nI nb).toInt = ((nb : Nat) : Int) from nI_toInt (by omega)] at hpn
    refine v_if_ne K 16 dX6_back_11 (by decide) rfl (fun _ => ?_) (fun c => absurd c (by decide))
    refine v_aload_n K 0 dX6_back_16 rfl rfl ?_
    refine gf_X6_74 K dX6_back_17 fM rfl ?_
    refine v_if_le K 26 dX6_back_20 (by decide) (nI_toInt (by omega)) (fun c20 => ?_) (fun c20 => ?_)
    · refine v_iconst (v := nI 0) K dX6_back_26 (by decide) ?_
      refine v_istore_n K 2 dX6_back_27 rfl (by decide) ?_
      refine v_iconst (v := nI 0) K dX6_back_28 (by decide) ?_
      refine v_istore_n K 3 dX6_back_29 rfl (by decide) ?_
      obtain ⟨n1, hn1, rfl⟩ := ixN n (nb + 1) (by omega) (by omega) (by omega)
      have hnI := nI_toInt (n := n1) (by omega)
      have hbx := bx_nI (j := n1) (by omega)
      refine v_at [(0, .ref (ad 1000)), (1, .int (nI n1)), (2, .int (nI (sumK B (nb - (0)) (0)))), (3, .int (nI (0)))] (lcons rfl (lcons rfl (lcons rfl (lcons rfl (lnil))))) ?_
      refine l_X6_back1 K ad th cl cnt nb d no ns mac mtp mvl mse msz mpr mro mfi B n1 hB hnb (by omega) pic (fun pic1 k1 k2 => ?_) (n1 - 0 + 1) 0 pic (by omega) (by omega) fM hBl (fun _ _ => rfl)
      have FR : ∀ q, ¬ (q = 1000 ∨ 1020 ≤ q ∧ q < 1023) → pic1 q = pic q := fun q hq => k2 q (by omega)
      replace fM := k1
      have mu1 := (k2 1020 (by omega)).trans mu1
      have mu2 := (k2 1021 (by omega)).trans mu2
      have mu3 := (k2 1022 (by omega)).trans mu3
      refine v_iconst (v := nI 0) K dX6_back_79 (by decide) ?_
      refine v_istore_n K 3 dX6_back_80 rfl (by decide) ?_
      refine v_at [(0, .ref (ad 1000)), (2, .int (nI (sumK B (nb - n1) n1))), (3, .int (nI 0))] (lcons rfl (lcons rfl (lcons rfl (lnil)))) ?_
      refine l_X6_back2 K ad th cl cnt (nb - n1) d no ns S mto _ (by omega) hns (fun j hj => by have := (hSb j hj).1.1; omega) pic1 (fun pic2 mpb2 mpa2 k3 k4 k5 => ?_) (ns - 0 + 1) 0 pic1 mpb mpa (by omega) (by omega) fM ⟨mu1, mu2, mu3⟩ (by rw [mvI_0]; exact hS) (fun _ _ => rfl)
      replace fM := (k5 1000 (by omega)).trans fM
      replace FR : ∀ q, ¬ (q = 1000 ∨ 1020 ≤ q ∧ q < 1023) → pic2 q = pic q := fun q hq => (k5 q (by omega)).trans (FR q hq)
      refine v_iload_n K 2 dX6_back_125 rfl rfl ?_
      exact v_iret K dX6_back_126 hr hlk (by decide) (by decide) (by first | exact (by rw [backF_0 (by omega)]; exact ⟨rfl, fM, ⟨_, _, _, hU, hS⟩, FR⟩) | exact (by rw [backF_1 (by omega) (by omega)]; exact ⟨rfl, fM, ⟨_, _, _, hU, hS⟩, FR⟩) | exact (by rw [backF_2 (by omega) (by omega), hbx]; exact ⟨rfl, fM, ⟨_, _, _, k3, k4⟩, FR⟩))
    · refine v_bipush (v := -2) K dX6_back_23 (by decide) ?_
      exact v_iret K dX6_back_25 hr hlk (by decide) (by decide) (by first | exact (by rw [backF_0 (by omega)]; exact ⟨rfl, fM, ⟨_, _, _, hU, hS⟩, FR⟩) | exact (by rw [backF_1 (by omega) (by omega)]; exact ⟨rfl, fM, ⟨_, _, _, hU, hS⟩, FR⟩) | exact (by rw [backF_2 (by omega) (by omega), hbx]; exact ⟨rfl, fM, ⟨_, _, _, k3, k4⟩, FR⟩))
  · simp only [i2lT, show (0 : Int64).toInt = 0 from by decide, show (nI nb).toInt = ((nb : Nat) : Int) from nI_toInt (by omega)] at hqn
    refine v_if_ne K 16 dX6_back_11 (by decide) rfl (fun c => absurd c (by decide)) (fun _ => ?_)
    refine v_iconst (v := -1) K dX6_back_14 (by decide) ?_
    exact v_iret K dX6_back_15 hr hlk (by decide) (by decide) (by first | exact (by rw [backF_0 (by omega)]; exact ⟨rfl, fM, ⟨_, _, _, hU, hS⟩, FR⟩) | exact (by rw [backF_1 (by omega) (by omega)]; exact ⟨rfl, fM, ⟨_, _, _, hU, hS⟩, FR⟩) | exact (by rw [backF_2 (by omega) (by omega), hbx]; exact ⟨rfl, fM, ⟨_, _, _, k3, k4⟩, FR⟩))

