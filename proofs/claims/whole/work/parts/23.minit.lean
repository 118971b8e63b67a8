noncomputable def valF (nb : Nat) (B : Nat → Bk) (b i : Int32) : Int32 × Int64 := cif (¬ (0 ≤ b.toInt ∧ b.toInt < nb)) ((nI 2, 0)) (cif ((bKp (B (bx b))).toInt = 0) ((nI 1, 0)) (cif (¬ (0 ≤ i.toInt ∧ i.toInt < bN (B (bx b)))) ((nI 2, 0)) ((nI 0, eV (bE (B (bx b))) (bx i)))))
theorem valF_0 {nb : Nat} {B : Nat → Bk} {b i : Int32} (h0 : ¬ (0 ≤ b.toInt ∧ b.toInt < nb)) : valF nb B b i = ((nI 2, 0)) := by rw [valF, cif_pos h0]
theorem valF_1 {nb : Nat} {B : Nat → Bk} {b i : Int32} (h0 : ¬ (¬ (0 ≤ b.toInt ∧ b.toInt < nb))) (h1 : (bKp (B (bx b))).toInt = 0) : valF nb B b i = ((nI 1, 0)) := by rw [valF, cif_neg h0, cif_pos h1]
theorem valF_2 {nb : Nat} {B : Nat → Bk} {b i : Int32} (h0 : ¬ (¬ (0 ≤ b.toInt ∧ b.toInt < nb))) (h1 : ¬ ((bKp (B (bx b))).toInt = 0)) (h2 : ¬ (0 ≤ i.toInt ∧ i.toInt < bN (B (bx b)))) : valF nb B b i = ((nI 2, 0)) := by rw [valF, cif_neg h0, cif_neg h1, cif_pos h2]
theorem valF_3 {nb : Nat} {B : Nat → Bk} {b i : Int32} (h0 : ¬ (¬ (0 ≤ b.toInt ∧ b.toInt < nb))) (h1 : ¬ ((bKp (B (bx b))).toInt = 0)) (h2 : ¬ (¬ (0 ≤ i.toInt ∧ i.toInt < bN (B (bx b))))) : valF nb B b i = ((nI 0, eV (bE (B (bx b))) (bx i))) := by rw [valF, cif_neg h0, cif_neg h1, cif_neg h2]

noncomputable def rooF (nb : Nat) (B : Nat → Bk) (b : Int32) : Int32 × Int64 := cif (¬ (0 ≤ b.toInt ∧ b.toInt < nb)) ((nI 1, 0)) ((nI 0, bRd (B (bx b))))
theorem rooF_0 {nb : Nat} {B : Nat → Bk} {b : Int32} (h0 : ¬ (0 ≤ b.toInt ∧ b.toInt < nb)) : rooF nb B b = ((nI 1, 0)) := by rw [rooF, cif_pos h0]
theorem rooF_1 {nb : Nat} {B : Nat → Bk} {b : Int32} (h0 : ¬ (¬ (0 ≤ b.toInt ∧ b.toInt < nb))) : rooF nb B b = ((nI 0, bRd (B (bx b)))) := by rw [rooF, cif_neg h0]

noncomputable def filF (nb : Nat) (B : Nat → Bk) (b : Int32) : Int32 × Int64 := cif (¬ (0 ≤ b.toInt ∧ b.toInt < nb)) ((nI 1, 0)) ((nI 0, bFb (B (bx b))))
theorem filF_0 {nb : Nat} {B : Nat → Bk} {b : Int32} (h0 : ¬ (0 ≤ b.toInt ∧ b.toInt < nb)) : filF nb B b = ((nI 1, 0)) := by rw [filF, cif_pos h0]
theorem filF_1 {nb : Nat} {B : Nat → Bk} {b : Int32} (h0 : ¬ (¬ (0 ≤ b.toInt ∧ b.toInt < nb))) : filF nb B b = ((nI 0, bFb (B (bx b)))) := by rw [filF, cif_neg h0]

noncomputable def outF (no : Nat) (dg : Nat → Int64) (k : Int32) : Int32 × Int64 := cif (¬ (0 ≤ k.toInt ∧ k.toInt < no)) ((nI 1, 0)) ((nI 0, dg (bx k)))
theorem outF_0 {no : Nat} {dg : Nat → Int64} {k : Int32} (h0 : ¬ (0 ≤ k.toInt ∧ k.toInt < no)) : outF no dg k = ((nI 1, 0)) := by rw [outF, cif_pos h0]
theorem outF_1 {no : Nat} {dg : Nat → Int64} {k : Int32} (h0 : ¬ (¬ (0 ≤ k.toInt ∧ k.toInt < no))) : outF no dg k = ((nI 0, dg (bx k))) := by rw [outF, cif_neg h0]

set_option maxHeartbeats 4000000 in
set_option maxRecDepth 100000 in
theorem c_X6_value (l : Launch) (D : va_G) (cA : Nat → ClassId) (base : Nat) (pic : PIC) (ad : Nat → Nat) (th cl cnt : Int32) (nb d no ns : Nat) (mac mtp : Nat → Int32) (mvl : Nat → Int64) (mse : Nat → Int32) (msz mpr : Nat → Int32) (mro mfi : Nat → Int64) (B : Nat → Bk) (b i : Int32) (fM : pic 1000 = some (ad 1000, moE ad th nb cl cnt d no ns)) (hV : MEv pic cA ad mac mtp mvl mse) (hBl : MBl pic cA ad msz mpr mro mfi) (hB : RelB nb B msz mpr mro mfi mac mtp mvl mse) (hnb : nb ≤ 40)  : CL l yX6_value cX6_value 3 (some .long) { frames := 2, cells := 0, slots := 0, locals := 46 } 0 0 D cA base pic [.ref (ad 1000), .int b, .int i] (fun x9 pic1 => x9 = (valF nb B b i).2 ∧ pic1 1000 = some (ad 1000, moE ad (valF nb B b i).1 nb cl cnt d no ns) ∧ ∀ q, ¬ (q = 1000) → pic1 q = pic q) := by
  refine ofL (by decide) (Nat.le_of_ble_eq_true rfl) ?_
  intro p e s m below meth c K hr hlk hnm
  have FR : ∀ q, ¬ (q = 1000) → pic q = pic q := fun _ _ => rfl
  have ⟨mv1, mv2, mv3, mv4⟩ := hV
  have ⟨mb1, mb2, mb3, mb4⟩ := hBl
  refine v_aload_n K 0 dX6_value_0 rfl rfl ?_
  refine v_aload_n K 0 dX6_value_1 rfl rfl ?_
  refine v_iload_n K 1 dX6_value_2 rfl rfl ?_
  refine cl_X6_134 K dX6_value_3 fM (c_X6_isBlock l D cA base pic ad th cl cnt nb d no ns b fM hnb) rfl rfl ⟨by decide, by decide⟩ (Nat.le_of_ble_eq_true rfl) ⟨by decide, by decide⟩ (fun x3 pic1 hx2 => ?_)
  rcases hx2 with ⟨rfl, rfl, hpb⟩ | ⟨rfl, rfl, hqb⟩
  · obtain ⟨j, hj, rfl⟩ := ixN b nb (by omega) (by omega) (by omega)
    obtain ⟨hs, hn, ⟨hp1, hp2⟩, hro, hfi, hEv⟩ := hB j hj
    have hbI := nI_toInt (n := j) (by omega)
    have hbx := bx_nI (j := j) (by omega)
    refine v_if_ne K 13 dX6_value_6 (by decide) rfl (fun _ => ?_) (fun c => absurd c (by decide))
    refine v_aload_n K 0 dX6_value_13 rfl rfl ?_
    refine gf_X6_26 K dX6_value_14 fM rfl ?_
    refine v_iload_n K 1 dX6_value_17 rfl rfl ?_
    refine v_zald K dX6_value_18 mb2 (by omega) (by decide) ?_
    refine v_if_eq K 26 dX6_value_19 (by decide) rfl (fun c19 => ?_) (fun c19 => ?_)
    · refine v_iload_n K 2 dX6_value_26 rfl rfl ?_
      refine v_i2l K dX6_value_27 ?_
      refine v_lconst (v := 0) K dX6_value_28 (by decide) ?_
      refine v_aload_n K 0 dX6_value_29 rfl rfl ?_
      refine gf_X6_23 K dX6_value_30 fM rfl ?_
      refine v_iload_n K 1 dX6_value_33 rfl rfl ?_
      refine v_iald K dX6_value_34 mb1 (by omega) (by decide) ?_
      refine v_top (v := .int (nI (bN (B j)))) (by rw [hs]) ?_
      refine v_iconst (v := nI 1) K dX6_value_35 (by decide) ?_
      refine v_isub K dX6_value_36 ?_
      refine v_i2l K dX6_value_37 ?_
      refine cl_X6_70 K dX6_value_38 (c_X6_in l D cA base pic _ _ _) rfl rfl ⟨by decide, by decide⟩ (Nat.le_of_ble_eq_true rfl) ⟨by decide, by decide⟩ (fun x38 pic3 hx4 => ?_)
      rcases hx4 with ⟨rfl, rfl, hpi⟩ | ⟨rfl, rfl, hqi⟩
      · simp only [i2lT, show (0 : Int64).toInt = 0 from by decide, show (nI (bN (B j)) - nI 1).toInt = (((bN (B j)) : Nat) : Int) - 1 from pk_sub_toInt (by omega) (by omega)] at hpi
        refine v_if_ne K 48 dX6_value_41 (by decide) rfl (fun _ => ?_) (fun c => absurd c (by decide))
        obtain ⟨i1, hi1, rfl⟩ := ixN i (bN (B j)) (by omega) (by omega) (by omega)
        have hiI := nI_toInt (n := i1) (by omega)
        have hix := bx_nI (j := i1) (by omega)
        refine v_iconst (v := nI 0) K dX6_value_48 (by decide) ?_
        refine pf_X6_63 K dX6_value_49 fM (Nat.le_of_ble_eq_true rfl) (fun pic7 zg5 zf6 => ?_)
        replace fM := zg5
        replace mv1 := (zf6 _ (by omega)).trans mv1
        replace mv2 := (zf6 _ (by omega)).trans mv2
        replace mv3 := (zf6 _ (by omega)).trans mv3
        replace mv4 := (zf6 _ (by omega)).trans mv4
        replace mb1 := (zf6 _ (by omega)).trans mb1
        replace mb2 := (zf6 _ (by omega)).trans mb2
        replace mb3 := (zf6 _ (by omega)).trans mb3
        replace mb4 := (zf6 _ (by omega)).trans mb4
        have FR : ∀ q, ¬ (q = 1000) → pic7 q = pic q := fun q hq => (zf6 q (by omega)).trans (FR q hq)
        refine v_aload_n K 0 dX6_value_52 rfl rfl ?_
        refine gf_X6_63 K dX6_value_53 fM rfl ?_
        refine v_if_le K 63 dX6_value_56 (by decide) rfl (fun _ => ?_) (fun c => absurd c (by decide))
        refine v_aload_n K 0 dX6_value_63 rfl rfl ?_
        refine gf_X6_16 K dX6_value_64 fM rfl ?_
        refine v_bipush (v := nI 32) K dX6_value_67 (by decide) ?_
        refine v_iload_n K 1 dX6_value_69 rfl rfl ?_
        refine v_imulN K dX6_value_70 ?_
        refine v_iload_n K 2 dX6_value_71 rfl rfl ?_
        refine v_iaddN K dX6_value_72 ?_
        refine v_lald K dX6_value_73 mv3 (by omega) (by decide) ?_
        refine v_top (v := .long (eV (bE (B j)) i1)) (by rw [(hEv i1 hi1).1.2.2.2.2.1]) ?_
        exact v_lret K dX6_value_74 hr hlk (by decide) (by decide) (by first | exact (by rw [valF_0 (by omega)]; exact ⟨rfl, fM, FR⟩) | exact (by rw [valF_1 (by omega) (by rw [hbx]; omega)]; exact ⟨rfl, fM, FR⟩) | exact (by rw [valF_2 (by omega) (by rw [hbx]; omega) (by rw [hbx]; omega)]; exact ⟨rfl, fM, FR⟩) | exact (by rw [valF_3 (by omega) (by rw [hbx]; omega) (by rw [hbx]; omega), hbx, hix]; exact ⟨rfl, fM, FR⟩))
      · simp only [i2lT, show (0 : Int64).toInt = 0 from by decide, show (nI (bN (B j)) - nI 1).toInt = (((bN (B j)) : Nat) : Int) - 1 from pk_sub_toInt (by omega) (by omega)] at hqi
        refine v_if_ne K 48 dX6_value_41 (by decide) rfl (fun c => absurd c (by decide)) (fun _ => ?_)
        refine v_iconst (v := nI 2) K dX6_value_44 (by decide) ?_
        refine v_goto K 49 dX6_value_45 (by decide) ?_
        refine pf_X6_63 K dX6_value_49 fM (Nat.le_of_ble_eq_true rfl) (fun pic10 zg8 zf9 => ?_)
        replace fM := zg8
        replace mv1 := (zf9 _ (by omega)).trans mv1
        replace mv2 := (zf9 _ (by omega)).trans mv2
        replace mv3 := (zf9 _ (by omega)).trans mv3
        replace mv4 := (zf9 _ (by omega)).trans mv4
        replace mb1 := (zf9 _ (by omega)).trans mb1
        replace mb2 := (zf9 _ (by omega)).trans mb2
        replace mb3 := (zf9 _ (by omega)).trans mb3
        replace mb4 := (zf9 _ (by omega)).trans mb4
        have FR : ∀ q, ¬ (q = 1000) → pic10 q = pic q := fun q hq => (zf9 q (by omega)).trans (FR q hq)
        refine v_aload_n K 0 dX6_value_52 rfl rfl ?_
        refine gf_X6_63 K dX6_value_53 fM rfl ?_
        refine v_if_le K 63 dX6_value_56 (by decide) rfl (fun c => absurd c (by decide)) (fun _ => ?_)
        refine v_lconst (v := 0) K dX6_value_59 (by decide) ?_
        refine v_goto K 74 dX6_value_60 (by decide) ?_
        exact v_lret K dX6_value_74 hr hlk (by decide) (by decide) (by first | exact (by rw [valF_0 (by omega)]; exact ⟨rfl, fM, FR⟩) | exact (by rw [valF_1 (by omega) (by rw [hbx]; omega)]; exact ⟨rfl, fM, FR⟩) | exact (by rw [valF_2 (by omega) (by rw [hbx]; omega) (by rw [hbx]; omega)]; exact ⟨rfl, fM, FR⟩) | exact (by rw [valF_3 (by omega) (by rw [hbx]; omega) (by rw [hbx]; omega), hbx, hix]; exact ⟨rfl, fM, FR⟩))
    · refine v_iconst (v := nI 1) K dX6_value_22 (by decide) ?_
      refine v_goto K 49 dX6_value_23 (by decide) ?_
      refine pf_X6_63 K dX6_value_49 fM (Nat.le_of_ble_eq_true rfl) (fun pic13 zg11 zf12 => ?_)
      replace fM := zg11
      replace mv1 := (zf12 _ (by omega)).trans mv1
      replace mv2 := (zf12 _ (by omega)).trans mv2
      replace mv3 := (zf12 _ (by omega)).trans mv3
      replace mv4 := (zf12 _ (by omega)).trans mv4
      replace mb1 := (zf12 _ (by omega)).trans mb1
      replace mb2 := (zf12 _ (by omega)).trans mb2
      replace mb3 := (zf12 _ (by omega)).trans mb3
      replace mb4 := (zf12 _ (by omega)).trans mb4
      have FR : ∀ q, ¬ (q = 1000) → pic13 q = pic q := fun q hq => (zf12 q (by omega)).trans (FR q hq)
      refine v_aload_n K 0 dX6_value_52 rfl rfl ?_
      refine gf_X6_63 K dX6_value_53 fM rfl ?_
      refine v_if_le K 63 dX6_value_56 (by decide) rfl (fun c => absurd c (by decide)) (fun _ => ?_)
      refine v_lconst (v := 0) K dX6_value_59 (by decide) ?_
      refine v_goto K 74 dX6_value_60 (by decide) ?_
      exact v_lret K dX6_value_74 hr hlk (by decide) (by decide) (by first | exact (by rw [valF_0 (by omega)]; exact ⟨rfl, fM, FR⟩) | exact (by rw [valF_1 (by omega) (by rw [hbx]; omega)]; exact ⟨rfl, fM, FR⟩) | exact (by rw [valF_2 (by omega) (by rw [hbx]; omega) (by rw [hbx]; omega)]; exact ⟨rfl, fM, FR⟩) | exact (by rw [valF_3 (by omega) (by rw [hbx]; omega) (by rw [hbx]; omega), hbx, hix]; exact ⟨rfl, fM, FR⟩))
  · refine v_if_ne K 13 dX6_value_6 (by decide) rfl (fun c => absurd c (by decide)) (fun _ => ?_)
    refine v_iconst (v := nI 2) K dX6_value_9 (by decide) ?_
    refine v_goto K 49 dX6_value_10 (by decide) ?_
    refine pf_X6_63 K dX6_value_49 fM (Nat.le_of_ble_eq_true rfl) (fun pic16 zg14 zf15 => ?_)
    replace fM := zg14
    replace mv1 := (zf15 _ (by omega)).trans mv1
    replace mv2 := (zf15 _ (by omega)).trans mv2
    replace mv3 := (zf15 _ (by omega)).trans mv3
    replace mv4 := (zf15 _ (by omega)).trans mv4
    replace mb1 := (zf15 _ (by omega)).trans mb1
    replace mb2 := (zf15 _ (by omega)).trans mb2
    replace mb3 := (zf15 _ (by omega)).trans mb3
    replace mb4 := (zf15 _ (by omega)).trans mb4
    have FR : ∀ q, ¬ (q = 1000) → pic16 q = pic q := fun q hq => (zf15 q (by omega)).trans (FR q hq)
    refine v_aload_n K 0 dX6_value_52 rfl rfl ?_
    refine gf_X6_63 K dX6_value_53 fM rfl ?_
    refine v_if_le K 63 dX6_value_56 (by decide) rfl (fun c => absurd c (by decide)) (fun _ => ?_)
    refine v_lconst (v := 0) K dX6_value_59 (by decide) ?_
    refine v_goto K 74 dX6_value_60 (by decide) ?_
    exact v_lret K dX6_value_74 hr hlk (by decide) (by decide) (by first | exact (by rw [valF_0 (by omega)]; exact ⟨rfl, fM, FR⟩) | exact (by rw [valF_1 (by omega) (by rw [hbx]; omega)]; exact ⟨rfl, fM, FR⟩) | exact (by rw [valF_2 (by omega) (by rw [hbx]; omega) (by rw [hbx]; omega)]; exact ⟨rfl, fM, FR⟩) | exact (by rw [valF_3 (by omega) (by rw [hbx]; omega) (by rw [hbx]; omega), hbx, hix]; exact ⟨rfl, fM, FR⟩))

set_option maxHeartbeats 4000000 in
set_option maxRecDepth 100000 in
theorem c_X6_root (l : Launch) (D : va_G) (cA : Nat → ClassId) (base : Nat) (pic : PIC) (ad : Nat → Nat) (th cl cnt : Int32) (nb d no ns : Nat) (mac mtp : Nat → Int32) (mvl : Nat → Int64) (mse : Nat → Int32) (msz mpr : Nat → Int32) (mro mfi : Nat → Int64) (B : Nat → Bk) (b : Int32) (fM : pic 1000 = some (ad 1000, moE ad th nb cl cnt d no ns)) (hV : MEv pic cA ad mac mtp mvl mse) (hBl : MBl pic cA ad msz mpr mro mfi) (hB : RelB nb B msz mpr mro mfi mac mtp mvl mse) (hnb : nb ≤ 40)  : CL l yX6_root cX6_root 2 (some .long) { frames := 2, cells := 0, slots := 0, locals := 46 } 0 0 D cA base pic [.ref (ad 1000), .int b] (fun x9 pic1 => x9 = (rooF nb B b).2 ∧ pic1 1000 = some (ad 1000, moE ad (rooF nb B b).1 nb cl cnt d no ns) ∧ ∀ q, ¬ (q = 1000) → pic1 q = pic q) := by
  refine ofL (by decide) (Nat.le_of_ble_eq_true rfl) ?_
  intro p e s m below meth c K hr hlk hnm
  have FR : ∀ q, ¬ (q = 1000) → pic q = pic q := fun _ _ => rfl
  have ⟨mv1, mv2, mv3, mv4⟩ := hV
  have ⟨mb1, mb2, mb3, mb4⟩ := hBl
  refine v_aload_n K 0 dX6_root_0 rfl rfl ?_
  refine v_aload_n K 0 dX6_root_1 rfl rfl ?_
  refine v_iload_n K 1 dX6_root_2 rfl rfl ?_
  refine cl_X6_134 K dX6_root_3 fM (c_X6_isBlock l D cA base pic ad th cl cnt nb d no ns b fM hnb) rfl rfl ⟨by decide, by decide⟩ (Nat.le_of_ble_eq_true rfl) ⟨by decide, by decide⟩ (fun x3 pic1 hx2 => ?_)
  rcases hx2 with ⟨rfl, rfl, hpb⟩ | ⟨rfl, rfl, hqb⟩
  · obtain ⟨j, hj, rfl⟩ := ixN b nb (by omega) (by omega) (by omega)
    obtain ⟨hs, hn, ⟨hp1, hp2⟩, hro, hfi, hEv⟩ := hB j hj
    have hbI := nI_toInt (n := j) (by omega)
    have hbx := bx_nI (j := j) (by omega)
    refine v_if_eq K 13 dX6_root_6 (by decide) rfl (fun c => absurd c (by decide)) (fun _ => ?_)
    refine v_iconst (v := nI 0) K dX6_root_9 (by decide) ?_
    refine v_goto K 14 dX6_root_10 (by decide) ?_
    refine pf_X6_63 K dX6_root_14 fM (Nat.le_of_ble_eq_true rfl) (fun pic5 zg3 zf4 => ?_)
    replace fM := zg3
    replace mv1 := (zf4 _ (by omega)).trans mv1
    replace mv2 := (zf4 _ (by omega)).trans mv2
    replace mv3 := (zf4 _ (by omega)).trans mv3
    replace mv4 := (zf4 _ (by omega)).trans mv4
    replace mb1 := (zf4 _ (by omega)).trans mb1
    replace mb2 := (zf4 _ (by omega)).trans mb2
    replace mb3 := (zf4 _ (by omega)).trans mb3
    replace mb4 := (zf4 _ (by omega)).trans mb4
    have FR : ∀ q, ¬ (q = 1000) → pic5 q = pic q := fun q hq => (zf4 q (by omega)).trans (FR q hq)
    refine v_aload_n K 0 dX6_root_17 rfl rfl ?_
    refine gf_X6_63 K dX6_root_18 fM rfl ?_
    refine v_if_le K 28 dX6_root_21 (by decide) rfl (fun _ => ?_) (fun c => absurd c (by decide))
    refine v_aload_n K 0 dX6_root_28 rfl rfl ?_
    refine gf_X6_30 K dX6_root_29 fM rfl ?_
    refine v_iload_n K 1 dX6_root_32 rfl rfl ?_
    refine v_lald K dX6_root_33 mb3 (by omega) (by decide) ?_
    exact v_lret K dX6_root_34 hr hlk (by decide) (by decide) (by first | exact (by rw [rooF_0 (by omega)]; exact ⟨rfl, fM, FR⟩) | exact (by rw [rooF_1 (by omega), hbx]; exact ⟨hro, fM, FR⟩))
  · refine v_if_eq K 13 dX6_root_6 (by decide) rfl (fun _ => ?_) (fun c => absurd c (by decide))
    refine v_iconst (v := nI 1) K dX6_root_13 (by decide) ?_
    refine pf_X6_63 K dX6_root_14 fM (Nat.le_of_ble_eq_true rfl) (fun pic8 zg6 zf7 => ?_)
    replace fM := zg6
    replace mv1 := (zf7 _ (by omega)).trans mv1
    replace mv2 := (zf7 _ (by omega)).trans mv2
    replace mv3 := (zf7 _ (by omega)).trans mv3
    replace mv4 := (zf7 _ (by omega)).trans mv4
    replace mb1 := (zf7 _ (by omega)).trans mb1
    replace mb2 := (zf7 _ (by omega)).trans mb2
    replace mb3 := (zf7 _ (by omega)).trans mb3
    replace mb4 := (zf7 _ (by omega)).trans mb4
    have FR : ∀ q, ¬ (q = 1000) → pic8 q = pic q := fun q hq => (zf7 q (by omega)).trans (FR q hq)
    refine v_aload_n K 0 dX6_root_17 rfl rfl ?_
    refine gf_X6_63 K dX6_root_18 fM rfl ?_
    refine v_if_le K 28 dX6_root_21 (by decide) rfl (fun c => absurd c (by decide)) (fun _ => ?_)
    refine v_lconst (v := 0) K dX6_root_24 (by decide) ?_
    refine v_goto K 34 dX6_root_25 (by decide) ?_
    exact v_lret K dX6_root_34 hr hlk (by decide) (by decide) (by first | exact (by rw [rooF_0 (by omega)]; exact ⟨rfl, fM, FR⟩) | exact (by rw [rooF_1 (by omega), hbx]; exact ⟨hro, fM, FR⟩))

set_option maxHeartbeats 4000000 in
set_option maxRecDepth 100000 in
theorem c_X6_filter (l : Launch) (D : va_G) (cA : Nat → ClassId) (base : Nat) (pic : PIC) (ad : Nat → Nat) (th cl cnt : Int32) (nb d no ns : Nat) (mac mtp : Nat → Int32) (mvl : Nat → Int64) (mse : Nat → Int32) (msz mpr : Nat → Int32) (mro mfi : Nat → Int64) (B : Nat → Bk) (b : Int32) (fM : pic 1000 = some (ad 1000, moE ad th nb cl cnt d no ns)) (hV : MEv pic cA ad mac mtp mvl mse) (hBl : MBl pic cA ad msz mpr mro mfi) (hB : RelB nb B msz mpr mro mfi mac mtp mvl mse) (hnb : nb ≤ 40)  : CL l yX6_filter cX6_filter 2 (some .long) { frames := 2, cells := 0, slots := 0, locals := 46 } 0 0 D cA base pic [.ref (ad 1000), .int b] (fun x9 pic1 => x9 = (filF nb B b).2 ∧ pic1 1000 = some (ad 1000, moE ad (filF nb B b).1 nb cl cnt d no ns) ∧ ∀ q, ¬ (q = 1000) → pic1 q = pic q) := by
  refine ofL (by decide) (Nat.le_of_ble_eq_true rfl) ?_
  intro p e s m below meth c K hr hlk hnm
  have FR : ∀ q, ¬ (q = 1000) → pic q = pic q := fun _ _ => rfl
  have ⟨mv1, mv2, mv3, mv4⟩ := hV
  have ⟨mb1, mb2, mb3, mb4⟩ := hBl
  refine v_aload_n K 0 dX6_filter_0 rfl rfl ?_
  refine v_aload_n K 0 dX6_filter_1 rfl rfl ?_
  refine v_iload_n K 1 dX6_filter_2 rfl rfl ?_
  refine cl_X6_134 K dX6_filter_3 fM (c_X6_isBlock l D cA base pic ad th cl cnt nb d no ns b fM hnb) rfl rfl ⟨by decide, by decide⟩ (Nat.le_of_ble_eq_true rfl) ⟨by decide, by decide⟩ (fun x3 pic1 hx2 => ?_)
  rcases hx2 with ⟨rfl, rfl, hpb⟩ | ⟨rfl, rfl, hqb⟩
  · obtain ⟨j, hj, rfl⟩ := ixN b nb (by omega) (by omega) (by omega)
    obtain ⟨hs, hn, ⟨hp1, hp2⟩, hro, hfi, hEv⟩ := hB j hj
    have hbI := nI_toInt (n := j) (by omega)
    have hbx := bx_nI (j := j) (by omega)
    refine v_if_eq K 13 dX6_filter_6 (by decide) rfl (fun c => absurd c (by decide)) (fun _ => ?_)
    refine v_iconst (v := nI 0) K dX6_filter_9 (by decide) ?_
    refine v_goto K 14 dX6_filter_10 (by decide) ?_
    refine pf_X6_63 K dX6_filter_14 fM (Nat.le_of_ble_eq_true rfl) (fun pic5 zg3 zf4 => ?_)
    replace fM := zg3
    replace mv1 := (zf4 _ (by omega)).trans mv1
    replace mv2 := (zf4 _ (by omega)).trans mv2
    replace mv3 := (zf4 _ (by omega)).trans mv3
    replace mv4 := (zf4 _ (by omega)).trans mv4
    replace mb1 := (zf4 _ (by omega)).trans mb1
    replace mb2 := (zf4 _ (by omega)).trans mb2
    replace mb3 := (zf4 _ (by omega)).trans mb3
    replace mb4 := (zf4 _ (by omega)).trans mb4
    have FR : ∀ q, ¬ (q = 1000) → pic5 q = pic q := fun q hq => (zf4 q (by omega)).trans (FR q hq)
    refine v_aload_n K 0 dX6_filter_17 rfl rfl ?_
    refine gf_X6_63 K dX6_filter_18 fM rfl ?_
    refine v_if_le K 28 dX6_filter_21 (by decide) rfl (fun _ => ?_) (fun c => absurd c (by decide))
    refine v_aload_n K 0 dX6_filter_28 rfl rfl ?_
    refine gf_X6_33 K dX6_filter_29 fM rfl ?_
    refine v_iload_n K 1 dX6_filter_32 rfl rfl ?_
    refine v_lald K dX6_filter_33 mb4 (by omega) (by decide) ?_
    exact v_lret K dX6_filter_34 hr hlk (by decide) (by decide) (by first | exact (by rw [filF_0 (by omega)]; exact ⟨rfl, fM, FR⟩) | exact (by rw [filF_1 (by omega), hbx]; exact ⟨hfi, fM, FR⟩))
  · refine v_if_eq K 13 dX6_filter_6 (by decide) rfl (fun _ => ?_) (fun c => absurd c (by decide))
    refine v_iconst (v := nI 1) K dX6_filter_13 (by decide) ?_
    refine pf_X6_63 K dX6_filter_14 fM (Nat.le_of_ble_eq_true rfl) (fun pic8 zg6 zf7 => ?_)
    replace fM := zg6
    replace mv1 := (zf7 _ (by omega)).trans mv1
    replace mv2 := (zf7 _ (by omega)).trans mv2
    replace mv3 := (zf7 _ (by omega)).trans mv3
    replace mv4 := (zf7 _ (by omega)).trans mv4
    replace mb1 := (zf7 _ (by omega)).trans mb1
    replace mb2 := (zf7 _ (by omega)).trans mb2
    replace mb3 := (zf7 _ (by omega)).trans mb3
    replace mb4 := (zf7 _ (by omega)).trans mb4
    have FR : ∀ q, ¬ (q = 1000) → pic8 q = pic q := fun q hq => (zf7 q (by omega)).trans (FR q hq)
    refine v_aload_n K 0 dX6_filter_17 rfl rfl ?_
    refine gf_X6_63 K dX6_filter_18 fM rfl ?_
    refine v_if_le K 28 dX6_filter_21 (by decide) rfl (fun c => absurd c (by decide)) (fun _ => ?_)
    refine v_lconst (v := 0) K dX6_filter_24 (by decide) ?_
    refine v_goto K 34 dX6_filter_25 (by decide) ?_
    exact v_lret K dX6_filter_34 hr hlk (by decide) (by decide) (by first | exact (by rw [filF_0 (by omega)]; exact ⟨rfl, fM, FR⟩) | exact (by rw [filF_1 (by omega), hbx]; exact ⟨hfi, fM, FR⟩))

set_option maxHeartbeats 4000000 in
set_option maxRecDepth 100000 in
theorem c_X6_out (l : Launch) (D : va_G) (cA : Nat → ClassId) (base : Nat) (pic : PIC) (ad : Nat → Nat) (th cl cnt : Int32) (nb d no ns : Nat) (dg : Nat → Int64) (k : Int32) (fM : pic 1000 = some (ad 1000, moE ad th nb cl cnt d no ns)) (mw1 : MOut pic cA ad dg) (hno5 : no ≤ 5)  : CL l yX6_out cX6_out 2 (some .long) { frames := 1, cells := 0, slots := 0, locals := 25 } 0 0 D cA base pic [.ref (ad 1000), .int k] (fun x9 pic1 => x9 = (outF no dg k).2 ∧ pic1 1000 = some (ad 1000, moE ad (outF no dg k).1 nb cl cnt d no ns) ∧ ∀ q, ¬ (q = 1000) → pic1 q = pic q) := by
  refine ofL (by decide) (Nat.le_of_ble_eq_true rfl) ?_
  intro p e s m below meth c K hr hlk hnm
  have FR : ∀ q, ¬ (q = 1000) → pic q = pic q := fun _ _ => rfl
  unfold MOut at mw1
  refine v_aload_n K 0 dX6_out_0 rfl rfl ?_
  refine v_iload_n K 1 dX6_out_1 rfl rfl ?_
  refine v_i2l K dX6_out_2 ?_
  refine v_lconst (v := 0) K dX6_out_3 (by decide) ?_
  refine v_aload_n K 0 dX6_out_4 rfl rfl ?_
  refine gf_X6_147 K dX6_out_5 fM rfl ?_
  refine v_iconst (v := nI 1) K dX6_out_8 (by decide) ?_
  refine v_isub K dX6_out_9 ?_
  refine v_i2l K dX6_out_10 ?_
  refine cl_X6_70 K dX6_out_11 (c_X6_in l D cA base pic _ _ _) rfl rfl ⟨by decide, by decide⟩ (Nat.le_of_ble_eq_true rfl) ⟨by decide, by decide⟩ (fun x11 pic1 hx2 => ?_)
  rcases hx2 with ⟨rfl, rfl, hpk⟩ | ⟨rfl, rfl, hqk⟩
  · simp only [i2lT, show (0 : Int64).toInt = 0 from by decide, show (nI no - nI 1).toInt = ((no : Nat) : Int) - 1 from pk_sub_toInt (by omega) (by omega)] at hpk
    refine v_if_eq K 21 dX6_out_14 (by decide) rfl (fun c => absurd c (by decide)) (fun _ => ?_)
    obtain ⟨k1, hk1, rfl⟩ := ixN k no (by omega) (by omega) (by omega)
    have hkI := nI_toInt (n := k1) (by omega)
    have hkx := bx_nI (j := k1) (by omega)
    refine v_iconst (v := nI 0) K dX6_out_17 (by decide) ?_
    refine v_goto K 22 dX6_out_18 (by decide) ?_
    refine pf_X6_63 K dX6_out_22 fM (Nat.le_of_ble_eq_true rfl) (fun pic5 zg3 zf4 => ?_)
    replace fM := zg3
    replace mw1 := (zf4 _ (by omega)).trans mw1
    have FR : ∀ q, ¬ (q = 1000) → pic5 q = pic q := fun q hq => (zf4 q (by omega)).trans (FR q hq)
    refine v_aload_n K 0 dX6_out_25 rfl rfl ?_
    refine gf_X6_63 K dX6_out_26 fM rfl ?_
    refine v_if_le K 36 dX6_out_29 (by decide) rfl (fun _ => ?_) (fun c => absurd c (by decide))
    refine v_aload_n K 0 dX6_out_36 rfl rfl ?_
    refine gf_X6_48 K dX6_out_37 fM rfl ?_
    refine v_iload_n K 1 dX6_out_40 rfl rfl ?_
    refine v_lald K dX6_out_41 mw1 (by omega) (by decide) ?_
    exact v_lret K dX6_out_42 hr hlk (by decide) (by decide) (by first | exact (by rw [outF_0 (by omega)]; exact ⟨rfl, fM, FR⟩) | exact (by rw [outF_1 (by omega), hkx]; exact ⟨rfl, fM, FR⟩))
  · simp only [i2lT, show (0 : Int64).toInt = 0 from by decide, show (nI no - nI 1).toInt = ((no : Nat) : Int) - 1 from pk_sub_toInt (by omega) (by omega)] at hqk
    refine v_if_eq K 21 dX6_out_14 (by decide) rfl (fun _ => ?_) (fun c => absurd c (by decide))
    refine v_iconst (v := nI 1) K dX6_out_21 (by decide) ?_
    refine pf_X6_63 K dX6_out_22 fM (Nat.le_of_ble_eq_true rfl) (fun pic8 zg6 zf7 => ?_)
    replace fM := zg6
    replace mw1 := (zf7 _ (by omega)).trans mw1
    have FR : ∀ q, ¬ (q = 1000) → pic8 q = pic q := fun q hq => (zf7 q (by omega)).trans (FR q hq)
    refine v_aload_n K 0 dX6_out_25 rfl rfl ?_
    refine gf_X6_63 K dX6_out_26 fM rfl ?_
    refine v_if_le K 36 dX6_out_29 (by decide) rfl (fun c => absurd c (by decide)) (fun _ => ?_)
    refine v_lconst (v := 0) K dX6_out_32 (by decide) ?_
    refine v_goto K 42 dX6_out_33 (by decide) ?_
    exact v_lret K dX6_out_42 hr hlk (by decide) (by decide) (by first | exact (by rw [outF_0 (by omega)]; exact ⟨rfl, fM, FR⟩) | exact (by rw [outF_1 (by omega), hkx]; exact ⟨rfl, fM, FR⟩))

set_option maxHeartbeats 4000000 in
set_option maxRecDepth 100000 in
theorem c_X6_init (l : Launch) (D : va_G) (cA : Nat → ClassId) (base : Nat) (pic : PIC) (a0 : Nat) (f0 : pic 1000 = some (a0, .inr (9, [.int 0, .null, .null, .null, .null, .null, .null, .null, .null, .int 0, .int 0, .int 0, .int 0, .null, .null, .null, .null, .null, .int 0, .int 0, .null, .null, .null, .null]))) (HN : ∀ q, 1001 ≤ q → q < 1024 → pic q = none)  : CV l yX6_init cX6_init 1 none { frames := 1, cells := 17, slots := 8129, locals := 12 } 17 8129 D cA base pic [.ref a0] (fun pic1 => ∃ ad : Nat → Nat, ad 1000 = a0 ∧ pic1 1000 = some (ad 1000, moE ad 0 0 0 0 0 0 0) ∧ MCalls pic1 cA ad (fun _ => 0) (fun _ => 0) (fun _ => 0) (fun _ => 0) ∧ MEv pic1 cA ad (fun _ => 0) (fun _ => 0) (fun _ => 0) (fun _ => 0) ∧ MBl pic1 cA ad (fun _ => 0) (fun _ => 0) (fun _ => 0) (fun _ => 0) ∧ MOut pic1 cA ad (fun _ => 0) ∧ MSub pic1 cA ad (fun _ => 0) (fun _ => 0) (fun _ => 0) ∧ MLev pic1 cA ad (fun _ => 0) ∧ ∀ q, ¬ (1000 ≤ q ∧ q < 1024) → pic1 q = pic q) := by
  refine ofV (by decide) (Nat.le_of_ble_eq_true rfl) ?_
  intro p e s m below meth c K hr hlk hnm
  have FR : ∀ q, ¬ (1000 ≤ q ∧ q < 1024) → pic q = pic q := fun _ _ => rfl
  have z1001 := HN 1001 (by omega) (by omega)
  have z1002 := HN 1002 (by omega) (by omega)
  have z1003 := HN 1003 (by omega) (by omega)
  have z1004 := HN 1004 (by omega) (by omega)
  have z1005 := HN 1005 (by omega) (by omega)
  have z1006 := HN 1006 (by omega) (by omega)
  have z1007 := HN 1007 (by omega) (by omega)
  have z1008 := HN 1008 (by omega) (by omega)
  have z1013 := HN 1013 (by omega) (by omega)
  have z1014 := HN 1014 (by omega) (by omega)
  have z1015 := HN 1015 (by omega) (by omega)
  have z1016 := HN 1016 (by omega) (by omega)
  have z1017 := HN 1017 (by omega) (by omega)
  have z1020 := HN 1020 (by omega) (by omega)
  have z1021 := HN 1021 (by omega) (by omega)
  have z1022 := HN 1022 (by omega) (by omega)
  have z1023 := HN 1023 (by omega) (by omega)
  refine v_aload_n K 0 dX6_init_0 rfl rfl ?_
  refine v_objInit K gw_62 gw_12 gw_13 dX6_init_1 (by decide) (Nat.le_of_ble_eq_true rfl) ?_
  refine v_aload_n K 0 dX6_init_4 rfl rfl ?_
  refine v_sipush (v := nI 1312) K dX6_init_5 (by decide) ?_
  refine v_newI K (1001) gw_36 dX6_init_8 (z1001) (by decide) (by decide) (by decide) (fun r1001 pic1 mv1 zf2 => ?_)
  replace f0 := (zf2 _ (by omega)).trans f0
  replace z1002 := (zf2 _ (by omega)).trans z1002
  replace z1003 := (zf2 _ (by omega)).trans z1003
  replace z1004 := (zf2 _ (by omega)).trans z1004
  replace z1005 := (zf2 _ (by omega)).trans z1005
  replace z1006 := (zf2 _ (by omega)).trans z1006
  replace z1007 := (zf2 _ (by omega)).trans z1007
  replace z1008 := (zf2 _ (by omega)).trans z1008
  replace z1013 := (zf2 _ (by omega)).trans z1013
  replace z1014 := (zf2 _ (by omega)).trans z1014
  replace z1015 := (zf2 _ (by omega)).trans z1015
  replace z1016 := (zf2 _ (by omega)).trans z1016
  replace z1017 := (zf2 _ (by omega)).trans z1017
  replace z1020 := (zf2 _ (by omega)).trans z1020
  replace z1021 := (zf2 _ (by omega)).trans z1021
  replace z1022 := (zf2 _ (by omega)).trans z1022
  replace z1023 := (zf2 _ (by omega)).trans z1023
  have FR : ∀ q, ¬ (1000 ≤ q ∧ q < 1024) → pic1 q = pic q := fun q hq => (zf2 q (by omega)).trans (FR q hq)
  refine pf_X6_7 K hnm dX6_init_10 f0 (Nat.le_of_ble_eq_true rfl) (fun pic5 zg3 zf4 => ?_)
  replace f0 := zg3
  replace z1002 := (zf4 _ (by omega)).trans z1002
  replace z1003 := (zf4 _ (by omega)).trans z1003
  replace z1004 := (zf4 _ (by omega)).trans z1004
  replace z1005 := (zf4 _ (by omega)).trans z1005
  replace z1006 := (zf4 _ (by omega)).trans z1006
  replace z1007 := (zf4 _ (by omega)).trans z1007
  replace z1008 := (zf4 _ (by omega)).trans z1008
  replace z1013 := (zf4 _ (by omega)).trans z1013
  replace z1014 := (zf4 _ (by omega)).trans z1014
  replace z1015 := (zf4 _ (by omega)).trans z1015
  replace z1016 := (zf4 _ (by omega)).trans z1016
  replace z1017 := (zf4 _ (by omega)).trans z1017
  replace z1020 := (zf4 _ (by omega)).trans z1020
  replace z1021 := (zf4 _ (by omega)).trans z1021
  replace z1022 := (zf4 _ (by omega)).trans z1022
  replace z1023 := (zf4 _ (by omega)).trans z1023
  replace mv1 := (zf4 _ (by omega)).trans mv1
  have FR : ∀ q, ¬ (1000 ≤ q ∧ q < 1024) → pic5 q = pic q := fun q hq => (zf4 q (by omega)).trans (FR q hq)
  refine v_aload_n K 0 dX6_init_13 rfl rfl ?_
  refine v_sipush (v := nI 3936) K dX6_init_14 (by decide) ?_
  refine v_newI K (1002) gw_36 dX6_init_17 (z1002) (by decide) (by decide) (by decide) (fun r1002 pic6 mv2 zf7 => ?_)
  replace f0 := (zf7 _ (by omega)).trans f0
  replace z1003 := (zf7 _ (by omega)).trans z1003
  replace z1004 := (zf7 _ (by omega)).trans z1004
  replace z1005 := (zf7 _ (by omega)).trans z1005
  replace z1006 := (zf7 _ (by omega)).trans z1006
  replace z1007 := (zf7 _ (by omega)).trans z1007
  replace z1008 := (zf7 _ (by omega)).trans z1008
  replace z1013 := (zf7 _ (by omega)).trans z1013
  replace z1014 := (zf7 _ (by omega)).trans z1014
  replace z1015 := (zf7 _ (by omega)).trans z1015
  replace z1016 := (zf7 _ (by omega)).trans z1016
  replace z1017 := (zf7 _ (by omega)).trans z1017
  replace z1020 := (zf7 _ (by omega)).trans z1020
  replace z1021 := (zf7 _ (by omega)).trans z1021
  replace z1022 := (zf7 _ (by omega)).trans z1022
  replace z1023 := (zf7 _ (by omega)).trans z1023
  replace mv1 := (zf7 _ (by omega)).trans mv1
  have FR : ∀ q, ¬ (1000 ≤ q ∧ q < 1024) → pic6 q = pic q := fun q hq => (zf7 q (by omega)).trans (FR q hq)
  refine pf_X6_13 K hnm dX6_init_19 f0 (Nat.le_of_ble_eq_true rfl) (fun pic10 zg8 zf9 => ?_)
  replace f0 := zg8
  replace z1003 := (zf9 _ (by omega)).trans z1003
  replace z1004 := (zf9 _ (by omega)).trans z1004
  replace z1005 := (zf9 _ (by omega)).trans z1005
  replace z1006 := (zf9 _ (by omega)).trans z1006
  replace z1007 := (zf9 _ (by omega)).trans z1007
  replace z1008 := (zf9 _ (by omega)).trans z1008
  replace z1013 := (zf9 _ (by omega)).trans z1013
  replace z1014 := (zf9 _ (by omega)).trans z1014
  replace z1015 := (zf9 _ (by omega)).trans z1015
  replace z1016 := (zf9 _ (by omega)).trans z1016
  replace z1017 := (zf9 _ (by omega)).trans z1017
  replace z1020 := (zf9 _ (by omega)).trans z1020
  replace z1021 := (zf9 _ (by omega)).trans z1021
  replace z1022 := (zf9 _ (by omega)).trans z1022
  replace z1023 := (zf9 _ (by omega)).trans z1023
  replace mv1 := (zf9 _ (by omega)).trans mv1
  replace mv2 := (zf9 _ (by omega)).trans mv2
  have FR : ∀ q, ¬ (1000 ≤ q ∧ q < 1024) → pic10 q = pic q := fun q hq => (zf9 q (by omega)).trans (FR q hq)
  refine v_aload_n K 0 dX6_init_22 rfl rfl ?_
  refine v_sipush (v := nI 1312) K dX6_init_23 (by decide) ?_
  refine v_newL K (1003) gw_6 dX6_init_26 (z1003) (by decide) (by decide) (by decide) (fun r1003 pic11 mv3 zf12 => ?_)
  replace f0 := (zf12 _ (by omega)).trans f0
  replace z1004 := (zf12 _ (by omega)).trans z1004
  replace z1005 := (zf12 _ (by omega)).trans z1005
  replace z1006 := (zf12 _ (by omega)).trans z1006
  replace z1007 := (zf12 _ (by omega)).trans z1007
  replace z1008 := (zf12 _ (by omega)).trans z1008
  replace z1013 := (zf12 _ (by omega)).trans z1013
  replace z1014 := (zf12 _ (by omega)).trans z1014
  replace z1015 := (zf12 _ (by omega)).trans z1015
  replace z1016 := (zf12 _ (by omega)).trans z1016
  replace z1017 := (zf12 _ (by omega)).trans z1017
  replace z1020 := (zf12 _ (by omega)).trans z1020
  replace z1021 := (zf12 _ (by omega)).trans z1021
  replace z1022 := (zf12 _ (by omega)).trans z1022
  replace z1023 := (zf12 _ (by omega)).trans z1023
  replace mv1 := (zf12 _ (by omega)).trans mv1
  replace mv2 := (zf12 _ (by omega)).trans mv2
  have FR : ∀ q, ¬ (1000 ≤ q ∧ q < 1024) → pic11 q = pic q := fun q hq => (zf12 q (by omega)).trans (FR q hq)
  refine pf_X6_16 K hnm dX6_init_28 f0 (Nat.le_of_ble_eq_true rfl) (fun pic15 zg13 zf14 => ?_)
  replace f0 := zg13
  replace z1004 := (zf14 _ (by omega)).trans z1004
  replace z1005 := (zf14 _ (by omega)).trans z1005
  replace z1006 := (zf14 _ (by omega)).trans z1006
  replace z1007 := (zf14 _ (by omega)).trans z1007
  replace z1008 := (zf14 _ (by omega)).trans z1008
  replace z1013 := (zf14 _ (by omega)).trans z1013
  replace z1014 := (zf14 _ (by omega)).trans z1014
  replace z1015 := (zf14 _ (by omega)).trans z1015
  replace z1016 := (zf14 _ (by omega)).trans z1016
  replace z1017 := (zf14 _ (by omega)).trans z1017
  replace z1020 := (zf14 _ (by omega)).trans z1020
  replace z1021 := (zf14 _ (by omega)).trans z1021
  replace z1022 := (zf14 _ (by omega)).trans z1022
  replace z1023 := (zf14 _ (by omega)).trans z1023
  replace mv1 := (zf14 _ (by omega)).trans mv1
  replace mv2 := (zf14 _ (by omega)).trans mv2
  replace mv3 := (zf14 _ (by omega)).trans mv3
  have FR : ∀ q, ¬ (1000 ≤ q ∧ q < 1024) → pic15 q = pic q := fun q hq => (zf14 q (by omega)).trans (FR q hq)
  refine v_aload_n K 0 dX6_init_31 rfl rfl ?_
  refine v_sipush (v := nI 1312) K dX6_init_32 (by decide) ?_
  refine v_newI K (1004) gw_36 dX6_init_35 (z1004) (by decide) (by decide) (by decide) (fun r1004 pic16 mv4 zf17 => ?_)
  replace f0 := (zf17 _ (by omega)).trans f0
  replace z1005 := (zf17 _ (by omega)).trans z1005
  replace z1006 := (zf17 _ (by omega)).trans z1006
  replace z1007 := (zf17 _ (by omega)).trans z1007
  replace z1008 := (zf17 _ (by omega)).trans z1008
  replace z1013 := (zf17 _ (by omega)).trans z1013
  replace z1014 := (zf17 _ (by omega)).trans z1014
  replace z1015 := (zf17 _ (by omega)).trans z1015
  replace z1016 := (zf17 _ (by omega)).trans z1016
  replace z1017 := (zf17 _ (by omega)).trans z1017
  replace z1020 := (zf17 _ (by omega)).trans z1020
  replace z1021 := (zf17 _ (by omega)).trans z1021
  replace z1022 := (zf17 _ (by omega)).trans z1022
  replace z1023 := (zf17 _ (by omega)).trans z1023
  replace mv1 := (zf17 _ (by omega)).trans mv1
  replace mv2 := (zf17 _ (by omega)).trans mv2
  replace mv3 := (zf17 _ (by omega)).trans mv3
  have FR : ∀ q, ¬ (1000 ≤ q ∧ q < 1024) → pic16 q = pic q := fun q hq => (zf17 q (by omega)).trans (FR q hq)
  refine pf_X6_20 K hnm dX6_init_37 f0 (Nat.le_of_ble_eq_true rfl) (fun pic20 zg18 zf19 => ?_)
  replace f0 := zg18
  replace z1005 := (zf19 _ (by omega)).trans z1005
  replace z1006 := (zf19 _ (by omega)).trans z1006
  replace z1007 := (zf19 _ (by omega)).trans z1007
  replace z1008 := (zf19 _ (by omega)).trans z1008
  replace z1013 := (zf19 _ (by omega)).trans z1013
  replace z1014 := (zf19 _ (by omega)).trans z1014
  replace z1015 := (zf19 _ (by omega)).trans z1015
  replace z1016 := (zf19 _ (by omega)).trans z1016
  replace z1017 := (zf19 _ (by omega)).trans z1017
  replace z1020 := (zf19 _ (by omega)).trans z1020
  replace z1021 := (zf19 _ (by omega)).trans z1021
  replace z1022 := (zf19 _ (by omega)).trans z1022
  replace z1023 := (zf19 _ (by omega)).trans z1023
  replace mv1 := (zf19 _ (by omega)).trans mv1
  replace mv2 := (zf19 _ (by omega)).trans mv2
  replace mv3 := (zf19 _ (by omega)).trans mv3
  replace mv4 := (zf19 _ (by omega)).trans mv4
  have FR : ∀ q, ¬ (1000 ≤ q ∧ q < 1024) → pic20 q = pic q := fun q hq => (zf19 q (by omega)).trans (FR q hq)
  refine v_aload_n K 0 dX6_init_40 rfl rfl ?_
  refine v_bipush (v := nI 41) K dX6_init_41 (by decide) ?_
  refine v_newI K (1005) gw_36 dX6_init_43 (z1005) (by decide) (by decide) (by decide) (fun r1005 pic21 mb1 zf22 => ?_)
  replace f0 := (zf22 _ (by omega)).trans f0
  replace z1006 := (zf22 _ (by omega)).trans z1006
  replace z1007 := (zf22 _ (by omega)).trans z1007
  replace z1008 := (zf22 _ (by omega)).trans z1008
  replace z1013 := (zf22 _ (by omega)).trans z1013
  replace z1014 := (zf22 _ (by omega)).trans z1014
  replace z1015 := (zf22 _ (by omega)).trans z1015
  replace z1016 := (zf22 _ (by omega)).trans z1016
  replace z1017 := (zf22 _ (by omega)).trans z1017
  replace z1020 := (zf22 _ (by omega)).trans z1020
  replace z1021 := (zf22 _ (by omega)).trans z1021
  replace z1022 := (zf22 _ (by omega)).trans z1022
  replace z1023 := (zf22 _ (by omega)).trans z1023
  replace mv1 := (zf22 _ (by omega)).trans mv1
  replace mv2 := (zf22 _ (by omega)).trans mv2
  replace mv3 := (zf22 _ (by omega)).trans mv3
  replace mv4 := (zf22 _ (by omega)).trans mv4
  have FR : ∀ q, ¬ (1000 ≤ q ∧ q < 1024) → pic21 q = pic q := fun q hq => (zf22 q (by omega)).trans (FR q hq)
  refine pf_X6_23 K hnm dX6_init_45 f0 (Nat.le_of_ble_eq_true rfl) (fun pic25 zg23 zf24 => ?_)
  replace f0 := zg23
  replace z1006 := (zf24 _ (by omega)).trans z1006
  replace z1007 := (zf24 _ (by omega)).trans z1007
  replace z1008 := (zf24 _ (by omega)).trans z1008
  replace z1013 := (zf24 _ (by omega)).trans z1013
  replace z1014 := (zf24 _ (by omega)).trans z1014
  replace z1015 := (zf24 _ (by omega)).trans z1015
  replace z1016 := (zf24 _ (by omega)).trans z1016
  replace z1017 := (zf24 _ (by omega)).trans z1017
  replace z1020 := (zf24 _ (by omega)).trans z1020
  replace z1021 := (zf24 _ (by omega)).trans z1021
  replace z1022 := (zf24 _ (by omega)).trans z1022
  replace z1023 := (zf24 _ (by omega)).trans z1023
  replace mv1 := (zf24 _ (by omega)).trans mv1
  replace mv2 := (zf24 _ (by omega)).trans mv2
  replace mv3 := (zf24 _ (by omega)).trans mv3
  replace mv4 := (zf24 _ (by omega)).trans mv4
  replace mb1 := (zf24 _ (by omega)).trans mb1
  have FR : ∀ q, ¬ (1000 ≤ q ∧ q < 1024) → pic25 q = pic q := fun q hq => (zf24 q (by omega)).trans (FR q hq)
  refine v_aload_n K 0 dX6_init_48 rfl rfl ?_
  refine v_bipush (v := nI 41) K dX6_init_49 (by decide) ?_
  refine v_newZ K (1006) gw_40 dX6_init_51 (z1006) (by decide) (by decide) (by decide) (fun r1006 pic26 mb2 zf27 => ?_)
  replace f0 := (zf27 _ (by omega)).trans f0
  replace z1007 := (zf27 _ (by omega)).trans z1007
  replace z1008 := (zf27 _ (by omega)).trans z1008
  replace z1013 := (zf27 _ (by omega)).trans z1013
  replace z1014 := (zf27 _ (by omega)).trans z1014
  replace z1015 := (zf27 _ (by omega)).trans z1015
  replace z1016 := (zf27 _ (by omega)).trans z1016
  replace z1017 := (zf27 _ (by omega)).trans z1017
  replace z1020 := (zf27 _ (by omega)).trans z1020
  replace z1021 := (zf27 _ (by omega)).trans z1021
  replace z1022 := (zf27 _ (by omega)).trans z1022
  replace z1023 := (zf27 _ (by omega)).trans z1023
  replace mv1 := (zf27 _ (by omega)).trans mv1
  replace mv2 := (zf27 _ (by omega)).trans mv2
  replace mv3 := (zf27 _ (by omega)).trans mv3
  replace mv4 := (zf27 _ (by omega)).trans mv4
  replace mb1 := (zf27 _ (by omega)).trans mb1
  have FR : ∀ q, ¬ (1000 ≤ q ∧ q < 1024) → pic26 q = pic q := fun q hq => (zf27 q (by omega)).trans (FR q hq)
  refine pf_X6_26 K hnm dX6_init_53 f0 (Nat.le_of_ble_eq_true rfl) (fun pic30 zg28 zf29 => ?_)
  replace f0 := zg28
  replace z1007 := (zf29 _ (by omega)).trans z1007
  replace z1008 := (zf29 _ (by omega)).trans z1008
  replace z1013 := (zf29 _ (by omega)).trans z1013
  replace z1014 := (zf29 _ (by omega)).trans z1014
  replace z1015 := (zf29 _ (by omega)).trans z1015
  replace z1016 := (zf29 _ (by omega)).trans z1016
  replace z1017 := (zf29 _ (by omega)).trans z1017
  replace z1020 := (zf29 _ (by omega)).trans z1020
  replace z1021 := (zf29 _ (by omega)).trans z1021
  replace z1022 := (zf29 _ (by omega)).trans z1022
  replace z1023 := (zf29 _ (by omega)).trans z1023
  replace mv1 := (zf29 _ (by omega)).trans mv1
  replace mv2 := (zf29 _ (by omega)).trans mv2
  replace mv3 := (zf29 _ (by omega)).trans mv3
  replace mv4 := (zf29 _ (by omega)).trans mv4
  replace mb1 := (zf29 _ (by omega)).trans mb1
  replace mb2 := (zf29 _ (by omega)).trans mb2
  have FR : ∀ q, ¬ (1000 ≤ q ∧ q < 1024) → pic30 q = pic q := fun q hq => (zf29 q (by omega)).trans (FR q hq)
  refine v_aload_n K 0 dX6_init_56 rfl rfl ?_
  refine v_bipush (v := nI 41) K dX6_init_57 (by decide) ?_
  refine v_newL K (1007) gw_6 dX6_init_59 (z1007) (by decide) (by decide) (by decide) (fun r1007 pic31 mb3 zf32 => ?_)
  replace f0 := (zf32 _ (by omega)).trans f0
  replace z1008 := (zf32 _ (by omega)).trans z1008
  replace z1013 := (zf32 _ (by omega)).trans z1013
  replace z1014 := (zf32 _ (by omega)).trans z1014
  replace z1015 := (zf32 _ (by omega)).trans z1015
  replace z1016 := (zf32 _ (by omega)).trans z1016
  replace z1017 := (zf32 _ (by omega)).trans z1017
  replace z1020 := (zf32 _ (by omega)).trans z1020
  replace z1021 := (zf32 _ (by omega)).trans z1021
  replace z1022 := (zf32 _ (by omega)).trans z1022
  replace z1023 := (zf32 _ (by omega)).trans z1023
  replace mv1 := (zf32 _ (by omega)).trans mv1
  replace mv2 := (zf32 _ (by omega)).trans mv2
  replace mv3 := (zf32 _ (by omega)).trans mv3
  replace mv4 := (zf32 _ (by omega)).trans mv4
  replace mb1 := (zf32 _ (by omega)).trans mb1
  replace mb2 := (zf32 _ (by omega)).trans mb2
  have FR : ∀ q, ¬ (1000 ≤ q ∧ q < 1024) → pic31 q = pic q := fun q hq => (zf32 q (by omega)).trans (FR q hq)
  refine pf_X6_30 K hnm dX6_init_61 f0 (Nat.le_of_ble_eq_true rfl) (fun pic35 zg33 zf34 => ?_)
  replace f0 := zg33
  replace z1008 := (zf34 _ (by omega)).trans z1008
  replace z1013 := (zf34 _ (by omega)).trans z1013
  replace z1014 := (zf34 _ (by omega)).trans z1014
  replace z1015 := (zf34 _ (by omega)).trans z1015
  replace z1016 := (zf34 _ (by omega)).trans z1016
  replace z1017 := (zf34 _ (by omega)).trans z1017
  replace z1020 := (zf34 _ (by omega)).trans z1020
  replace z1021 := (zf34 _ (by omega)).trans z1021
  replace z1022 := (zf34 _ (by omega)).trans z1022
  replace z1023 := (zf34 _ (by omega)).trans z1023
  replace mv1 := (zf34 _ (by omega)).trans mv1
  replace mv2 := (zf34 _ (by omega)).trans mv2
  replace mv3 := (zf34 _ (by omega)).trans mv3
  replace mv4 := (zf34 _ (by omega)).trans mv4
  replace mb1 := (zf34 _ (by omega)).trans mb1
  replace mb2 := (zf34 _ (by omega)).trans mb2
  replace mb3 := (zf34 _ (by omega)).trans mb3
  have FR : ∀ q, ¬ (1000 ≤ q ∧ q < 1024) → pic35 q = pic q := fun q hq => (zf34 q (by omega)).trans (FR q hq)
  refine v_aload_n K 0 dX6_init_64 rfl rfl ?_
  refine v_bipush (v := nI 41) K dX6_init_65 (by decide) ?_
  refine v_newL K (1008) gw_6 dX6_init_67 (z1008) (by decide) (by decide) (by decide) (fun r1008 pic36 mb4 zf37 => ?_)
  replace f0 := (zf37 _ (by omega)).trans f0
  replace z1013 := (zf37 _ (by omega)).trans z1013
  replace z1014 := (zf37 _ (by omega)).trans z1014
  replace z1015 := (zf37 _ (by omega)).trans z1015
  replace z1016 := (zf37 _ (by omega)).trans z1016
  replace z1017 := (zf37 _ (by omega)).trans z1017
  replace z1020 := (zf37 _ (by omega)).trans z1020
  replace z1021 := (zf37 _ (by omega)).trans z1021
  replace z1022 := (zf37 _ (by omega)).trans z1022
  replace z1023 := (zf37 _ (by omega)).trans z1023
  replace mv1 := (zf37 _ (by omega)).trans mv1
  replace mv2 := (zf37 _ (by omega)).trans mv2
  replace mv3 := (zf37 _ (by omega)).trans mv3
  replace mv4 := (zf37 _ (by omega)).trans mv4
  replace mb1 := (zf37 _ (by omega)).trans mb1
  replace mb2 := (zf37 _ (by omega)).trans mb2
  replace mb3 := (zf37 _ (by omega)).trans mb3
  have FR : ∀ q, ¬ (1000 ≤ q ∧ q < 1024) → pic36 q = pic q := fun q hq => (zf37 q (by omega)).trans (FR q hq)
  refine pf_X6_33 K hnm dX6_init_69 f0 (Nat.le_of_ble_eq_true rfl) (fun pic40 zg38 zf39 => ?_)
  replace f0 := zg38
  replace z1013 := (zf39 _ (by omega)).trans z1013
  replace z1014 := (zf39 _ (by omega)).trans z1014
  replace z1015 := (zf39 _ (by omega)).trans z1015
  replace z1016 := (zf39 _ (by omega)).trans z1016
  replace z1017 := (zf39 _ (by omega)).trans z1017
  replace z1020 := (zf39 _ (by omega)).trans z1020
  replace z1021 := (zf39 _ (by omega)).trans z1021
  replace z1022 := (zf39 _ (by omega)).trans z1022
  replace z1023 := (zf39 _ (by omega)).trans z1023
  replace mv1 := (zf39 _ (by omega)).trans mv1
  replace mv2 := (zf39 _ (by omega)).trans mv2
  replace mv3 := (zf39 _ (by omega)).trans mv3
  replace mv4 := (zf39 _ (by omega)).trans mv4
  replace mb1 := (zf39 _ (by omega)).trans mb1
  replace mb2 := (zf39 _ (by omega)).trans mb2
  replace mb3 := (zf39 _ (by omega)).trans mb3
  replace mb4 := (zf39 _ (by omega)).trans mb4
  have FR : ∀ q, ¬ (1000 ≤ q ∧ q < 1024) → pic40 q = pic q := fun q hq => (zf39 q (by omega)).trans (FR q hq)
  refine v_aload_n K 0 dX6_init_72 rfl rfl ?_
  refine v_bipush (v := nI 8) K dX6_init_73 (by decide) ?_
  refine v_newI K (1013) gw_36 dX6_init_75 (z1013) (by decide) (by decide) (by decide) (fun r1013 pic41 mc1 zf42 => ?_)
  replace f0 := (zf42 _ (by omega)).trans f0
  replace z1014 := (zf42 _ (by omega)).trans z1014
  replace z1015 := (zf42 _ (by omega)).trans z1015
  replace z1016 := (zf42 _ (by omega)).trans z1016
  replace z1017 := (zf42 _ (by omega)).trans z1017
  replace z1020 := (zf42 _ (by omega)).trans z1020
  replace z1021 := (zf42 _ (by omega)).trans z1021
  replace z1022 := (zf42 _ (by omega)).trans z1022
  replace z1023 := (zf42 _ (by omega)).trans z1023
  replace mv1 := (zf42 _ (by omega)).trans mv1
  replace mv2 := (zf42 _ (by omega)).trans mv2
  replace mv3 := (zf42 _ (by omega)).trans mv3
  replace mv4 := (zf42 _ (by omega)).trans mv4
  replace mb1 := (zf42 _ (by omega)).trans mb1
  replace mb2 := (zf42 _ (by omega)).trans mb2
  replace mb3 := (zf42 _ (by omega)).trans mb3
  replace mb4 := (zf42 _ (by omega)).trans mb4
  have FR : ∀ q, ¬ (1000 ≤ q ∧ q < 1024) → pic41 q = pic q := fun q hq => (zf42 q (by omega)).trans (FR q hq)
  refine pf_X6_36 K hnm dX6_init_77 f0 (Nat.le_of_ble_eq_true rfl) (fun pic45 zg43 zf44 => ?_)
  replace f0 := zg43
  replace z1014 := (zf44 _ (by omega)).trans z1014
  replace z1015 := (zf44 _ (by omega)).trans z1015
  replace z1016 := (zf44 _ (by omega)).trans z1016
  replace z1017 := (zf44 _ (by omega)).trans z1017
  replace z1020 := (zf44 _ (by omega)).trans z1020
  replace z1021 := (zf44 _ (by omega)).trans z1021
  replace z1022 := (zf44 _ (by omega)).trans z1022
  replace z1023 := (zf44 _ (by omega)).trans z1023
  replace mv1 := (zf44 _ (by omega)).trans mv1
  replace mv2 := (zf44 _ (by omega)).trans mv2
  replace mv3 := (zf44 _ (by omega)).trans mv3
  replace mv4 := (zf44 _ (by omega)).trans mv4
  replace mb1 := (zf44 _ (by omega)).trans mb1
  replace mb2 := (zf44 _ (by omega)).trans mb2
  replace mb3 := (zf44 _ (by omega)).trans mb3
  replace mb4 := (zf44 _ (by omega)).trans mb4
  replace mc1 := (zf44 _ (by omega)).trans mc1
  have FR : ∀ q, ¬ (1000 ≤ q ∧ q < 1024) → pic45 q = pic q := fun q hq => (zf44 q (by omega)).trans (FR q hq)
  refine v_aload_n K 0 dX6_init_80 rfl rfl ?_
  refine v_bipush (v := nI 8) K dX6_init_81 (by decide) ?_
  refine v_newI K (1014) gw_36 dX6_init_83 (z1014) (by decide) (by decide) (by decide) (fun r1014 pic46 mc2 zf47 => ?_)
  replace f0 := (zf47 _ (by omega)).trans f0
  replace z1015 := (zf47 _ (by omega)).trans z1015
  replace z1016 := (zf47 _ (by omega)).trans z1016
  replace z1017 := (zf47 _ (by omega)).trans z1017
  replace z1020 := (zf47 _ (by omega)).trans z1020
  replace z1021 := (zf47 _ (by omega)).trans z1021
  replace z1022 := (zf47 _ (by omega)).trans z1022
  replace z1023 := (zf47 _ (by omega)).trans z1023
  replace mv1 := (zf47 _ (by omega)).trans mv1
  replace mv2 := (zf47 _ (by omega)).trans mv2
  replace mv3 := (zf47 _ (by omega)).trans mv3
  replace mv4 := (zf47 _ (by omega)).trans mv4
  replace mb1 := (zf47 _ (by omega)).trans mb1
  replace mb2 := (zf47 _ (by omega)).trans mb2
  replace mb3 := (zf47 _ (by omega)).trans mb3
  replace mb4 := (zf47 _ (by omega)).trans mb4
  replace mc1 := (zf47 _ (by omega)).trans mc1
  have FR : ∀ q, ¬ (1000 ≤ q ∧ q < 1024) → pic46 q = pic q := fun q hq => (zf47 q (by omega)).trans (FR q hq)
  refine pf_X6_39 K hnm dX6_init_85 f0 (Nat.le_of_ble_eq_true rfl) (fun pic50 zg48 zf49 => ?_)
  replace f0 := zg48
  replace z1015 := (zf49 _ (by omega)).trans z1015
  replace z1016 := (zf49 _ (by omega)).trans z1016
  replace z1017 := (zf49 _ (by omega)).trans z1017
  replace z1020 := (zf49 _ (by omega)).trans z1020
  replace z1021 := (zf49 _ (by omega)).trans z1021
  replace z1022 := (zf49 _ (by omega)).trans z1022
  replace z1023 := (zf49 _ (by omega)).trans z1023
  replace mv1 := (zf49 _ (by omega)).trans mv1
  replace mv2 := (zf49 _ (by omega)).trans mv2
  replace mv3 := (zf49 _ (by omega)).trans mv3
  replace mv4 := (zf49 _ (by omega)).trans mv4
  replace mb1 := (zf49 _ (by omega)).trans mb1
  replace mb2 := (zf49 _ (by omega)).trans mb2
  replace mb3 := (zf49 _ (by omega)).trans mb3
  replace mb4 := (zf49 _ (by omega)).trans mb4
  replace mc1 := (zf49 _ (by omega)).trans mc1
  replace mc2 := (zf49 _ (by omega)).trans mc2
  have FR : ∀ q, ¬ (1000 ≤ q ∧ q < 1024) → pic50 q = pic q := fun q hq => (zf49 q (by omega)).trans (FR q hq)
  refine v_aload_n K 0 dX6_init_88 rfl rfl ?_
  refine v_bipush (v := nI 8) K dX6_init_89 (by decide) ?_
  refine v_newZ K (1015) gw_40 dX6_init_91 (z1015) (by decide) (by decide) (by decide) (fun r1015 pic51 mc3 zf52 => ?_)
  replace f0 := (zf52 _ (by omega)).trans f0
  replace z1016 := (zf52 _ (by omega)).trans z1016
  replace z1017 := (zf52 _ (by omega)).trans z1017
  replace z1020 := (zf52 _ (by omega)).trans z1020
  replace z1021 := (zf52 _ (by omega)).trans z1021
  replace z1022 := (zf52 _ (by omega)).trans z1022
  replace z1023 := (zf52 _ (by omega)).trans z1023
  replace mv1 := (zf52 _ (by omega)).trans mv1
  replace mv2 := (zf52 _ (by omega)).trans mv2
  replace mv3 := (zf52 _ (by omega)).trans mv3
  replace mv4 := (zf52 _ (by omega)).trans mv4
  replace mb1 := (zf52 _ (by omega)).trans mb1
  replace mb2 := (zf52 _ (by omega)).trans mb2
  replace mb3 := (zf52 _ (by omega)).trans mb3
  replace mb4 := (zf52 _ (by omega)).trans mb4
  replace mc1 := (zf52 _ (by omega)).trans mc1
  replace mc2 := (zf52 _ (by omega)).trans mc2
  have FR : ∀ q, ¬ (1000 ≤ q ∧ q < 1024) → pic51 q = pic q := fun q hq => (zf52 q (by omega)).trans (FR q hq)
  refine pf_X6_42 K hnm dX6_init_93 f0 (Nat.le_of_ble_eq_true rfl) (fun pic55 zg53 zf54 => ?_)
  replace f0 := zg53
  replace z1016 := (zf54 _ (by omega)).trans z1016
  replace z1017 := (zf54 _ (by omega)).trans z1017
  replace z1020 := (zf54 _ (by omega)).trans z1020
  replace z1021 := (zf54 _ (by omega)).trans z1021
  replace z1022 := (zf54 _ (by omega)).trans z1022
  replace z1023 := (zf54 _ (by omega)).trans z1023
  replace mv1 := (zf54 _ (by omega)).trans mv1
  replace mv2 := (zf54 _ (by omega)).trans mv2
  replace mv3 := (zf54 _ (by omega)).trans mv3
  replace mv4 := (zf54 _ (by omega)).trans mv4
  replace mb1 := (zf54 _ (by omega)).trans mb1
  replace mb2 := (zf54 _ (by omega)).trans mb2
  replace mb3 := (zf54 _ (by omega)).trans mb3
  replace mb4 := (zf54 _ (by omega)).trans mb4
  replace mc1 := (zf54 _ (by omega)).trans mc1
  replace mc2 := (zf54 _ (by omega)).trans mc2
  replace mc3 := (zf54 _ (by omega)).trans mc3
  have FR : ∀ q, ¬ (1000 ≤ q ∧ q < 1024) → pic55 q = pic q := fun q hq => (zf54 q (by omega)).trans (FR q hq)
  refine v_aload_n K 0 dX6_init_96 rfl rfl ?_
  refine v_bipush (v := nI 8) K dX6_init_97 (by decide) ?_
  refine v_newI K (1016) gw_36 dX6_init_99 (z1016) (by decide) (by decide) (by decide) (fun r1016 pic56 mc4 zf57 => ?_)
  replace f0 := (zf57 _ (by omega)).trans f0
  replace z1017 := (zf57 _ (by omega)).trans z1017
  replace z1020 := (zf57 _ (by omega)).trans z1020
  replace z1021 := (zf57 _ (by omega)).trans z1021
  replace z1022 := (zf57 _ (by omega)).trans z1022
  replace z1023 := (zf57 _ (by omega)).trans z1023
  replace mv1 := (zf57 _ (by omega)).trans mv1
  replace mv2 := (zf57 _ (by omega)).trans mv2
  replace mv3 := (zf57 _ (by omega)).trans mv3
  replace mv4 := (zf57 _ (by omega)).trans mv4
  replace mb1 := (zf57 _ (by omega)).trans mb1
  replace mb2 := (zf57 _ (by omega)).trans mb2
  replace mb3 := (zf57 _ (by omega)).trans mb3
  replace mb4 := (zf57 _ (by omega)).trans mb4
  replace mc1 := (zf57 _ (by omega)).trans mc1
  replace mc2 := (zf57 _ (by omega)).trans mc2
  replace mc3 := (zf57 _ (by omega)).trans mc3
  have FR : ∀ q, ¬ (1000 ≤ q ∧ q < 1024) → pic56 q = pic q := fun q hq => (zf57 q (by omega)).trans (FR q hq)
  refine pf_X6_45 K hnm dX6_init_101 f0 (Nat.le_of_ble_eq_true rfl) (fun pic60 zg58 zf59 => ?_)
  replace f0 := zg58
  replace z1017 := (zf59 _ (by omega)).trans z1017
  replace z1020 := (zf59 _ (by omega)).trans z1020
  replace z1021 := (zf59 _ (by omega)).trans z1021
  replace z1022 := (zf59 _ (by omega)).trans z1022
  replace z1023 := (zf59 _ (by omega)).trans z1023
  replace mv1 := (zf59 _ (by omega)).trans mv1
  replace mv2 := (zf59 _ (by omega)).trans mv2
  replace mv3 := (zf59 _ (by omega)).trans mv3
  replace mv4 := (zf59 _ (by omega)).trans mv4
  replace mb1 := (zf59 _ (by omega)).trans mb1
  replace mb2 := (zf59 _ (by omega)).trans mb2
  replace mb3 := (zf59 _ (by omega)).trans mb3
  replace mb4 := (zf59 _ (by omega)).trans mb4
  replace mc1 := (zf59 _ (by omega)).trans mc1
  replace mc2 := (zf59 _ (by omega)).trans mc2
  replace mc3 := (zf59 _ (by omega)).trans mc3
  replace mc4 := (zf59 _ (by omega)).trans mc4
  have FR : ∀ q, ¬ (1000 ≤ q ∧ q < 1024) → pic60 q = pic q := fun q hq => (zf59 q (by omega)).trans (FR q hq)
  refine v_aload_n K 0 dX6_init_104 rfl rfl ?_
  refine v_iconst (v := nI 5) K dX6_init_105 (by decide) ?_
  refine v_newL K (1017) gw_6 dX6_init_106 (z1017) (by decide) (by decide) (by decide) (fun r1017 pic61 mw1 zf62 => ?_)
  replace f0 := (zf62 _ (by omega)).trans f0
  replace z1020 := (zf62 _ (by omega)).trans z1020
  replace z1021 := (zf62 _ (by omega)).trans z1021
  replace z1022 := (zf62 _ (by omega)).trans z1022
  replace z1023 := (zf62 _ (by omega)).trans z1023
  replace mv1 := (zf62 _ (by omega)).trans mv1
  replace mv2 := (zf62 _ (by omega)).trans mv2
  replace mv3 := (zf62 _ (by omega)).trans mv3
  replace mv4 := (zf62 _ (by omega)).trans mv4
  replace mb1 := (zf62 _ (by omega)).trans mb1
  replace mb2 := (zf62 _ (by omega)).trans mb2
  replace mb3 := (zf62 _ (by omega)).trans mb3
  replace mb4 := (zf62 _ (by omega)).trans mb4
  replace mc1 := (zf62 _ (by omega)).trans mc1
  replace mc2 := (zf62 _ (by omega)).trans mc2
  replace mc3 := (zf62 _ (by omega)).trans mc3
  replace mc4 := (zf62 _ (by omega)).trans mc4
  have FR : ∀ q, ¬ (1000 ≤ q ∧ q < 1024) → pic61 q = pic q := fun q hq => (zf62 q (by omega)).trans (FR q hq)
  refine pf_X6_48 K hnm dX6_init_108 f0 (Nat.le_of_ble_eq_true rfl) (fun pic65 zg63 zf64 => ?_)
  replace f0 := zg63
  replace z1020 := (zf64 _ (by omega)).trans z1020
  replace z1021 := (zf64 _ (by omega)).trans z1021
  replace z1022 := (zf64 _ (by omega)).trans z1022
  replace z1023 := (zf64 _ (by omega)).trans z1023
  replace mv1 := (zf64 _ (by omega)).trans mv1
  replace mv2 := (zf64 _ (by omega)).trans mv2
  replace mv3 := (zf64 _ (by omega)).trans mv3
  replace mv4 := (zf64 _ (by omega)).trans mv4
  replace mb1 := (zf64 _ (by omega)).trans mb1
  replace mb2 := (zf64 _ (by omega)).trans mb2
  replace mb3 := (zf64 _ (by omega)).trans mb3
  replace mb4 := (zf64 _ (by omega)).trans mb4
  replace mc1 := (zf64 _ (by omega)).trans mc1
  replace mc2 := (zf64 _ (by omega)).trans mc2
  replace mc3 := (zf64 _ (by omega)).trans mc3
  replace mc4 := (zf64 _ (by omega)).trans mc4
  replace mw1 := (zf64 _ (by omega)).trans mw1
  have FR : ∀ q, ¬ (1000 ≤ q ∧ q < 1024) → pic65 q = pic q := fun q hq => (zf64 q (by omega)).trans (FR q hq)
  refine v_aload_n K 0 dX6_init_111 rfl rfl ?_
  refine v_bipush (v := nI 8) K dX6_init_112 (by decide) ?_
  refine v_newI K (1020) gw_36 dX6_init_114 (z1020) (by decide) (by decide) (by decide) (fun r1020 pic66 mu1 zf67 => ?_)
  replace f0 := (zf67 _ (by omega)).trans f0
  replace z1021 := (zf67 _ (by omega)).trans z1021
  replace z1022 := (zf67 _ (by omega)).trans z1022
  replace z1023 := (zf67 _ (by omega)).trans z1023
  replace mv1 := (zf67 _ (by omega)).trans mv1
  replace mv2 := (zf67 _ (by omega)).trans mv2
  replace mv3 := (zf67 _ (by omega)).trans mv3
  replace mv4 := (zf67 _ (by omega)).trans mv4
  replace mb1 := (zf67 _ (by omega)).trans mb1
  replace mb2 := (zf67 _ (by omega)).trans mb2
  replace mb3 := (zf67 _ (by omega)).trans mb3
  replace mb4 := (zf67 _ (by omega)).trans mb4
  replace mc1 := (zf67 _ (by omega)).trans mc1
  replace mc2 := (zf67 _ (by omega)).trans mc2
  replace mc3 := (zf67 _ (by omega)).trans mc3
  replace mc4 := (zf67 _ (by omega)).trans mc4
  replace mw1 := (zf67 _ (by omega)).trans mw1
  have FR : ∀ q, ¬ (1000 ≤ q ∧ q < 1024) → pic66 q = pic q := fun q hq => (zf67 q (by omega)).trans (FR q hq)
  refine pf_X6_51 K hnm dX6_init_116 f0 (Nat.le_of_ble_eq_true rfl) (fun pic70 zg68 zf69 => ?_)
  replace f0 := zg68
  replace z1021 := (zf69 _ (by omega)).trans z1021
  replace z1022 := (zf69 _ (by omega)).trans z1022
  replace z1023 := (zf69 _ (by omega)).trans z1023
  replace mv1 := (zf69 _ (by omega)).trans mv1
  replace mv2 := (zf69 _ (by omega)).trans mv2
  replace mv3 := (zf69 _ (by omega)).trans mv3
  replace mv4 := (zf69 _ (by omega)).trans mv4
  replace mb1 := (zf69 _ (by omega)).trans mb1
  replace mb2 := (zf69 _ (by omega)).trans mb2
  replace mb3 := (zf69 _ (by omega)).trans mb3
  replace mb4 := (zf69 _ (by omega)).trans mb4
  replace mc1 := (zf69 _ (by omega)).trans mc1
  replace mc2 := (zf69 _ (by omega)).trans mc2
  replace mc3 := (zf69 _ (by omega)).trans mc3
  replace mc4 := (zf69 _ (by omega)).trans mc4
  replace mw1 := (zf69 _ (by omega)).trans mw1
  replace mu1 := (zf69 _ (by omega)).trans mu1
  have FR : ∀ q, ¬ (1000 ≤ q ∧ q < 1024) → pic70 q = pic q := fun q hq => (zf69 q (by omega)).trans (FR q hq)
  refine v_aload_n K 0 dX6_init_119 rfl rfl ?_
  refine v_bipush (v := nI 8) K dX6_init_120 (by decide) ?_
  refine v_newI K (1021) gw_36 dX6_init_122 (z1021) (by decide) (by decide) (by decide) (fun r1021 pic71 mu2 zf72 => ?_)
  replace f0 := (zf72 _ (by omega)).trans f0
  replace z1022 := (zf72 _ (by omega)).trans z1022
  replace z1023 := (zf72 _ (by omega)).trans z1023
  replace mv1 := (zf72 _ (by omega)).trans mv1
  replace mv2 := (zf72 _ (by omega)).trans mv2
  replace mv3 := (zf72 _ (by omega)).trans mv3
  replace mv4 := (zf72 _ (by omega)).trans mv4
  replace mb1 := (zf72 _ (by omega)).trans mb1
  replace mb2 := (zf72 _ (by omega)).trans mb2
  replace mb3 := (zf72 _ (by omega)).trans mb3
  replace mb4 := (zf72 _ (by omega)).trans mb4
  replace mc1 := (zf72 _ (by omega)).trans mc1
  replace mc2 := (zf72 _ (by omega)).trans mc2
  replace mc3 := (zf72 _ (by omega)).trans mc3
  replace mc4 := (zf72 _ (by omega)).trans mc4
  replace mw1 := (zf72 _ (by omega)).trans mw1
  replace mu1 := (zf72 _ (by omega)).trans mu1
  have FR : ∀ q, ¬ (1000 ≤ q ∧ q < 1024) → pic71 q = pic q := fun q hq => (zf72 q (by omega)).trans (FR q hq)
  refine pf_X6_54 K hnm dX6_init_124 f0 (Nat.le_of_ble_eq_true rfl) (fun pic75 zg73 zf74 => ?_)
  replace f0 := zg73
  replace z1022 := (zf74 _ (by omega)).trans z1022
  replace z1023 := (zf74 _ (by omega)).trans z1023
  replace mv1 := (zf74 _ (by omega)).trans mv1
  replace mv2 := (zf74 _ (by omega)).trans mv2
  replace mv3 := (zf74 _ (by omega)).trans mv3
  replace mv4 := (zf74 _ (by omega)).trans mv4
  replace mb1 := (zf74 _ (by omega)).trans mb1
  replace mb2 := (zf74 _ (by omega)).trans mb2
  replace mb3 := (zf74 _ (by omega)).trans mb3
  replace mb4 := (zf74 _ (by omega)).trans mb4
  replace mc1 := (zf74 _ (by omega)).trans mc1
  replace mc2 := (zf74 _ (by omega)).trans mc2
  replace mc3 := (zf74 _ (by omega)).trans mc3
  replace mc4 := (zf74 _ (by omega)).trans mc4
  replace mw1 := (zf74 _ (by omega)).trans mw1
  replace mu1 := (zf74 _ (by omega)).trans mu1
  replace mu2 := (zf74 _ (by omega)).trans mu2
  have FR : ∀ q, ¬ (1000 ≤ q ∧ q < 1024) → pic75 q = pic q := fun q hq => (zf74 q (by omega)).trans (FR q hq)
  refine v_aload_n K 0 dX6_init_127 rfl rfl ?_
  refine v_bipush (v := nI 8) K dX6_init_128 (by decide) ?_
  refine v_newI K (1022) gw_36 dX6_init_130 (z1022) (by decide) (by decide) (by decide) (fun r1022 pic76 mu3 zf77 => ?_)
  replace f0 := (zf77 _ (by omega)).trans f0
  replace z1023 := (zf77 _ (by omega)).trans z1023
  replace mv1 := (zf77 _ (by omega)).trans mv1
  replace mv2 := (zf77 _ (by omega)).trans mv2
  replace mv3 := (zf77 _ (by omega)).trans mv3
  replace mv4 := (zf77 _ (by omega)).trans mv4
  replace mb1 := (zf77 _ (by omega)).trans mb1
  replace mb2 := (zf77 _ (by omega)).trans mb2
  replace mb3 := (zf77 _ (by omega)).trans mb3
  replace mb4 := (zf77 _ (by omega)).trans mb4
  replace mc1 := (zf77 _ (by omega)).trans mc1
  replace mc2 := (zf77 _ (by omega)).trans mc2
  replace mc3 := (zf77 _ (by omega)).trans mc3
  replace mc4 := (zf77 _ (by omega)).trans mc4
  replace mw1 := (zf77 _ (by omega)).trans mw1
  replace mu1 := (zf77 _ (by omega)).trans mu1
  replace mu2 := (zf77 _ (by omega)).trans mu2
  have FR : ∀ q, ¬ (1000 ≤ q ∧ q < 1024) → pic76 q = pic q := fun q hq => (zf77 q (by omega)).trans (FR q hq)
  refine pf_X6_57 K hnm dX6_init_132 f0 (Nat.le_of_ble_eq_true rfl) (fun pic80 zg78 zf79 => ?_)
  replace f0 := zg78
  replace z1023 := (zf79 _ (by omega)).trans z1023
  replace mv1 := (zf79 _ (by omega)).trans mv1
  replace mv2 := (zf79 _ (by omega)).trans mv2
  replace mv3 := (zf79 _ (by omega)).trans mv3
  replace mv4 := (zf79 _ (by omega)).trans mv4
  replace mb1 := (zf79 _ (by omega)).trans mb1
  replace mb2 := (zf79 _ (by omega)).trans mb2
  replace mb3 := (zf79 _ (by omega)).trans mb3
  replace mb4 := (zf79 _ (by omega)).trans mb4
  replace mc1 := (zf79 _ (by omega)).trans mc1
  replace mc2 := (zf79 _ (by omega)).trans mc2
  replace mc3 := (zf79 _ (by omega)).trans mc3
  replace mc4 := (zf79 _ (by omega)).trans mc4
  replace mw1 := (zf79 _ (by omega)).trans mw1
  replace mu1 := (zf79 _ (by omega)).trans mu1
  replace mu2 := (zf79 _ (by omega)).trans mu2
  replace mu3 := (zf79 _ (by omega)).trans mu3
  have FR : ∀ q, ¬ (1000 ≤ q ∧ q < 1024) → pic80 q = pic q := fun q hq => (zf79 q (by omega)).trans (FR q hq)
  refine v_aload_n K 0 dX6_init_135 rfl rfl ?_
  refine v_bipush (v := nI 32) K dX6_init_136 (by decide) ?_
  refine v_newL K (1023) gw_6 dX6_init_138 (z1023) (by decide) (by decide) (by decide) (fun r1023 pic81 my1 zf82 => ?_)
  replace f0 := (zf82 _ (by omega)).trans f0
  replace mv1 := (zf82 _ (by omega)).trans mv1
  replace mv2 := (zf82 _ (by omega)).trans mv2
  replace mv3 := (zf82 _ (by omega)).trans mv3
  replace mv4 := (zf82 _ (by omega)).trans mv4
  replace mb1 := (zf82 _ (by omega)).trans mb1
  replace mb2 := (zf82 _ (by omega)).trans mb2
  replace mb3 := (zf82 _ (by omega)).trans mb3
  replace mb4 := (zf82 _ (by omega)).trans mb4
  replace mc1 := (zf82 _ (by omega)).trans mc1
  replace mc2 := (zf82 _ (by omega)).trans mc2
  replace mc3 := (zf82 _ (by omega)).trans mc3
  replace mc4 := (zf82 _ (by omega)).trans mc4
  replace mw1 := (zf82 _ (by omega)).trans mw1
  replace mu1 := (zf82 _ (by omega)).trans mu1
  replace mu2 := (zf82 _ (by omega)).trans mu2
  replace mu3 := (zf82 _ (by omega)).trans mu3
  have FR : ∀ q, ¬ (1000 ≤ q ∧ q < 1024) → pic81 q = pic q := fun q hq => (zf82 q (by omega)).trans (FR q hq)
  refine pf_X6_60 K hnm dX6_init_140 f0 (Nat.le_of_ble_eq_true rfl) (fun pic85 zg83 zf84 => ?_)
  replace f0 := zg83
  replace mv1 := (zf84 _ (by omega)).trans mv1
  replace mv2 := (zf84 _ (by omega)).trans mv2
  replace mv3 := (zf84 _ (by omega)).trans mv3
  replace mv4 := (zf84 _ (by omega)).trans mv4
  replace mb1 := (zf84 _ (by omega)).trans mb1
  replace mb2 := (zf84 _ (by omega)).trans mb2
  replace mb3 := (zf84 _ (by omega)).trans mb3
  replace mb4 := (zf84 _ (by omega)).trans mb4
  replace mc1 := (zf84 _ (by omega)).trans mc1
  replace mc2 := (zf84 _ (by omega)).trans mc2
  replace mc3 := (zf84 _ (by omega)).trans mc3
  replace mc4 := (zf84 _ (by omega)).trans mc4
  replace mw1 := (zf84 _ (by omega)).trans mw1
  replace mu1 := (zf84 _ (by omega)).trans mu1
  replace mu2 := (zf84 _ (by omega)).trans mu2
  replace mu3 := (zf84 _ (by omega)).trans mu3
  replace my1 := (zf84 _ (by omega)).trans my1
  have FR : ∀ q, ¬ (1000 ≤ q ∧ q < 1024) → pic85 q = pic q := fun q hq => (zf84 q (by omega)).trans (FR q hq)
  exact v_vret K dX6_init_143 hr hlk (by decide) (by decide) (⟨(fun r => if r = 1000 then a0 else if r = 1001 then r1001 else if r = 1002 then r1002 else if r = 1003 then r1003 else if r = 1004 then r1004 else if r = 1005 then r1005 else if r = 1006 then r1006 else if r = 1007 then r1007 else if r = 1008 then r1008 else if r = 1013 then r1013 else if r = 1014 then r1014 else if r = 1015 then r1015 else if r = 1016 then r1016 else if r = 1017 then r1017 else if r = 1020 then r1020 else if r = 1021 then r1021 else if r = 1022 then r1022 else if r = 1023 then r1023 else 0), rfl, f0, ⟨mc1, mc2, mc3, mc4⟩, ⟨mv1, mv2, mv3, mv4⟩, ⟨mb1, mb2, mb3, mb4⟩, mw1, ⟨mu1, mu2, mu3⟩, my1, FR⟩)

