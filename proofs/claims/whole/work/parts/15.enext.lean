theorem nI_inj31 {a b : Nat} (ha : a < 2 ^ 31) (hb : b < 2 ^ 31) (h : nI a = nI b) : a = b := (nI_eq ha hb).mp h
set_option maxHeartbeats 4000000 in
set_option maxRecDepth 100000 in
theorem c_X5_firstKeptWith (l : Launch) (D : va_G) (cA : Nat → ClassId) (base : Nat) (pic : PIC) (ad : Nat → Nat) (nb ns hw : Nat) (cl : Int32) (B : Nat → Bk) (j : Nat) (t : Int32) (f : Nat) (hE : EObj pic ad nb ns cl) (hBs : BlksP pic cA ad hw B) (hnb : nb ≤ hw) (hhw : hw ≤ 40) (hBn : ∀ j, j < hw → bN (B j) ≤ 32) (hj : j < nb) (hf : f < 2 ^ 31)  : CI l yX5_firstKeptWith cX5_firstKeptWith 5 (some .int) { frames := 2, cells := 0, slots := 0, locals := 45 } 0 0 D cA base pic [.ref (ad 0), .int (nI j), .int t, .int (nI f)] (fun x pic1 => (pic = pic1 ∧ ∃ k, x = nI k ∧ f ≤ k ∧ k < bN (B j) ∧ hasK (B j) t k ∧ ∀ i, f ≤ i → i < k → ¬ hasK (B j) t i) ∨ (pic = pic1 ∧ x = -5 ∧ ∀ i, f ≤ i → i < bN (B j) → ¬ hasK (B j) t i)) := by
  refine ofI (by decide) (Nat.le_of_ble_eq_true rfl) ?_
  intro p e s m below meth c K hr hlk hnm
  have fE := hE
  unfold EObj at fE
  obtain ⟨f6, hBj⟩ := hBs
  refine v_aload_n K 0 dX5_firstKeptWith_0 rfl rfl ?_
  refine v_iload_n K 1 dX5_firstKeptWith_1 rfl rfl ?_
  refine cl_X5_114 K dX5_firstKeptWith_2 fE (c_X5_blockAt l D cA base pic ad nb ns hw cl B (nI j) fE ⟨f6, hBj⟩ hnb hhw hBn) rfl rfl ⟨by decide, by decide⟩ (Nat.le_of_ble_eq_true rfl) ⟨by decide, by decide⟩ (fun x2 pic1 hx2 => ?_)
  rcases hx2 with ⟨j9, hj9, hjj, rfl, rfl⟩ | ⟨rfl, hno, rfl⟩
  · obtain rfl : j = j9 := nI_inj31 (by omega) (by omega) hjj
    refine v_top (v := .ref (ad (100 + 6 * j))) rfl ?_
    obtain ⟨fB, g1, g2, g3, g4, g5⟩ := hBj j (by omega)
    have hn := hBn j (by omega)
    refine v_astore K dX5_firstKeptWith_5 (by decide) ?_
    refine v_aload K dX5_firstKeptWith_7 rfl ?_
    refine v_ifnull K dX5_firstKeptWith_9 ?_
    refine v_aload K dX5_firstKeptWith_12 rfl ?_
    refine gf_X5_118 K dX5_firstKeptWith_14 fB rfl ?_
    refine v_if_eq K 30 dX5_firstKeptWith_17 (by decide) rfl (fun c17 => ?_) (fun c17 => ?_)
    · refine v_bipush (v := -5) K dX5_firstKeptWith_30 (by decide) ?_
      exact v_iret K dX5_firstKeptWith_32 hr hlk (by decide) (by decide) (by first | exact (Or.inl ⟨rfl, k, rfl, hk1, hk2, ⟨c17, hk3⟩, fun i h1 h2 h => hk4 i h1 h2 h.2⟩) | exact (Or.inr ⟨rfl, rfl, fun i h1 h2 h => hk i h1 h2 h.2⟩) | exact (Or.inr ⟨rfl, rfl, fun i h1 h2 h => h.1 c17⟩))
    · refine v_aload K dX5_firstKeptWith_20 rfl ?_
      refine v_iload_n K 2 dX5_firstKeptWith_22 rfl rfl ?_
      refine v_iload_n K 3 dX5_firstKeptWith_23 rfl rfl ?_
      refine cl_X5_161 K dX5_firstKeptWith_24 fB (c_X0_firstWith l D cA base pic (100 + 6 * j) (ad (100 + 6 * j)) _ _ _ _ _ (bN (B j)) _ _ _ _ _ _ _ _ _ t f ⟨fB, g1, g2, g3, g4, g5⟩ hf hn) rfl rfl ⟨by decide, by decide⟩ (Nat.le_of_ble_eq_true rfl) ⟨by decide, by decide⟩ (fun x24 pic3 hx4 => ?_)
      rcases hx4 with ⟨rfl, k, rfl, hk1, hk2, hk3, hk4⟩ | ⟨rfl, rfl, hk⟩
      · refine v_goto K 32 dX5_firstKeptWith_27 (by decide) ?_
        exact v_iret K dX5_firstKeptWith_32 hr hlk (by decide) (by decide) (by first | exact (Or.inl ⟨rfl, k, rfl, hk1, hk2, ⟨c17, hk3⟩, fun i h1 h2 h => hk4 i h1 h2 h.2⟩) | exact (Or.inr ⟨rfl, rfl, fun i h1 h2 h => hk i h1 h2 h.2⟩) | exact (Or.inr ⟨rfl, rfl, fun i h1 h2 h => h.1 c17⟩))
      · refine v_goto K 32 dX5_firstKeptWith_27 (by decide) ?_
        exact v_iret K dX5_firstKeptWith_32 hr hlk (by decide) (by decide) (by first | exact (Or.inl ⟨rfl, k, rfl, hk1, hk2, ⟨c17, hk3⟩, fun i h1 h2 h => hk4 i h1 h2 h.2⟩) | exact (Or.inr ⟨rfl, rfl, fun i h1 h2 h => hk i h1 h2 h.2⟩) | exact (Or.inr ⟨rfl, rfl, fun i h1 h2 h => h.1 c17⟩))
  · exact absurd (show 0 ≤ (nI j).toInt ∧ (nI j).toInt < nb by rw [nI_toInt (by omega)]; omega) hno

set_option maxHeartbeats 4000000 in
set_option maxRecDepth 100000 in
theorem l_X5_next {p : Program} {l : Launch} {e : Env} {s : State} {m : MethodId} {args : Array Value} {below : List Frame} {meth : Method} {c : Code} {Q : State → Prop} {D : va_G} {cA : Nat → ClassId} {base : Nat} {cw : Cond} (K : KX p m c cX5_next 6 s args cw RX5 D cA) (pic : PIC) (ad : Nat → Nat) (nb ns hw : Nat) (cl : Int32) (B : Nat → Bk) (S : Nat → Sb) (hE : EObj pic ad nb ns cl) (hBs : BlksP pic cA ad hw B) (hSs : SubsP pic cA ad ns S) (hnb : nb ≤ hw) (hhw : hw ≤ 40) (hBn : ∀ j, j < hw → bN (B j) ≤ 32) (hns : ns ≤ 8) (s0 : Nat) (hs0 : s0 < ns) (hb0 : (S s0).2.1 ≤ nb) (kr : ∀ (x : Int32) (pc : Nat) (lv : LV) (pic1 : PIC) (b1 i1 : Nat), decode cX5_next pc = .ok (.ireturn, 1) → nxR B (S s0).1 nb (S s0).2.1 (S s0).2.2 x b1 i1 → SubsP pic1 cA ad ns (va_up S s0 ((S s0).1, b1, i1)) → (∀ q, ¬ (20 ≤ q ∧ q < 28) → pic1 q = pic q) → V p l e { frames := 3, cells := 0, slots := 0, locals := 69 } s m args below meth c Q D base 6 pic1 lv pc [.int x] 0 0) : ∀ (g j f : Nat), nb - j < g → (S s0).2.1 ≤ j → j ≤ nb → f < 2 ^ 31 → (∀ i, (lexGe (S s0).2.1 (S s0).2.2 j i ↔ f ≤ i)) → (∀ j2 i2, lexGe (S s0).2.1 (S s0).2.2 j2 i2 → j2 < j → ¬ hasX B (S s0).1 j2 i2) → V p l e { frames := 3, cells := 0, slots := 0, locals := 69 } s m args below meth c Q D base 6 pic (lvOf [(0, .ref (ad 0)), (2, .ref (ad (20 + s0))), (3, .int (nI (f))), (4, .int (nI (j)))]) 23 [] 0 0 := by
  have fE := hE
  unfold EObj at fE
  have ⟨f6, hBj⟩ := hBs
  have ⟨f11, hSj⟩ := hSs
  have fS := hSj s0 hs0
  intro g
  induction g with
  | zero => intro j f h; omega
  | succ g ih =>
    intro j f hg hj0 hj1 hf31 hlex hnone
    refine v_iload K dX5_next_23 rfl ?_
    refine v_aload_n K 0 dX5_next_25 rfl rfl ?_
    refine gf_X5_90 K dX5_next_26 fE rfl ?_
    refine v_icmp_ge K 77 dX5_next_29 (by decide) (nI_toInt (by omega)) (nI_toInt (by omega)) (fun c29 => ?_) (fun c29 => ?_)
    · refine v_aload_n K 2 dX5_next_77 rfl rfl ?_
      refine v_aload_n K 0 dX5_next_78 rfl rfl ?_
      refine gf_X5_90 K dX5_next_79 fE rfl ?_
      refine v_iconst (v := nI 0) K dX5_next_82 (by decide) ?_
      refine cl_X5_208 K dX5_next_83 fS (c_X3_moveTo l D cA base pic (20 + s0) (ad (20 + s0)) (S s0).1 _ _ (nI nb) (nI 0) fS) rfl rfl ⟨by decide, by decide⟩ (Nat.le_of_ble_eq_true rfl) ⟨by decide, by decide⟩ (fun pic1 hx2 => ?_)
      obtain ⟨k0, kf⟩ := hx2
      replace fE := (kf _ (by omega)).trans fE
      replace fS := k0
      have KF := kf
      refine v_bipush (v := -5) K dX5_next_86 (by decide) ?_
      exact kr _ 88 _ _ nb 0 dX5_next_88 (Or.inr ⟨fun j2 i2 h1 h2 => hnone j2 i2 h2 (by omega), rfl, rfl, rfl⟩) (hSs.upd fS KF) (fun q hq => KF q (by omega))
    · refine v_aload_n K 0 dX5_next_32 rfl rfl ?_
      refine v_iload K dX5_next_33 rfl ?_
      refine v_aload_n K 2 dX5_next_35 rfl rfl ?_
      refine gf_X5_201 K dX5_next_36 fS rfl ?_
      refine v_iload_n K 3 dX5_next_39 rfl rfl ?_
      refine cl_X5_204 K dX5_next_40 fE (c_X5_firstKeptWith l D cA base pic ad nb ns hw cl B j (S s0).1 f hE hBs hnb hhw hBn (by omega) hf31) rfl rfl ⟨by decide, by decide⟩ (Nat.le_of_ble_eq_true rfl) ⟨by decide, by decide⟩ (fun x40 pic3 hx4 => ?_)
      rcases hx4 with ⟨rfl, k, rfl, hk1, hk2, hk3, hk4⟩ | ⟨rfl, rfl, hk⟩
      · have hn := hBn j (by omega)
        refine v_istore K dX5_next_43 (by decide) ?_
        refine v_iload K dX5_next_45 rfl ?_
        refine v_if_lt K 69 dX5_next_47 (by decide) (nI_toInt (by omega)) (fun c47 => absurd c47 (by omega)) (fun c47 => ?_)
        refine v_aload_n K 2 dX5_next_50 rfl rfl ?_
        refine v_iload K dX5_next_51 rfl ?_
        refine v_iload K dX5_next_53 rfl ?_
        refine v_iconst (v := nI 1) K dX5_next_55 (by decide) ?_
        refine v_iaddN K dX5_next_56 ?_
        refine cl_X5_208 K dX5_next_57 fS (c_X3_moveTo l D cA base pic (20 + s0) (ad (20 + s0)) (S s0).1 _ _ (nI j) (nI (k + 1)) fS) rfl rfl ⟨by decide, by decide⟩ (Nat.le_of_ble_eq_true rfl) ⟨by decide, by decide⟩ (fun pic5 hx6 => ?_)
        obtain ⟨k0, kf⟩ := hx6
        replace fE := (kf _ (by omega)).trans fE
        replace fS := k0
        have KF := kf
        refine v_bipush (v := nI 100) K dX5_next_60 (by decide) ?_
        refine v_iload K dX5_next_62 rfl ?_
        refine v_imulN K dX5_next_64 ?_
        refine v_iload K dX5_next_65 rfl ?_
        refine v_iaddN K dX5_next_67 ?_
        exact kr _ 68 _ _ j (k + 1) dX5_next_68 (Or.inl ⟨j, k, by omega, (hlex k).mpr hk1, ⟨hk2, hk3⟩, fun j2 i2 h1 h2 h3 => (by
          rcases h2 with h2 | ⟨rfl, h2⟩
          · exact hnone j2 i2 h1 h2 h3
          · exact hk4 i2 ((hlex i2).mp h1) h2 h3.2), rfl, rfl, rfl⟩) (hSs.upd fS KF) (fun q hq => KF q (by omega))
      · refine v_istore K dX5_next_43 (by decide) ?_
        refine v_iload K dX5_next_45 rfl ?_
        refine v_if_lt K 69 dX5_next_47 (by decide) rfl (fun _ => ?_) (fun c => absurd c (by decide))
        refine v_iconst (v := nI 0) K dX5_next_69 (by decide) ?_
        refine v_istore_n K 3 dX5_next_70 rfl (by decide) ?_
        refine v_iincN K 1 dX5_next_71 rfl (by decide) (by decide) ?_
        refine v_goto K 23 dX5_next_74 (by decide) ?_
        refine v_at [(0, .ref (ad 0)), (2, .ref (ad (20 + s0))), (3, .int (nI (0))), (4, .int (nI (j + 1)))] (lcons rfl (lcons rfl (lcons rfl (lcons rfl (lnil))))) ?_
        exact ih (j + 1) 0 (by omega) (by omega) (by omega) (by omega) (fun i => ⟨fun _ => Nat.zero_le i, fun _ => Or.inl (by omega)⟩) (fun j2 i2 h1 h2 h3 => by
          by_cases h4 : j2 < j
          · exact hnone j2 i2 h1 h4 h3
          · obtain rfl : j2 = j := by omega
            exact hk i2 ((hlex i2).mp h1) h3.1 h3.2)

set_option maxHeartbeats 4000000 in
set_option maxRecDepth 100000 in
theorem c_X5_next (l : Launch) (D : va_G) (cA : Nat → ClassId) (base : Nat) (pic : PIC) (ad : Nat → Nat) (nb ns hw : Nat) (cl : Int32) (B : Nat → Bk) (S : Nat → Sb) (s1 : Int32) (hE : EObj pic ad nb ns cl) (hBs : BlksP pic cA ad hw B) (hSs : SubsP pic cA ad ns S) (hnb : nb ≤ hw) (hhw : hw ≤ 40) (hBn : ∀ j, j < hw → bN (B j) ≤ 32) (hns : ns ≤ 8) (hSb : ∀ j, j < ns → (S j).2.1 ≤ nb ∧ (S j).2.2 ≤ 1000)  : CI l yX5_next cX5_next 6 (some .int) { frames := 3, cells := 0, slots := 0, locals := 69 } 0 0 D cA base pic [.ref (ad 0), .int s1] (fun x9 pic1 => x9 = (nextF nb ns B S s1).1 ∧ SubsP pic1 cA ad ns (nextF nb ns B S s1).2 ∧ ∀ q, ¬ (20 ≤ q ∧ q < 28) → pic1 q = pic q) := by
  refine ofI (by decide) (Nat.le_of_ble_eq_true rfl) ?_
  intro p e s m below meth c K hr hlk hnm
  have fE := hE
  unfold EObj at fE
  have ⟨f11, hSj⟩ := hSs
  refine v_aload_n K 0 dX5_next_0 rfl rfl ?_
  refine v_iload_n K 1 dX5_next_1 rfl rfl ?_
  refine cl_X5_191 K dX5_next_2 fE (c_X5_subscriberAt l D cA base pic ad nb ns cl S s1 fE ⟨f11, hSj⟩ hns) rfl rfl ⟨by decide, by decide⟩ (Nat.le_of_ble_eq_true rfl) ⟨by decide, by decide⟩ (fun x2 pic1 hx2 => ?_)
  rcases hx2 with ⟨j, hj, rfl, rfl, rfl⟩ | ⟨rfl, hno, rfl⟩
  · refine v_top (v := .ref (ad (20 + j))) rfl ?_
    have fS := hSj j (by omega)
    have hbI := nI_toInt (n := j) (by omega)
    have hbx := bx_nI (j := j) (by omega)
    refine v_astore_n K 2 dX5_next_5 rfl (by decide) ?_
    refine v_aload_n K 2 dX5_next_6 rfl rfl ?_
    refine v_ifnonnull K 12 dX5_next_7 (by decide) ?_
    refine v_aload_n K 2 dX5_next_12 rfl rfl ?_
    refine gf_X5_195 K dX5_next_13 fS rfl ?_
    refine v_istore_n K 3 dX5_next_16 rfl (by decide) ?_
    refine v_aload_n K 2 dX5_next_17 rfl rfl ?_
    refine gf_X5_198 K dX5_next_18 fS rfl ?_
    refine v_istore K dX5_next_21 (by decide) ?_
    refine v_at [(0, .ref (ad 0)), (2, .ref (ad (20 + j))), (3, .int (nI (S j).2.2)), (4, .int (nI (S j).2.1))] (lcons rfl (lcons rfl (lcons rfl (lcons rfl (lnil))))) ?_
    exact l_X5_next K pic ad nb ns hw cl B S hE hBs hSs hnb hhw hBn hns j hj (hSb j hj).1 (fun x pc lv pic1 b1 i1 d h1 h2 h3 => v_iret K d hr hlk (by decide) (by decide) (by rw [nextF_1 (by omega), hbx, nxF_eq h1]; exact ⟨rfl, h2, h3⟩)) (nb - (S j).2.1 + 1) (S j).2.1 (S j).2.2 (by omega) (Nat.le_refl _) (hSb j hj).1 (Nat.lt_of_le_of_lt (hSb j hj).2 (by decide)) (fun i => ⟨fun h => h.elim (fun h => absurd h (Nat.lt_irrefl _)) (fun h => h.2), fun h => Or.inr ⟨rfl, h⟩⟩) (fun j2 i2 h1 h2 h3 => absurd h2 (by rcases h1 with h1 | h1 <;> omega))
  · refine v_top (v := .null) rfl ?_
    refine v_astoreN_n K 2 dX5_next_5 rfl (by decide) ?_
    refine v_aloadN_n K 2 dX5_next_6 rfl rfl ?_
    refine v_ifnonnullN K dX5_next_7 ?_
    refine v_iconst (v := -1) K dX5_next_10 (by decide) ?_
    exact v_iret K dX5_next_11 hr hlk (by decide) (by decide) (by rw [nextF_0 (by omega)]; exact ⟨rfl, hSs, fun _ _ => rfl⟩)

set_option maxHeartbeats 4000000 in
set_option maxRecDepth 100000 in
theorem l_X5_keptEventsFrom {p : Program} {l : Launch} {e : Env} {s : State} {m : MethodId} {args : Array Value} {below : List Frame} {meth : Method} {c : Code} {Q : State → Prop} {D : va_G} {cA : Nat → ClassId} {base : Nat} {cw : Cond} (K : KX p m c cX5_keptEventsFrom 5 s args cw RX5 D cA) (pic : PIC) (ad : Nat → Nat) (nb ns hw : Nat) (cl : Int32) (B : Nat → Bk) (a : Nat) (hE : EObj pic ad nb ns cl) (hBs : BlksP pic cA ad hw B) (hnb : nb ≤ hw) (hhw : hw ≤ 40) (hBn : ∀ j, j < hw → bN (B j) ≤ 32) (ha : a ≤ nb) (kx : V p l e { frames := 1, cells := 0, slots := 0, locals := 21 } s m args below meth c Q D base 5 pic (lvOf [(2, .int (nI (sumK B a (nb - a))))]) 46 [] 0 0) : ∀ (g i : Nat), nb - (a + i) < g → a + i ≤ nb → V p l e { frames := 1, cells := 0, slots := 0, locals := 21 } s m args below meth c Q D base 5 pic (lvOf [(0, .ref (ad 0)), (2, .int (nI (sumK B a (i)))), (3, .int (nI (a + i)))]) 4 [] 0 0 := by
  have fE := hE
  unfold EObj at fE
  have ⟨f6, hBj⟩ := hBs
  intro g
  induction g with
  | zero => intro i h; omega
  | succ g ih =>
    intro i hg hi
    refine v_iload_n K 3 dX5_keptEventsFrom_4 rfl rfl ?_
    refine v_aload_n K 0 dX5_keptEventsFrom_5 rfl rfl ?_
    refine gf_X5_90 K dX5_keptEventsFrom_6 fE rfl ?_
    refine v_icmp_ge K 46 dX5_keptEventsFrom_9 (by decide) (nI_toInt (by omega)) (nI_toInt (by omega)) (fun c9 => ?_) (fun c9 => ?_)
    · obtain rfl : i = nb - a := by omega
      refine v_at [(2, .int (nI (sumK B a (nb - a))))] (lcons rfl (lnil)) ?_
      exact kx
    · refine v_aload_n K 0 dX5_keptEventsFrom_12 rfl rfl ?_
      refine v_iload_n K 3 dX5_keptEventsFrom_13 rfl rfl ?_
      refine cl_X5_114 K dX5_keptEventsFrom_14 fE (c_X5_blockAt l D cA base pic ad nb ns hw cl B (nI (a + i)) fE ⟨f6, hBj⟩ hnb hhw hBn) rfl rfl ⟨by decide, by decide⟩ (Nat.le_of_ble_eq_true rfl) ⟨by decide, by decide⟩ (fun x14 pic1 hx2 => ?_)
      rcases hx2 with ⟨j, hj, hjj, rfl, rfl⟩ | ⟨rfl, hno, rfl⟩
      · obtain rfl : a + i = j := nI_inj31 (by omega) (by omega) hjj
        refine v_top (v := .ref (ad (100 + 6 * (a + i)))) rfl ?_
        obtain ⟨fB, g1, g2, g3, g4, g5⟩ := hBj (a + i) (by omega)
        have hn := hBn (a + i) (by omega)
        refine v_astore K dX5_keptEventsFrom_17 (by decide) ?_
        refine v_aload K dX5_keptEventsFrom_19 rfl ?_
        refine v_ifnull K dX5_keptEventsFrom_21 ?_
        refine v_aload K dX5_keptEventsFrom_24 rfl ?_
        refine gf_X5_118 K dX5_keptEventsFrom_26 fB rfl ?_
        refine v_if_eq K 40 dX5_keptEventsFrom_29 (by decide) rfl (fun c29 => ?_) (fun c29 => ?_)
        · refine v_iincN K 1 dX5_keptEventsFrom_40 rfl (by decide) (by decide) ?_
          refine v_goto K 4 dX5_keptEventsFrom_43 (by decide) ?_
          refine v_at [(0, .ref (ad 0)), (2, .int (nI (sumK B a i))), (3, .int (nI (a + i + 1)))] (lcons rfl (lcons rfl (lcons rfl (lnil)))) ?_
          have hsum : sumK B a (i + 1) = sumK B a i := by show sumK B a i + knF (B (a + i)) = _; rw [knF, if_pos c29, Nat.add_zero]
          rw [← hsum]
          exact ih (i + 1) (by omega) (by omega)
        · refine v_iload_n K 2 dX5_keptEventsFrom_32 rfl rfl ?_
          refine v_aload K dX5_keptEventsFrom_33 rfl ?_
          refine gf_X5_59 K dX5_keptEventsFrom_35 fB rfl ?_
          refine v_iaddN K dX5_keptEventsFrom_38 ?_
          refine v_istore_n K 2 dX5_keptEventsFrom_39 rfl (by decide) ?_
          refine v_iincN K 1 dX5_keptEventsFrom_40 rfl (by decide) (by decide) ?_
          refine v_goto K 4 dX5_keptEventsFrom_43 (by decide) ?_
          refine v_at [(0, .ref (ad 0)), (2, .int (nI (sumK B a i + bN (B (a + i))))), (3, .int (nI (a + i + 1)))] (lcons rfl (lcons rfl (lcons rfl (lnil)))) ?_
          have hsum : sumK B a (i + 1) = sumK B a i + bN (B (a + i)) := by show sumK B a i + knF (B (a + i)) = _; rw [knF, if_neg c29]
          rw [← hsum]
          exact ih (i + 1) (by omega) (by omega)
      · exact absurd (show 0 ≤ (nI (a + i)).toInt ∧ (nI (a + i)).toInt < nb by rw [nI_toInt (by omega)]; omega) hno

set_option maxHeartbeats 4000000 in
set_option maxRecDepth 100000 in
theorem c_X5_keptEventsFrom (l : Launch) (D : va_G) (cA : Nat → ClassId) (base : Nat) (pic : PIC) (ad : Nat → Nat) (nb ns hw : Nat) (cl : Int32) (B : Nat → Bk) (a : Nat) (hE : EObj pic ad nb ns cl) (hBs : BlksP pic cA ad hw B) (hnb : nb ≤ hw) (hhw : hw ≤ 40) (hBn : ∀ j, j < hw → bN (B j) ≤ 32) (ha : a ≤ nb)  : CI l yX5_keptEventsFrom cX5_keptEventsFrom 5 (some .int) { frames := 1, cells := 0, slots := 0, locals := 21 } 0 0 D cA base pic [.ref (ad 0), .int (nI a)] (fun x9 pic1 => pic = pic1 ∧ x9 = nI (sumK B a (nb - a))) := by
  refine ofI (by decide) (Nat.le_of_ble_eq_true rfl) ?_
  intro p e s m below meth c K hr hlk hnm
  have fE := hE
  unfold EObj at fE
  have ⟨f6, hBj⟩ := hBs
  refine v_iconst (v := nI 0) K dX5_keptEventsFrom_0 (by decide) ?_
  refine v_istore_n K 2 dX5_keptEventsFrom_1 rfl (by decide) ?_
  refine v_iload_n K 1 dX5_keptEventsFrom_2 rfl rfl ?_
  refine v_istore_n K 3 dX5_keptEventsFrom_3 rfl (by decide) ?_
  refine v_at [(0, .ref (ad 0)), (2, .int (nI (sumK B a 0))), (3, .int (nI (a + 0)))] (lcons rfl (lcons rfl (lcons rfl (lnil)))) ?_
  refine l_X5_keptEventsFrom K pic ad nb ns hw cl B a hE hBs hnb hhw hBn ha ?_ (nb - a + 1) 0 (by omega) (by omega)
  refine v_iload_n K 2 dX5_keptEventsFrom_46 rfl rfl ?_
  exact v_iret K dX5_keptEventsFrom_47 hr hlk (by decide) (by decide) (⟨rfl, rfl⟩)

def mvI (S : Nat → Sb) (nb i : Nat) : Nat → Sb := fun j => if j < i then mvF S nb j else S j
theorem mvI_stay {S : Nat → Sb} {nb i : Nat} (h : ¬ nb ≤ (S i).2.1) : mvI S nb (i + 1) = mvI S nb i := by
  funext j
  unfold mvI
  by_cases h1 : j = i
  · subst h1; rw [if_pos (by omega), if_neg (by omega), mvF, if_neg h]
  · by_cases h2 : j < i
    · rw [if_pos h2, if_pos (by omega)]
    · rw [if_neg h2, if_neg (by omega)]
theorem mvI_move {S : Nat → Sb} {nb i : Nat} (h : nb ≤ (S i).2.1) : mvI S nb (i + 1) = va_up (mvI S nb i) i ((S i).1, nb, 0) := by
  funext j
  unfold mvI
  by_cases h1 : j = i
  · subst h1; rw [if_pos (by omega), va_up_self, mvF, if_pos h]
  · rw [va_up_ne _ _ h1]
    by_cases h2 : j < i
    · rw [if_pos h2, if_pos (by omega)]
    · rw [if_neg h2, if_neg (by omega)]
theorem mvI_0 (S : Nat → Sb) (nb : Nat) : mvI S nb 0 = S := by funext j; unfold mvI; rw [if_neg (by omega)]
theorem mvI_self (S : Nat → Sb) (nb i : Nat) : mvI S nb i i = S i := by unfold mvI; rw [if_neg (by omega)]
set_option maxHeartbeats 4000000 in
set_option maxRecDepth 100000 in
theorem l_X5_moveSubscribersBack {p : Program} {l : Launch} {e : Env} {s : State} {m : MethodId} {args : Array Value} {below : List Frame} {meth : Method} {c : Code} {Q : State → Prop} {D : va_G} {cA : Nat → ClassId} {base : Nat} {cw : Cond} (K : KX p m c cX5_moveSubscribersBack 3 s args cw RX5 D cA) (ad : Nat → Nat) (nb ns : Nat) (cl : Int32) (S : Nat → Sb) (hns : ns ≤ 8) (hnb : nb ≤ 40) (hSb : ∀ j, j < ns → (S j).2.1 ≤ 40) (pic0 : PIC) (kx : ∀ pic1 : PIC, SubsP pic1 cA ad ns (mvI S nb ns) → (∀ q, ¬ (20 ≤ q ∧ q < 28) → pic1 q = pic0 q) → V p l e { frames := 1, cells := 0, slots := 0, locals := 22 } s m args below meth c Q D base 3 pic1 (lvOf [(0, .ref (ad 0))]) 46 [] 0 0) : ∀ (g i : Nat) (pic : PIC), ns - i < g → i ≤ ns → EObj pic ad nb ns cl → SubsP pic cA ad ns (mvI S nb i) → (∀ q, ¬ (20 ≤ q ∧ q < 28) → pic q = pic0 q) → V p l e { frames := 1, cells := 0, slots := 0, locals := 22 } s m args below meth c Q D base 3 pic (lvOf [(0, .ref (ad 0)), (1, .int (nI (i)))]) 2 [] 0 0 := by
  intro g
  induction g with
  | zero => intro i pic h; omega
  | succ g ih =>
    intro i pic hg hi hE hSs FR
    have fE := hE
    unfold EObj at fE
    have ⟨f11, hSj⟩ := hSs
    refine v_iload_n K 1 dX5_moveSubscribersBack_2 rfl rfl ?_
    refine v_aload_n K 0 dX5_moveSubscribersBack_3 rfl rfl ?_
    refine gf_X5_93 K dX5_moveSubscribersBack_4 fE rfl ?_
    refine v_icmp_ge K 46 dX5_moveSubscribersBack_7 (by decide) (nI_toInt (by omega)) (nI_toInt (by omega)) (fun c7 => ?_) (fun c7 => ?_)
    · obtain rfl : i = ns := by omega
      refine v_at [(0, .ref (ad 0))] (lcons rfl (lnil)) ?_
      exact kx pic hSs FR
    · refine v_aload_n K 0 dX5_moveSubscribersBack_10 rfl rfl ?_
      refine v_iload_n K 1 dX5_moveSubscribersBack_11 rfl rfl ?_
      refine cl_X5_191 K dX5_moveSubscribersBack_12 fE (c_X5_subscriberAt l D cA base pic ad nb ns cl (mvI S nb i) (nI i) fE hSs hns) rfl rfl ⟨by decide, by decide⟩ (Nat.le_of_ble_eq_true rfl) ⟨by decide, by decide⟩ (fun x12 pic1 hx2 => ?_)
      rcases hx2 with ⟨j, hj, hjj, rfl, rfl⟩ | ⟨rfl, hno, rfl⟩
      · obtain rfl : i = j := nI_inj31 (by omega) (by omega) hjj
        refine v_top (v := .ref (ad (20 + i))) rfl ?_
        have fS := hSj i (by omega)
        have hbi := hSb i (by omega)
        rw [mvI_self] at fS
        refine v_astore_n K 2 dX5_moveSubscribersBack_15 rfl (by decide) ?_
        refine v_aload_n K 2 dX5_moveSubscribersBack_16 rfl rfl ?_
        refine v_ifnull K dX5_moveSubscribersBack_17 ?_
        refine v_aload_n K 2 dX5_moveSubscribersBack_20 rfl rfl ?_
        refine gf_X5_198 K dX5_moveSubscribersBack_21 fS rfl ?_
        refine v_aload_n K 0 dX5_moveSubscribersBack_24 rfl rfl ?_
        refine gf_X5_90 K dX5_moveSubscribersBack_25 fE rfl ?_
        refine v_icmp_lt K 40 dX5_moveSubscribersBack_28 (by decide) (nI_toInt (by omega)) (nI_toInt (by omega)) (fun c28 => ?_) (fun c28 => ?_)
        · refine v_iincN K 1 dX5_moveSubscribersBack_40 rfl (by decide) (by decide) ?_
          refine v_goto K 2 dX5_moveSubscribersBack_43 (by decide) ?_
          refine v_at [(0, .ref (ad 0)), (1, .int (nI (i + 1)))] (lcons rfl (lcons rfl (lnil))) ?_
          exact ih (i + 1) pic (by omega) (by omega) hE (by rw [mvI_stay (by omega)]; exact hSs) FR
        · refine v_aload_n K 2 dX5_moveSubscribersBack_31 rfl rfl ?_
          refine v_aload_n K 0 dX5_moveSubscribersBack_32 rfl rfl ?_
          refine gf_X5_90 K dX5_moveSubscribersBack_33 fE rfl ?_
          refine v_iconst (v := nI 0) K dX5_moveSubscribersBack_36 (by decide) ?_
          refine cl_X5_208 K dX5_moveSubscribersBack_37 fS (c_X3_moveTo l D cA base pic (20 + i) (ad (20 + i)) _ _ _ (nI nb) (nI 0) fS) rfl rfl ⟨by decide, by decide⟩ (Nat.le_of_ble_eq_true rfl) ⟨by decide, by decide⟩ (fun pic3 hx4 => ?_)
          obtain ⟨k0, kf⟩ := hx4
          replace fE := (kf _ (by omega)).trans fE
          replace fS := k0
          have FR : ∀ q, ¬ (20 ≤ q ∧ q < 28) → pic3 q = pic0 q := fun q hq => (kf q (by omega)).trans (FR q hq)
          have KF := kf
          refine v_iincN K 1 dX5_moveSubscribersBack_40 rfl (by decide) (by decide) ?_
          refine v_goto K 2 dX5_moveSubscribersBack_43 (by decide) ?_
          refine v_at [(0, .ref (ad 0)), (1, .int (nI (i + 1)))] (lcons rfl (lcons rfl (lnil))) ?_
          exact ih (i + 1) pic3 (by omega) (by omega) fE (by rw [mvI_move (by omega)]; exact hSs.upd fS KF) FR
      · exact absurd (show 0 ≤ (nI i).toInt ∧ (nI i).toInt < ns by rw [nI_toInt (by omega)]; omega) hno

theorem mvI_end {pic : PIC} {cA : Nat → ClassId} {ad : Nat → Nat} {ns nb : Nat} {S : Nat → Sb} (h : SubsP pic cA ad ns (mvI S nb ns)) : SubsP pic cA ad ns (mvF S nb) := ⟨h.1, fun j hj => by have h1 := h.2 j hj; unfold mvI at h1; rw [if_pos hj] at h1; exact h1⟩
set_option maxHeartbeats 4000000 in
set_option maxRecDepth 100000 in
theorem c_X5_moveSubscribersBack (l : Launch) (D : va_G) (cA : Nat → ClassId) (base : Nat) (pic : PIC) (ad : Nat → Nat) (nb ns : Nat) (cl : Int32) (S : Nat → Sb) (hE : EObj pic ad nb ns cl) (hSs : SubsP pic cA ad ns S) (hns : ns ≤ 8) (hnb : nb ≤ 40) (hSb : ∀ j, j < ns → (S j).2.1 ≤ 40)  : CV l yX5_moveSubscribersBack cX5_moveSubscribersBack 3 none { frames := 1, cells := 0, slots := 0, locals := 22 } 0 0 D cA base pic [.ref (ad 0)] (fun pic1 => SubsP pic1 cA ad ns (mvF S nb) ∧ ∀ q, ¬ (20 ≤ q ∧ q < 28) → pic1 q = pic q) := by
  refine ofV (by decide) (Nat.le_of_ble_eq_true rfl) ?_
  intro p e s m below meth c K hr hlk hnm
  have FR : ∀ q, ¬ (20 ≤ q ∧ q < 28) → pic q = pic q := fun _ _ => rfl
  have fE := hE
  unfold EObj at fE
  refine v_iconst (v := nI 0) K dX5_moveSubscribersBack_0 (by decide) ?_
  refine v_istore_n K 1 dX5_moveSubscribersBack_1 rfl (by decide) ?_
  refine v_at [(0, .ref (ad 0)), (1, .int (nI (0)))] (lcons rfl (lcons rfl (lnil))) ?_
  refine l_X5_moveSubscribersBack K ad nb ns cl S hns hnb hSb pic (fun pic1 h1 h2 => ?_) (ns + 1) 0 pic (by omega) (by omega) hE (by rw [mvI_0]; exact hSs) FR
  exact v_vret K dX5_moveSubscribersBack_46 hr hlk (by decide) (by decide) (⟨mvI_end h1, h2⟩)

