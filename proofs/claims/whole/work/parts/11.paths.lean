theorem root_a {f g : Nat → Int64} {n : Nat} (hn : n ≤ 32) (hr : ∀ i, i < wF n 5 → g i = lvF f n 5 i) (h : (((wF n 4 + 1) / 2 : Nat) : Int) ≠ 0) : g 0 = rootF f n := by
  have e5 : (wF n 4 + 1) / 2 = wF n 5 := rfl
  rw [e5] at h
  rw [rootF, if_neg (fun h0 => h (by subst h0; rfl)), hr 0 (by omega)]
theorem root_b {f : Nat → Int64} {n : Nat} (hn : n ≤ 32) (h : (((wF n 4 + 1) / 2 : Nat) : Int) = 0) : (0 : Int64) = rootF f n := by
  have e5 : (wF n 4 + 1) / 2 = wF n 5 := rfl
  rw [e5] at h
  rw [rootF, if_pos]
  rcases Nat.eq_zero_or_pos n with h0 | h0
  · exact h0
  · have := wF_0 h0 5
    omega
theorem ld_out {dg : Nat → Int64} {no n i k tk : Nat} {lf d root : Int64} (hld : ldF dg no lf n i k = some (d, tk)) (hk : k < 5) (h1 : besF (nF i k) < wF n k) (h2 : ¬ tk < no) : ¬ ldOK dg no lf n i root := by
  intro h
  have hk1 : ldF dg no lf n i (k + 1) = none := by
    rw [ldF, hld]
    show (if _ then _ else _) = _
    rw [if_pos h1, if_neg h2]
  have h5 := ldF_none hk1 (4 - k)
  rw [show k + 1 + (4 - k) = 5 from by omega] at h5
  unfold ldOK at h
  rw [h5] at h
  cases h
theorem ld_ne {dg : Nat → Int64} {no n i k tk : Nat} {lf d root : Int64} (hld : ldF dg no lf n i k = some (d, tk)) (hk : k = 5) (h2 : ¬ tk = no) : ¬ ldOK dg no lf n i root := by
  intro h
  subst hk
  unfold ldOK at h
  rw [hld] at h
  exact h2 (Prod.mk.inj (Option.some.inj h)).2
theorem ld_nd {dg : Nat → Int64} {no n i k tk : Nat} {lf d root : Int64} (hld : ldF dg no lf n i k = some (d, tk)) (hk : k = 5) (h2 : ¬ d = root) : ¬ ldOK dg no lf n i root := by
  intro h
  subst hk
  unfold ldOK at h
  rw [hld] at h
  exact h2 (Prod.mk.inj (Option.some.inj h)).1
theorem ld_ok {dg : Nat → Int64} {no n i k tk : Nat} {lf d root : Int64} (hld : ldF dg no lf n i k = some (d, tk)) (hk : k = 5) (h1 : tk = no) (h2 : d = root) : ldOK dg no lf n i root := by
  subst hk; subst h1; subst h2
  exact hld
theorem wF5 {n : Nat} (hn : n ≤ 32) : wF n 5 ≤ 1 := by simp only [wF]; omega
theorem wF5z {n : Nat} (hn : n = 0) : wF n 5 = 0 := by subst hn; rfl
set_option maxHeartbeats 4000000 in
set_option maxRecDepth 100000 in
theorem c_X4_topOf (l : Launch) (D : va_G) (cA : Nat → ClassId) (base : Nat) (pic : PIC) (aT aR w : Nat) (g0 : Nat → Int64) (b aB r1 r2 r3 r4 r5 n : Nat) (kept fs : Int32) (rd fb : Int64) (ac t1 t2 t3 : Nat → Int32) (vl : Nat → Int64) (hT : TreeP pic cA aT aR w g0) (hB : BlkP pic cA b aB r1 r2 r3 r4 r5 (nI n) kept fs rd fb ac t1 t2 t3 vl) (hb : 20 ≤ b) (hn : n ≤ 32)  : CL l yX4_topOf cX4_topOf 3 (some .long) { frames := 4, cells := 0, slots := 0, locals := 96 } 0 0 D cA base pic [.ref aT, .ref aB] (fun x pic1 => x = rootF (lfB ac t1 t2 t3 vl) n ∧ (∃ w1 g, TreeP pic1 cA aT aR w1 g) ∧ ∀ q, ¬ (q = 7 ∨ q = 8) → pic1 q = pic q) := by
  refine ofL (by decide) (Nat.le_of_ble_eq_true rfl) ?_
  intro p e s m below meth c K hr hlk hnm
  have FR : ∀ q, ¬ (q = 7 ∨ q = 8) → pic q = pic q := fun _ _ => rfl
  obtain ⟨e0, e1⟩ := hT
  obtain ⟨f0, f1, f2, f3, f4, f5⟩ := hB
  have hw0 := wF_le n 0
  have hw1 := wF_le n 1
  have hw2 := wF_le n 2
  have hw3 := wF_le n 3
  have hw4 := wF_le n 4
  refine v_aload_n K 0 dX4_topOf_0 rfl rfl ?_
  refine v_aload_n K 1 dX4_topOf_1 rfl rfl ?_
  refine cl_X4_32 K dX4_topOf_2 e0 (c_X4_plant l D cA base pic aT aR w g0 b aB r1 r2 r3 r4 r5 n kept fs rd fb ac t1 t2 t3 vl ⟨e0, e1⟩ ⟨f0, f1, f2, f3, f4, f5⟩ hb hn) rfl rfl ⟨by decide, by decide⟩ (Nat.le_of_ble_eq_true rfl) ⟨by decide, by decide⟩ (fun pic1 hx2 => ?_)
  obtain ⟨⟨row0, ⟨k0, k1⟩, hrow0⟩, kf⟩ := hx2
  replace e0 := k0
  replace e1 := k1
  replace f0 := (kf _ (by omega)).trans f0
  replace f1 := (kf _ (by omega)).trans f1
  replace f2 := (kf _ (by omega)).trans f2
  replace f3 := (kf _ (by omega)).trans f3
  replace f4 := (kf _ (by omega)).trans f4
  replace f5 := (kf _ (by omega)).trans f5
  have FR : ∀ q, ¬ (q = 7 ∨ q = 8) → pic1 q = pic q := fun q hq => (kf q (by omega)).trans (FR q hq)
  refine v_iconst (v := nI 0) K dX4_topOf_5 (by decide) ?_
  refine v_istore_n K 2 dX4_topOf_6 rfl (by decide) ?_
  refine v_iload_n K 2 dX4_topOf_7 rfl rfl ?_
  refine v_iconst (v := nI 5) K dX4_topOf_8 (by decide) ?_
  refine v_icmp_ge K 22 dX4_topOf_9 (by decide) rfl rfl (fun c => absurd c (by decide)) (fun _ => ?_)
  refine v_aload_n K 0 dX4_topOf_12 rfl rfl ?_
  refine cl_X4_36 K dX4_topOf_13 e0 (c_X4_rise l D cA base pic1 aT aR (wF n 0) row0 ⟨e0, e1⟩ (Nat.le_trans (wF_le n 0) hn)) rfl rfl ⟨by decide, by decide⟩ (Nat.le_of_ble_eq_true rfl) ⟨by decide, by decide⟩ (fun pic3 hx4 => ?_)
  obtain ⟨⟨row1, ⟨k0, k1⟩, hk⟩, kf⟩ := hx4
  replace e0 := k0
  replace e1 := k1
  replace f0 := (kf _ (by omega)).trans f0
  replace f1 := (kf _ (by omega)).trans f1
  replace f2 := (kf _ (by omega)).trans f2
  replace f3 := (kf _ (by omega)).trans f3
  replace f4 := (kf _ (by omega)).trans f4
  replace f5 := (kf _ (by omega)).trans f5
  have FR : ∀ q, ¬ (q = 7 ∨ q = 8) → pic3 q = pic q := fun q hq => (kf q (by omega)).trans (FR q hq)
  have hrow1 : ∀ i, i < wF n 1 → row1 i = lvF (lfB ac t1 t2 t3 vl) n 1 i := fun i hi => (hk i hi).trans (rise_agree hrow0 i hi)
  refine v_iincN K 1 dX4_topOf_16 rfl (by decide) (by decide) ?_
  refine v_goto K 7 dX4_topOf_19 (by decide) ?_
  refine v_iload_n K 2 dX4_topOf_7 rfl rfl ?_
  refine v_iconst (v := nI 5) K dX4_topOf_8 (by decide) ?_
  refine v_icmp_ge K 22 dX4_topOf_9 (by decide) rfl rfl (fun c => absurd c (by decide)) (fun _ => ?_)
  refine v_aload_n K 0 dX4_topOf_12 rfl rfl ?_
  refine cl_X4_36 K dX4_topOf_13 e0 (c_X4_rise l D cA base pic3 aT aR (wF n 1) row1 ⟨e0, e1⟩ (Nat.le_trans (wF_le n 1) hn)) rfl rfl ⟨by decide, by decide⟩ (Nat.le_of_ble_eq_true rfl) ⟨by decide, by decide⟩ (fun pic5 hx6 => ?_)
  obtain ⟨⟨row2, ⟨k0, k1⟩, hk⟩, kf⟩ := hx6
  replace e0 := k0
  replace e1 := k1
  replace f0 := (kf _ (by omega)).trans f0
  replace f1 := (kf _ (by omega)).trans f1
  replace f2 := (kf _ (by omega)).trans f2
  replace f3 := (kf _ (by omega)).trans f3
  replace f4 := (kf _ (by omega)).trans f4
  replace f5 := (kf _ (by omega)).trans f5
  have FR : ∀ q, ¬ (q = 7 ∨ q = 8) → pic5 q = pic q := fun q hq => (kf q (by omega)).trans (FR q hq)
  have hrow2 : ∀ i, i < wF n 2 → row2 i = lvF (lfB ac t1 t2 t3 vl) n 2 i := fun i hi => (hk i hi).trans (rise_agree hrow1 i hi)
  refine v_iincN K 1 dX4_topOf_16 rfl (by decide) (by decide) ?_
  refine v_goto K 7 dX4_topOf_19 (by decide) ?_
  refine v_iload_n K 2 dX4_topOf_7 rfl rfl ?_
  refine v_iconst (v := nI 5) K dX4_topOf_8 (by decide) ?_
  refine v_icmp_ge K 22 dX4_topOf_9 (by decide) rfl rfl (fun c => absurd c (by decide)) (fun _ => ?_)
  refine v_aload_n K 0 dX4_topOf_12 rfl rfl ?_
  refine cl_X4_36 K dX4_topOf_13 e0 (c_X4_rise l D cA base pic5 aT aR (wF n 2) row2 ⟨e0, e1⟩ (Nat.le_trans (wF_le n 2) hn)) rfl rfl ⟨by decide, by decide⟩ (Nat.le_of_ble_eq_true rfl) ⟨by decide, by decide⟩ (fun pic7 hx8 => ?_)
  obtain ⟨⟨row3, ⟨k0, k1⟩, hk⟩, kf⟩ := hx8
  replace e0 := k0
  replace e1 := k1
  replace f0 := (kf _ (by omega)).trans f0
  replace f1 := (kf _ (by omega)).trans f1
  replace f2 := (kf _ (by omega)).trans f2
  replace f3 := (kf _ (by omega)).trans f3
  replace f4 := (kf _ (by omega)).trans f4
  replace f5 := (kf _ (by omega)).trans f5
  have FR : ∀ q, ¬ (q = 7 ∨ q = 8) → pic7 q = pic q := fun q hq => (kf q (by omega)).trans (FR q hq)
  have hrow3 : ∀ i, i < wF n 3 → row3 i = lvF (lfB ac t1 t2 t3 vl) n 3 i := fun i hi => (hk i hi).trans (rise_agree hrow2 i hi)
  refine v_iincN K 1 dX4_topOf_16 rfl (by decide) (by decide) ?_
  refine v_goto K 7 dX4_topOf_19 (by decide) ?_
  refine v_iload_n K 2 dX4_topOf_7 rfl rfl ?_
  refine v_iconst (v := nI 5) K dX4_topOf_8 (by decide) ?_
  refine v_icmp_ge K 22 dX4_topOf_9 (by decide) rfl rfl (fun c => absurd c (by decide)) (fun _ => ?_)
  refine v_aload_n K 0 dX4_topOf_12 rfl rfl ?_
  refine cl_X4_36 K dX4_topOf_13 e0 (c_X4_rise l D cA base pic7 aT aR (wF n 3) row3 ⟨e0, e1⟩ (Nat.le_trans (wF_le n 3) hn)) rfl rfl ⟨by decide, by decide⟩ (Nat.le_of_ble_eq_true rfl) ⟨by decide, by decide⟩ (fun pic9 hx10 => ?_)
  obtain ⟨⟨row4, ⟨k0, k1⟩, hk⟩, kf⟩ := hx10
  replace e0 := k0
  replace e1 := k1
  replace f0 := (kf _ (by omega)).trans f0
  replace f1 := (kf _ (by omega)).trans f1
  replace f2 := (kf _ (by omega)).trans f2
  replace f3 := (kf _ (by omega)).trans f3
  replace f4 := (kf _ (by omega)).trans f4
  replace f5 := (kf _ (by omega)).trans f5
  have FR : ∀ q, ¬ (q = 7 ∨ q = 8) → pic9 q = pic q := fun q hq => (kf q (by omega)).trans (FR q hq)
  have hrow4 : ∀ i, i < wF n 4 → row4 i = lvF (lfB ac t1 t2 t3 vl) n 4 i := fun i hi => (hk i hi).trans (rise_agree hrow3 i hi)
  refine v_iincN K 1 dX4_topOf_16 rfl (by decide) (by decide) ?_
  refine v_goto K 7 dX4_topOf_19 (by decide) ?_
  refine v_iload_n K 2 dX4_topOf_7 rfl rfl ?_
  refine v_iconst (v := nI 5) K dX4_topOf_8 (by decide) ?_
  refine v_icmp_ge K 22 dX4_topOf_9 (by decide) rfl rfl (fun c => absurd c (by decide)) (fun _ => ?_)
  refine v_aload_n K 0 dX4_topOf_12 rfl rfl ?_
  refine cl_X4_36 K dX4_topOf_13 e0 (c_X4_rise l D cA base pic9 aT aR (wF n 4) row4 ⟨e0, e1⟩ (Nat.le_trans (wF_le n 4) hn)) rfl rfl ⟨by decide, by decide⟩ (Nat.le_of_ble_eq_true rfl) ⟨by decide, by decide⟩ (fun pic11 hx12 => ?_)
  obtain ⟨⟨row5, ⟨k0, k1⟩, hk⟩, kf⟩ := hx12
  replace e0 := k0
  replace e1 := k1
  replace f0 := (kf _ (by omega)).trans f0
  replace f1 := (kf _ (by omega)).trans f1
  replace f2 := (kf _ (by omega)).trans f2
  replace f3 := (kf _ (by omega)).trans f3
  replace f4 := (kf _ (by omega)).trans f4
  replace f5 := (kf _ (by omega)).trans f5
  have FR : ∀ q, ¬ (q = 7 ∨ q = 8) → pic11 q = pic q := fun q hq => (kf q (by omega)).trans (FR q hq)
  have hrow5 : ∀ i, i < wF n 5 → row5 i = lvF (lfB ac t1 t2 t3 vl) n 5 i := fun i hi => (hk i hi).trans (rise_agree hrow4 i hi)
  refine v_iincN K 1 dX4_topOf_16 rfl (by decide) (by decide) ?_
  refine v_goto K 7 dX4_topOf_19 (by decide) ?_
  refine v_iload_n K 2 dX4_topOf_7 rfl rfl ?_
  refine v_iconst (v := nI 5) K dX4_topOf_8 (by decide) ?_
  refine v_icmp_ge K 22 dX4_topOf_9 (by decide) rfl rfl (fun _ => ?_) (fun c => absurd c (by decide))
  have hw5 := wF5 hn
  refine v_aload_n K 0 dX4_topOf_22 rfl rfl ?_
  refine gf_X4_21 K dX4_topOf_23 e0 rfl ?_
  refine v_if_ne K 33 dX4_topOf_26 (by decide) (nI_toInt (by omega)) (fun c26 => ?_) (fun c26 => ?_)
  · refine v_aload_n K 0 dX4_topOf_33 rfl rfl ?_
    refine gf_X4_9 K dX4_topOf_34 e0 rfl ?_
    refine v_iconst (v := nI 0) K dX4_topOf_37 (by decide) ?_
    refine v_lald K dX4_topOf_38 e1 (show (0 : Nat) < 32 by decide) (by decide) ?_
    exact v_lret K dX4_topOf_39 hr hlk (by decide) (by decide) (⟨root_a hn hrow5 c26, ⟨_, _, e0, e1⟩, FR⟩)
  · refine v_lconst (v := 0) K dX4_topOf_29 (by decide) ?_
    refine v_goto K 39 dX4_topOf_30 (by decide) ?_
    exact v_lret K dX4_topOf_39 hr hlk (by decide) (by decide) (⟨root_b hn c26, ⟨_, _, e0, e1⟩, FR⟩)

set_option maxHeartbeats 4000000 in
set_option maxRecDepth 100000 in
theorem l_X4_pathOf {p : Program} {l : Launch} {e : Env} {s : State} {m : MethodId} {args : Array Value} {below : List Frame} {meth : Method} {c : Code} {Q : State → Prop} {D : va_G} {cA : Nat → ClassId} {base : Nat} {cw : Cond} (K : KX p m c cX4_pathOf 7 s args cw RX4 D cA) (aT aR aO aG n i : Nat) (f dg : Nat → Int64) (hn : n ≤ 32) (hi : i < n) (pic0 : PIC) (kx : ∀ (pic1 : PIC), (∃ w g, TreeP pic1 cA aT aR w g) → OutP pic1 cA aO aG (pdF f n i dg 5).2 (pdF f n i dg 5).1 → (∀ q, ¬ (7 ≤ q ∧ q < 11) → pic1 q = pic0 q) → V p l e { frames := 4, cells := 0, slots := 0, locals := 96 } s m args below meth c Q D base 7 pic1 (lvOf [(0, .ref aT)]) 65 [] 0 0) : ∀ (g k : Nat) (pic : PIC) (row : Nat → Int64), 5 - k < g → k ≤ 5 → TreeP pic cA aT aR (wF n k) row → (∀ j, j < wF n k → row j = lvF f n k j) → OutP pic cA aO aG (pdF f n i dg k).2 (pdF f n i dg k).1 → (∀ q, ¬ (7 ≤ q ∧ q < 11) → pic q = pic0 q) → V p l e { frames := 4, cells := 0, slots := 0, locals := 96 } s m args below meth c Q D base 7 pic (lvOf [(0, .ref aT), (3, .ref aO), (4, .int (nI (nF i k))), (5, .int (nI (k)))]) 16 [] 0 0 := by
  intro g
  induction g with
  | zero => intro k pic row h; omega
  | succ g ih =>
    intro k pic row hg hk5 hT hrow hO FR
    obtain ⟨e0, e1⟩ := hT
    obtain ⟨o0, o1⟩ := hO
    have hw := wF_le n k
    have hnk := nF_le i k
    have hbes := besF_le (m := nF i k) (by omega)
    have hpd := pdF_le f n i dg k
    refine v_iload K dX4_pathOf_16 rfl ?_
    refine v_iconst (v := nI 5) K dX4_pathOf_18 (by decide) ?_
    refine v_icmp_ge K 65 dX4_pathOf_19 (by decide) (nI_toInt (by omega)) (nI_toInt (by omega)) (fun c19 => ?_) (fun c19 => ?_)
    · obtain rfl : k = 5 := by omega
      refine v_at [(0, .ref aT)] (lcons rfl (lnil)) ?_
      exact kx pic ⟨_, _, e0, e1⟩ ⟨o0, o1⟩ FR
    · refine v_iload K dX4_pathOf_22 rfl ?_
      refine v_iconst (v := nI 1) K dX4_pathOf_24 (by decide) ?_
      refine v_ixor K dX4_pathOf_25 ?_
      refine v_top (v := .int (nI (besF (nF i k)))) (by rw [xorB _ (by omega)]) ?_
      refine v_istore K dX4_pathOf_26 (by decide) ?_
      refine v_iload K dX4_pathOf_28 rfl ?_
      refine v_aload_n K 0 dX4_pathOf_30 rfl rfl ?_
      refine gf_X4_21 K dX4_pathOf_31 e0 rfl ?_
      refine v_icmp_ge K 49 dX4_pathOf_34 (by decide) (nI_toInt (by omega)) (nI_toInt (by omega)) (fun c34 => ?_) (fun c34 => ?_)
      · refine v_aload_n K 0 dX4_pathOf_49 rfl rfl ?_
        refine cl_X4_36 K dX4_pathOf_50 e0 (c_X4_rise l D cA base pic aT aR (wF n k) row ⟨e0, e1⟩ (Nat.le_trans (wF_le n k) hn)) rfl rfl ⟨by decide, by decide⟩ (Nat.le_of_ble_eq_true rfl) ⟨by decide, by decide⟩ (fun pic1 hx2 => ?_)
        obtain ⟨⟨row1, ⟨k0, k1⟩, hk⟩, kf⟩ := hx2
        replace e0 := k0
        replace e1 := k1
        replace o0 := (kf _ (by omega)).trans o0
        replace o1 := (kf _ (by omega)).trans o1
        have FR : ∀ q, ¬ (7 ≤ q ∧ q < 11) → pic1 q = pic0 q := fun q hq => (kf q (by omega)).trans (FR q hq)
        have hrow1 : ∀ j, j < wF n (k + 1) → row1 j = lvF f n (k + 1) j := fun j hj => (hk j hj).trans (rise_agree hrow j hj)
        refine v_iload K dX4_pathOf_53 rfl ?_
        refine v_iconst (v := nI 2) K dX4_pathOf_55 (by decide) ?_
        refine v_idivN K dX4_pathOf_56 (by omega) (by omega) (by omega) ?_
        refine v_istore K dX4_pathOf_57 (by decide) ?_
        refine v_iincN K 1 dX4_pathOf_59 rfl (by decide) (by decide) ?_
        refine v_goto K 16 dX4_pathOf_62 (by decide) ?_
        refine v_at [(0, .ref aT), (3, .ref aO), (4, .int (nI (nF i (k + 1)))), (5, .int (nI ((k + 1))))] (lcons rfl (lcons rfl (lcons rfl (lcons rfl (lnil))))) ?_
        exact ih (k + 1) pic1 row1 (by omega) (by omega) ⟨e0, e1⟩ hrow1 (by rw [pdF, if_neg (by omega)]; exact ⟨o0, o1⟩) FR
      · refine v_aload_n K 3 dX4_pathOf_37 rfl rfl ?_
        refine v_aload_n K 0 dX4_pathOf_38 rfl rfl ?_
        refine gf_X4_9 K dX4_pathOf_39 e0 rfl ?_
        refine v_iload K dX4_pathOf_42 rfl ?_
        refine v_lald K dX4_pathOf_44 e1 (by omega) (by decide) ?_
        refine v_top (v := .long (lvF f n k (besF (nF i k)))) (by rw [hrow _ (by omega)]) ?_
        refine cl_X4_42 K dX4_pathOf_45 o0 (c_X2_add l D cA base pic aO aG (pdF f n i dg k).2 (pdF f n i dg k).1 _ ⟨o0, o1⟩ (by omega)) rfl rfl ⟨by decide, by decide⟩ (Nat.le_of_ble_eq_true rfl) ⟨by decide, by decide⟩ (fun x45 pic3 hx4 => ?_)
        rcases hx4 with ⟨rfl, -, ⟨k0, k1⟩, kf⟩ | ⟨rfl, rfl, h5⟩
        · replace e0 := (kf _ (by omega)).trans e0
          replace e1 := (kf _ (by omega)).trans e1
          replace o0 := k0
          replace o1 := k1
          have FR : ∀ q, ¬ (7 ≤ q ∧ q < 11) → pic3 q = pic0 q := fun q hq => (kf q (by omega)).trans (FR q hq)
          refine v_pop K dX4_pathOf_48 rfl ?_
          refine v_aload_n K 0 dX4_pathOf_49 rfl rfl ?_
          refine cl_X4_36 K dX4_pathOf_50 e0 (c_X4_rise l D cA base pic3 aT aR (wF n k) row ⟨e0, e1⟩ (Nat.le_trans (wF_le n k) hn)) rfl rfl ⟨by decide, by decide⟩ (Nat.le_of_ble_eq_true rfl) ⟨by decide, by decide⟩ (fun pic5 hx6 => ?_)
          obtain ⟨⟨row1, ⟨k0, k1⟩, hk⟩, kf⟩ := hx6
          replace e0 := k0
          replace e1 := k1
          replace o0 := (kf _ (by omega)).trans o0
          replace o1 := (kf _ (by omega)).trans o1
          have FR : ∀ q, ¬ (7 ≤ q ∧ q < 11) → pic5 q = pic0 q := fun q hq => (kf q (by omega)).trans (FR q hq)
          have hrow1 : ∀ j, j < wF n (k + 1) → row1 j = lvF f n (k + 1) j := fun j hj => (hk j hj).trans (rise_agree hrow j hj)
          refine v_iload K dX4_pathOf_53 rfl ?_
          refine v_iconst (v := nI 2) K dX4_pathOf_55 (by decide) ?_
          refine v_idivN K dX4_pathOf_56 (by omega) (by omega) (by omega) ?_
          refine v_istore K dX4_pathOf_57 (by decide) ?_
          refine v_iincN K 1 dX4_pathOf_59 rfl (by decide) (by decide) ?_
          refine v_goto K 16 dX4_pathOf_62 (by decide) ?_
          refine v_at [(0, .ref aT), (3, .ref aO), (4, .int (nI (nF i (k + 1)))), (5, .int (nI ((k + 1))))] (lcons rfl (lcons rfl (lcons rfl (lcons rfl (lnil))))) ?_
          exact ih (k + 1) pic5 row1 (by omega) (by omega) ⟨e0, e1⟩ hrow1 (by rw [pdF, if_pos (by omega)]; exact ⟨o0, o1⟩) FR
        · exact absurd h5 (by omega)

set_option maxHeartbeats 4000000 in
set_option maxRecDepth 100000 in
theorem c_X4_pathOf (l : Launch) (D : va_G) (cA : Nat → ClassId) (base : Nat) (pic : PIC) (aT aR w : Nat) (g0 : Nat → Int64) (b aB r1 r2 r3 r4 r5 n : Nat) (kept fs : Int32) (rd fb : Int64) (ac t1 t2 t3 : Nat → Int32) (vl : Nat → Int64) (aO aG no i : Nat) (dg : Nat → Int64) (hT : TreeP pic cA aT aR w g0) (hB : BlkP pic cA b aB r1 r2 r3 r4 r5 (nI n) kept fs rd fb ac t1 t2 t3 vl) (hO : OutP pic cA aO aG no dg) (hb : 20 ≤ b) (hn : n ≤ 32) (hi : i < n)  : CV l yX4_pathOf cX4_pathOf 7 none { frames := 4, cells := 0, slots := 0, locals := 96 } 0 0 D cA base pic [.ref aT, .ref aB, .int (nI i), .ref aO] (fun pic1 => (∃ w1 g, TreeP pic1 cA aT aR w1 g) ∧ OutP pic1 cA aO aG (pdF (lfB ac t1 t2 t3 vl) n i dg 5).2 (pdF (lfB ac t1 t2 t3 vl) n i dg 5).1 ∧ ∀ q, ¬ (7 ≤ q ∧ q < 11) → pic1 q = pic q) := by
  refine ofV (by decide) (Nat.le_of_ble_eq_true rfl) ?_
  intro p e s m below meth c K hr hlk hnm
  have FR : ∀ q, ¬ (7 ≤ q ∧ q < 11) → pic q = pic q := fun _ _ => rfl
  obtain ⟨e0, e1⟩ := hT
  obtain ⟨f0, f1, f2, f3, f4, f5⟩ := hB
  obtain ⟨o0, o1⟩ := hO
  refine v_aload_n K 3 dX4_pathOf_0 rfl rfl ?_
  refine v_iconst (v := nI 0) K dX4_pathOf_1 (by decide) ?_
  refine pf_X4_39 K dX4_pathOf_2 o0 (Nat.le_of_ble_eq_true rfl) (fun pic3 zg1 zf2 => ?_)
  replace e0 := (zf2 _ (by omega)).trans e0
  replace e1 := (zf2 _ (by omega)).trans e1
  replace f0 := (zf2 _ (by omega)).trans f0
  replace f1 := (zf2 _ (by omega)).trans f1
  replace f2 := (zf2 _ (by omega)).trans f2
  replace f3 := (zf2 _ (by omega)).trans f3
  replace f4 := (zf2 _ (by omega)).trans f4
  replace f5 := (zf2 _ (by omega)).trans f5
  replace o0 := zg1
  replace o1 := (zf2 _ (by omega)).trans o1
  have FR : ∀ q, ¬ (7 ≤ q ∧ q < 11) → pic3 q = pic q := fun q hq => (zf2 q (by omega)).trans (FR q hq)
  refine v_aload_n K 0 dX4_pathOf_5 rfl rfl ?_
  refine v_aload_n K 1 dX4_pathOf_6 rfl rfl ?_
  refine cl_X4_32 K dX4_pathOf_7 e0 (c_X4_plant l D cA base pic3 aT aR w g0 b aB r1 r2 r3 r4 r5 n kept fs rd fb ac t1 t2 t3 vl ⟨e0, e1⟩ ⟨f0, f1, f2, f3, f4, f5⟩ hb hn) rfl rfl ⟨by decide, by decide⟩ (Nat.le_of_ble_eq_true rfl) ⟨by decide, by decide⟩ (fun pic4 hx5 => ?_)
  obtain ⟨⟨row0, ⟨k0, k1⟩, hrow0⟩, kf⟩ := hx5
  replace e0 := k0
  replace e1 := k1
  replace f0 := (kf _ (by omega)).trans f0
  replace f1 := (kf _ (by omega)).trans f1
  replace f2 := (kf _ (by omega)).trans f2
  replace f3 := (kf _ (by omega)).trans f3
  replace f4 := (kf _ (by omega)).trans f4
  replace f5 := (kf _ (by omega)).trans f5
  replace o0 := (kf _ (by omega)).trans o0
  replace o1 := (kf _ (by omega)).trans o1
  have FR : ∀ q, ¬ (7 ≤ q ∧ q < 11) → pic4 q = pic q := fun q hq => (kf q (by omega)).trans (FR q hq)
  refine v_iload_n K 2 dX4_pathOf_10 rfl rfl ?_
  refine v_istore K dX4_pathOf_11 (by decide) ?_
  refine v_iconst (v := nI 0) K dX4_pathOf_13 (by decide) ?_
  refine v_istore K dX4_pathOf_14 (by decide) ?_
  refine v_at [(0, .ref aT), (3, .ref aO), (4, .int (nI (nF i 0))), (5, .int (nI 0))] (lcons rfl (lcons rfl (lcons rfl (lcons rfl (lnil))))) ?_
  refine l_X4_pathOf K aT aR aO aG n i (lfB ac t1 t2 t3 vl) dg hn hi pic (fun pic1 h1 h2 h3 => ?_) 6 0 pic4 row0 (by omega) (by omega) ⟨e0, e1⟩ hrow0 ⟨o0, o1⟩ FR
  exact v_vret K dX4_pathOf_65 hr hlk (by decide) (by decide) (⟨h1, h2, h3⟩)

set_option maxHeartbeats 4000000 in
set_option maxRecDepth 100000 in
theorem l_X2_leadsTo {p : Program} {l : Launch} {e : Env} {s : State} {m : MethodId} {args : Array Value} {below : List Frame} {meth : Method} {c : Code} {Q : State → Prop} {D : va_G} {cA : Nat → ClassId} {base : Nat} {cw : Cond} (K : KX p m c cX2_leadsTo 15 s args cw RX2 D cA) (pic : PIC) (aO aG no n i : Nat) (dg : Nat → Int64) (root lf : Int64) (hO : OutP pic cA aO aG no dg) (hno : no ≤ 5) (hn : n ≤ 32) (hi : i < n) (kr : ∀ (x : Int32) (pc : Nat) (lv : LV), decode cX2_leadsTo pc = .ok (.ireturn, 1) → ((x = 1 ∧ ldOK dg no lf n i root) ∨ (x = 0 ∧ ¬ ldOK dg no lf n i root)) → V p l e { frames := 1, cells := 0, slots := 0, locals := 25 } s m args below meth c Q D base 15 pic lv pc [.int x] 0 0) : ∀ (g k tk : Nat) (d : Int64), 5 - k < g → k ≤ 5 → tk ≤ no → ldF dg no lf n i k = some (d, tk) → V p l e { frames := 1, cells := 0, slots := 0, locals := 25 } s m args below meth c Q D base 15 pic (lvOf [(0, .ref aO), (1, .long root), (7, .long (d)), (9, .int (nI (nF i k))), (10, .int (nI (wF n k))), (11, .int (nI (tk))), (12, .int (nI (k)))]) 17 [] 0 0 := by
  obtain ⟨o0, o1⟩ := hO
  intro g
  induction g with
  | zero => intro k tk d h; omega
  | succ g ih =>
    intro k tk d hg hk5 htk hld
    have hw := wF_le n k
    have hnk := nF_le i k
    have hbes := besF_le (m := nF i k) (by omega)
    refine v_iload K dX2_leadsTo_17 rfl ?_
    refine v_iconst (v := nI 5) K dX2_leadsTo_19 (by decide) ?_
    refine v_icmp_ge K 104 dX2_leadsTo_20 (by decide) (nI_toInt (by omega)) (nI_toInt (by omega)) (fun c20 => ?_) (fun c20 => ?_)
    · refine v_iload K dX2_leadsTo_104 rfl ?_
      refine v_aload_n K 0 dX2_leadsTo_106 rfl rfl ?_
      refine gf_X2_15 K dX2_leadsTo_107 o0 rfl ?_
      refine v_icmp_ne K 124 dX2_leadsTo_110 (by decide) (nI_toInt (by omega)) (nI_toInt (by omega)) (fun c110 => ?_) (fun c110 => ?_)
      · refine v_iconst (v := nI 0) K dX2_leadsTo_124 (by decide) ?_
        exact kr _ 125 _ dX2_leadsTo_125 (Or.inr ⟨rfl, ld_ne hld (by omega) (by omega)⟩)
      · refine v_lload K dX2_leadsTo_113 rfl ?_
        refine v_lload_n K 1 dX2_leadsTo_115 rfl rfl ?_
        refine v_lcmp K dX2_leadsTo_116 ?_
        refine v_if_ne K 124 dX2_leadsTo_117 (by decide) rfl (fun c117 => ?_) (fun c117 => ?_)
        · refine v_iconst (v := nI 0) K dX2_leadsTo_124 (by decide) ?_
          exact kr _ 125 _ dX2_leadsTo_125 (Or.inr ⟨rfl, ld_nd hld (by omega) (fun h => c117 (lgc0.mpr h))⟩)
        · refine v_iconst (v := nI 1) K dX2_leadsTo_120 (by decide) ?_
          refine v_goto K 125 dX2_leadsTo_121 (by decide) ?_
          exact kr _ 125 _ dX2_leadsTo_125 (Or.inl ⟨rfl, ld_ok hld (by omega) (by omega) (lgc0.mp c117)⟩)
    · refine v_iload K dX2_leadsTo_23 rfl ?_
      refine v_iconst (v := nI 1) K dX2_leadsTo_25 (by decide) ?_
      refine v_ixor K dX2_leadsTo_26 ?_
      refine v_top (v := .int (nI (besF (nF i k)))) (by rw [xorB _ (by omega)]) ?_
      refine v_iload K dX2_leadsTo_27 rfl ?_
      refine v_icmp_ge K 81 dX2_leadsTo_29 (by decide) (nI_toInt (by omega)) (nI_toInt (by omega)) (fun c29 => ?_) (fun c29 => ?_)
      · refine v_iload K dX2_leadsTo_81 rfl ?_
        refine v_iconst (v := nI 2) K dX2_leadsTo_83 (by decide) ?_
        refine v_idivN K dX2_leadsTo_84 (by omega) (by omega) (by omega) ?_
        refine v_istore K dX2_leadsTo_85 (by decide) ?_
        refine v_iload K dX2_leadsTo_87 rfl ?_
        refine v_iconst (v := nI 2) K dX2_leadsTo_89 (by decide) ?_
        refine v_idivN K dX2_leadsTo_90 (by omega) (by omega) (by omega) ?_
        refine v_iload K dX2_leadsTo_91 rfl ?_
        refine v_iconst (v := nI 2) K dX2_leadsTo_93 (by decide) ?_
        refine v_iremN K dX2_leadsTo_94 (by omega) (by omega) (by omega) ?_
        refine v_iaddN K dX2_leadsTo_95 ?_
        refine v_top (v := .int (nI (wF n (k + 1)))) (by rw [show wF n (k + 1) = wF n k / 2 + wF n k % 2 from by show (wF n k + 1) / 2 = _; omega]) ?_
        refine v_istore K dX2_leadsTo_96 (by decide) ?_
        refine v_iincN K 1 dX2_leadsTo_98 rfl (by decide) (by decide) ?_
        refine v_goto K 17 dX2_leadsTo_101 (by decide) ?_
        refine v_at [(0, .ref aO), (1, .long root), (7, .long (d)), (9, .int (nI (nF i (k + 1)))), (10, .int (nI (wF n (k + 1)))), (11, .int (nI (tk))), (12, .int (nI ((k + 1))))] (lcons rfl (lcons rfl (lcons rfl (lcons rfl (lcons rfl (lcons rfl (lcons rfl (lnil)))))))) ?_
        exact ih (k + 1) tk d (by omega) (by omega) htk (by rw [ldF, hld]; show (if _ then _ else _) = _; rw [if_neg (by omega)])
      · refine v_iload K dX2_leadsTo_32 rfl ?_
        refine v_aload_n K 0 dX2_leadsTo_34 rfl rfl ?_
        refine gf_X2_15 K dX2_leadsTo_35 o0 rfl ?_
        refine v_icmp_lt K 43 dX2_leadsTo_38 (by decide) (nI_toInt (by omega)) (nI_toInt (by omega)) (fun c38 => ?_) (fun c38 => ?_)
        · refine v_aload_n K 0 dX2_leadsTo_43 rfl rfl ?_
          refine gf_X2_9 K dX2_leadsTo_44 o0 rfl ?_
          refine v_iload K dX2_leadsTo_47 rfl ?_
          refine v_lald K dX2_leadsTo_49 o1 (by omega) (by decide) ?_
          refine v_lstore K dX2_leadsTo_50 (by decide) ?_
          refine v_iload K dX2_leadsTo_52 rfl ?_
          refine v_iconst (v := nI 2) K dX2_leadsTo_54 (by decide) ?_
          refine v_iremN K dX2_leadsTo_55 (by omega) (by omega) (by omega) ?_
          refine v_if_ne K 69 dX2_leadsTo_56 (by decide) (nI_toInt (by omega)) (fun c56 => ?_) (fun c56 => ?_)
          · refine v_lload K dX2_leadsTo_69 rfl ?_
            refine v_lload K dX2_leadsTo_71 rfl ?_
            refine cl_X2_19 K dX2_leadsTo_73 (c_X5_mix l D cA base pic _ _) rfl rfl ⟨by decide, by decide⟩ (Nat.le_of_ble_eq_true rfl) ⟨by decide, by decide⟩ (fun x73 pic1 hx2 => ?_)
            obtain ⟨rfl, rfl⟩ := hx2
            refine v_top (v := .long (mixS (nF i k) d (dg tk))) (by rw [mixS, if_neg (by omega)]) ?_
            refine v_lstore K dX2_leadsTo_76 (by decide) ?_
            refine v_iincN K 1 dX2_leadsTo_78 rfl (by decide) (by decide) ?_
            refine v_iload K dX2_leadsTo_81 rfl ?_
            refine v_iconst (v := nI 2) K dX2_leadsTo_83 (by decide) ?_
            refine v_idivN K dX2_leadsTo_84 (by omega) (by omega) (by omega) ?_
            refine v_istore K dX2_leadsTo_85 (by decide) ?_
            refine v_iload K dX2_leadsTo_87 rfl ?_
            refine v_iconst (v := nI 2) K dX2_leadsTo_89 (by decide) ?_
            refine v_idivN K dX2_leadsTo_90 (by omega) (by omega) (by omega) ?_
            refine v_iload K dX2_leadsTo_91 rfl ?_
            refine v_iconst (v := nI 2) K dX2_leadsTo_93 (by decide) ?_
            refine v_iremN K dX2_leadsTo_94 (by omega) (by omega) (by omega) ?_
            refine v_iaddN K dX2_leadsTo_95 ?_
            refine v_top (v := .int (nI (wF n (k + 1)))) (by rw [show wF n (k + 1) = wF n k / 2 + wF n k % 2 from by show (wF n k + 1) / 2 = _; omega]) ?_
            refine v_istore K dX2_leadsTo_96 (by decide) ?_
            refine v_iincN K 1 dX2_leadsTo_98 rfl (by decide) (by decide) ?_
            refine v_goto K 17 dX2_leadsTo_101 (by decide) ?_
            refine v_at [(0, .ref aO), (1, .long root), (7, .long (mixS (nF i k) d (dg tk))), (9, .int (nI (nF i (k + 1)))), (10, .int (nI (wF n (k + 1)))), (11, .int (nI (tk + 1))), (12, .int (nI ((k + 1))))] (lcons rfl (lcons rfl (lcons rfl (lcons rfl (lcons rfl (lcons rfl (lcons rfl (lnil)))))))) ?_
            exact ih (k + 1) (tk + 1) (mixS (nF i k) d (dg tk)) (by omega) (by omega) (by omega) (by rw [ldF, hld]; show (if _ then _ else _) = _; rw [if_pos (by omega), if_pos (by omega)])
          · refine v_lload K dX2_leadsTo_59 rfl ?_
            refine v_lload K dX2_leadsTo_61 rfl ?_
            refine cl_X2_19 K dX2_leadsTo_63 (c_X5_mix l D cA base pic _ _) rfl rfl ⟨by decide, by decide⟩ (Nat.le_of_ble_eq_true rfl) ⟨by decide, by decide⟩ (fun x63 pic3 hx4 => ?_)
            obtain ⟨rfl, rfl⟩ := hx4
            refine v_goto K 76 dX2_leadsTo_66 (by decide) ?_
            refine v_top (v := .long (mixS (nF i k) d (dg tk))) (by rw [mixS, if_pos (by omega)]) ?_
            refine v_lstore K dX2_leadsTo_76 (by decide) ?_
            refine v_iincN K 1 dX2_leadsTo_78 rfl (by decide) (by decide) ?_
            refine v_iload K dX2_leadsTo_81 rfl ?_
            refine v_iconst (v := nI 2) K dX2_leadsTo_83 (by decide) ?_
            refine v_idivN K dX2_leadsTo_84 (by omega) (by omega) (by omega) ?_
            refine v_istore K dX2_leadsTo_85 (by decide) ?_
            refine v_iload K dX2_leadsTo_87 rfl ?_
            refine v_iconst (v := nI 2) K dX2_leadsTo_89 (by decide) ?_
            refine v_idivN K dX2_leadsTo_90 (by omega) (by omega) (by omega) ?_
            refine v_iload K dX2_leadsTo_91 rfl ?_
            refine v_iconst (v := nI 2) K dX2_leadsTo_93 (by decide) ?_
            refine v_iremN K dX2_leadsTo_94 (by omega) (by omega) (by omega) ?_
            refine v_iaddN K dX2_leadsTo_95 ?_
            refine v_top (v := .int (nI (wF n (k + 1)))) (by rw [show wF n (k + 1) = wF n k / 2 + wF n k % 2 from by show (wF n k + 1) / 2 = _; omega]) ?_
            refine v_istore K dX2_leadsTo_96 (by decide) ?_
            refine v_iincN K 1 dX2_leadsTo_98 rfl (by decide) (by decide) ?_
            refine v_goto K 17 dX2_leadsTo_101 (by decide) ?_
            refine v_at [(0, .ref aO), (1, .long root), (7, .long (mixS (nF i k) d (dg tk))), (9, .int (nI (nF i (k + 1)))), (10, .int (nI (wF n (k + 1)))), (11, .int (nI (tk + 1))), (12, .int (nI ((k + 1))))] (lcons rfl (lcons rfl (lcons rfl (lcons rfl (lcons rfl (lcons rfl (lcons rfl (lnil)))))))) ?_
            exact ih (k + 1) (tk + 1) (mixS (nF i k) d (dg tk)) (by omega) (by omega) (by omega) (by rw [ldF, hld]; show (if _ then _ else _) = _; rw [if_pos (by omega), if_pos (by omega)])
        · refine v_iconst (v := nI 0) K dX2_leadsTo_41 (by decide) ?_
          exact kr _ 42 _ dX2_leadsTo_42 (Or.inr ⟨rfl, ld_out hld (by omega) (by omega) (by omega)⟩)

set_option maxHeartbeats 4000000 in
set_option maxRecDepth 100000 in
theorem c_X2_leadsTo (l : Launch) (D : va_G) (cA : Nat → ClassId) (base : Nat) (pic : PIC) (aO aG no n i : Nat) (dg : Nat → Int64) (root lf : Int64) (hO : OutP pic cA aO aG no dg) (hno : no ≤ 5) (hn : n ≤ 32) (hi : i < n)  : CI l yX2_leadsTo cX2_leadsTo 15 (some .boolean) { frames := 1, cells := 0, slots := 0, locals := 25 } 0 0 D cA base pic [.ref aO, .long root, .long lf, .int (nI i), .int (nI n)] (fun x pic1 => (pic = pic1 ∧ x = 1 ∧ ldOK dg no lf n i root) ∨ (pic = pic1 ∧ x = 0 ∧ ¬ ldOK dg no lf n i root)) := by
  refine ofI (by decide) (Nat.le_of_ble_eq_true rfl) ?_
  intro p e s m below meth c K hr hlk hnm
  obtain ⟨o0, o1⟩ := hO
  refine v_lload_n K 3 dX2_leadsTo_0 rfl rfl ?_
  refine v_lstore K dX2_leadsTo_1 (by decide) ?_
  refine v_iload K dX2_leadsTo_3 rfl ?_
  refine v_istore K dX2_leadsTo_5 (by decide) ?_
  refine v_iload K dX2_leadsTo_7 rfl ?_
  refine v_istore K dX2_leadsTo_9 (by decide) ?_
  refine v_iconst (v := nI 0) K dX2_leadsTo_11 (by decide) ?_
  refine v_istore K dX2_leadsTo_12 (by decide) ?_
  refine v_iconst (v := nI 0) K dX2_leadsTo_14 (by decide) ?_
  refine v_istore K dX2_leadsTo_15 (by decide) ?_
  refine v_at [(0, .ref aO), (1, .long root), (7, .long lf), (9, .int (nI (nF i 0))), (10, .int (nI (wF n 0))), (11, .int (nI 0)), (12, .int (nI 0))] (lcons rfl (lcons rfl (lcons rfl (lcons rfl (lcons rfl (lcons rfl (lcons rfl (lnil)))))))) ?_
  exact l_X2_leadsTo K pic aO aG no n i dg root lf ⟨o0, o1⟩ hno hn hi (fun x pc lv d h => v_zret K d hr (narB (h.elim (fun h => Or.inr h.1) (fun h => Or.inl h.1))) hlk (by decide) (by decide) (h.elim (fun h => Or.inl ⟨rfl, h⟩) (fun h => Or.inr ⟨rfl, h⟩))) 6 0 0 lf (by omega) (by omega) (by omega) rfl

