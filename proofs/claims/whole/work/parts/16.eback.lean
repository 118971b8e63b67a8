set_option maxHeartbeats 4000000 in
set_option maxRecDepth 100000 in
theorem c_X5_back (l : Launch) (D : va_G) (cA : Nat → ClassId) (base : Nat) (pic : PIC) (d : Nat) (lim use beg cau : Nat → Int32) (ad : Nat → Nat) (nb ns hw : Nat) (cl : Int32) (B : Nat → Bk) (S : Nat → Sb) (n : Int32) (hE : EObj pic ad nb ns cl) (hC : CallsA pic cA ad d lim use beg cau) (hd : d ≤ 8) (hBs : BlksP pic cA ad hw B) (hSs : SubsP pic cA ad ns S) (hnb : nb ≤ hw) (hhw : hw ≤ 40) (hBn : ∀ j, j < hw → bN (B j) ≤ 32) (hns : ns ≤ 8) (hSb : ∀ j, j < ns → (S j).2.1 ≤ nb)  : CI l yX5_back cX5_back 4 (some .int) { frames := 2, cells := 0, slots := 0, locals := 45 } 0 0 D cA base pic [.ref (ad 0), .int n] (fun x9 pic1 => x9 = (backF d nb B S n).1 ∧ EObj pic1 ad (backF d nb B S n).2.1 ns cl ∧ SubsP pic1 cA ad ns (backF d nb B S n).2.2 ∧ ∀ q, ¬ (q = 0 ∨ 20 ≤ q ∧ q < 28) → pic1 q = pic q) := by
  refine ofI (by decide) (Nat.le_of_ble_eq_true rfl) ?_
  intro p e s m below meth c K hr hlk hnm
  have FR : ∀ q, ¬ (q = 0 ∨ 20 ≤ q ∧ q < 28) → pic q = pic q := fun _ _ => rfl
  have fE := hE
  unfold EObj at fE
  have f0 := hC.1
  refine v_iload_n K 1 dX5_back_0 rfl rfl ?_
  refine v_if_lt K 12 dX5_back_1 (by decide) rfl (fun c1 => ?_) (fun c1 => ?_)
  · refine v_iconst (v := -1) K dX5_back_12 (by decide) ?_
    exact v_iret K dX5_back_13 hr hlk (by decide) (by decide) (by first | exact (by rw [backF_0 (by omega)]; exact ⟨rfl, hE, hSs, FR⟩) | exact (by rw [backF_1 (by omega) (by omega)]; exact ⟨rfl, hE, hSs, FR⟩) | exact (by rw [backF_2 (by omega) (by omega), hbx]; exact ⟨congrArg (fun z => nI (sumK B (nb - n1) z)) (by omega), fE, hS9, FR⟩))
  · refine v_iload_n K 1 dX5_back_4 rfl rfl ?_
    refine v_aload_n K 0 dX5_back_5 rfl rfl ?_
    refine gf_X5_90 K dX5_back_6 fE rfl ?_
    refine v_icmp_le K 14 dX5_back_9 (by decide) rfl (nI_toInt (by omega)) (fun c9 => ?_) (fun c9 => ?_)
    · refine v_aload_n K 0 dX5_back_14 rfl rfl ?_
      refine gf_X5_10 K dX5_back_15 fE rfl ?_
      refine gf_X5_47 K dX5_back_18 f0 rfl ?_
      refine v_if_le K 27 dX5_back_21 (by decide) (nI_toInt (by omega)) (fun c21 => ?_) (fun c21 => ?_)
      · obtain ⟨n1, hn1, rfl⟩ := ixN n (nb + 1) (by omega) (by omega) (by omega)
        have hbI := nI_toInt (n := n1) (by omega)
        have hbx := bx_nI (j := n1) (by omega)
        refine v_aload_n K 0 dX5_back_27 rfl rfl ?_
        refine gf_X5_90 K dX5_back_28 fE rfl ?_
        refine v_iload_n K 1 dX5_back_31 rfl rfl ?_
        refine v_isubN K dX5_back_32 (by omega) ?_
        refine v_istore_n K 2 dX5_back_33 rfl (by decide) ?_
        refine v_aload_n K 0 dX5_back_34 rfl rfl ?_
        refine v_iload_n K 2 dX5_back_35 rfl rfl ?_
        refine cl_X5_107 K dX5_back_36 fE (c_X5_keptEventsFrom l D cA base pic ad nb ns hw cl B (nb - n1) hE hBs hnb hhw hBn (by omega)) rfl rfl ⟨by decide, by decide⟩ (Nat.le_of_ble_eq_true rfl) ⟨by decide, by decide⟩ (fun x36 pic1 hx2 => ?_)
        obtain ⟨rfl, rfl⟩ := hx2
        refine v_istore_n K 3 dX5_back_39 rfl (by decide) ?_
        refine v_aload_n K 0 dX5_back_40 rfl rfl ?_
        refine v_iload_n K 2 dX5_back_41 rfl rfl ?_
        refine pf_X5_90 K dX5_back_42 fE (Nat.le_of_ble_eq_true rfl) (fun pic5 zg3 zf4 => ?_)
        replace fE := zg3
        replace f0 := (zf4 _ (by omega)).trans f0
        have FR : ∀ q, ¬ (q = 0 ∨ 20 ≤ q ∧ q < 28) → pic5 q = pic q := fun q hq => (zf4 q (by omega)).trans (FR q hq)
        have FR0 := zf4
        refine v_aload_n K 0 dX5_back_45 rfl rfl ?_
        refine cl_X5_111 K dX5_back_46 fE (c_X5_moveSubscribersBack l D cA base pic5 ad (nb - n1) ns cl S fE (hSs.kept (fun q hq => (FR0 q (by omega)))) hns (by omega) (fun j hj => Nat.le_trans (hSb j hj) (by omega))) rfl rfl ⟨by decide, by decide⟩ (Nat.le_of_ble_eq_true rfl) ⟨by decide, by decide⟩ (fun pic6 hx7 => ?_)
        obtain ⟨k0, kf⟩ := hx7
        replace fE := (kf _ (by omega)).trans fE
        replace f0 := (kf _ (by omega)).trans f0
        have FR : ∀ q, ¬ (q = 0 ∨ 20 ≤ q ∧ q < 28) → pic6 q = pic q := fun q hq => (kf q (by omega)).trans (FR q hq)
        have hS9 := k0
        refine v_iload_n K 3 dX5_back_49 rfl rfl ?_
        exact v_iret K dX5_back_50 hr hlk (by decide) (by decide) (by first | exact (by rw [backF_0 (by omega)]; exact ⟨rfl, hE, hSs, FR⟩) | exact (by rw [backF_1 (by omega) (by omega)]; exact ⟨rfl, hE, hSs, FR⟩) | exact (by rw [backF_2 (by omega) (by omega), hbx]; exact ⟨congrArg (fun z => nI (sumK B (nb - n1) z)) (by omega), fE, hS9, FR⟩))
      · refine v_bipush (v := -2) K dX5_back_24 (by decide) ?_
        exact v_iret K dX5_back_26 hr hlk (by decide) (by decide) (by first | exact (by rw [backF_0 (by omega)]; exact ⟨rfl, hE, hSs, FR⟩) | exact (by rw [backF_1 (by omega) (by omega)]; exact ⟨rfl, hE, hSs, FR⟩) | exact (by rw [backF_2 (by omega) (by omega), hbx]; exact ⟨congrArg (fun z => nI (sumK B (nb - n1) z)) (by omega), fE, hS9, FR⟩))
    · refine v_iconst (v := -1) K dX5_back_12 (by decide) ?_
      exact v_iret K dX5_back_13 hr hlk (by decide) (by decide) (by first | exact (by rw [backF_0 (by omega)]; exact ⟨rfl, hE, hSs, FR⟩) | exact (by rw [backF_1 (by omega) (by omega)]; exact ⟨rfl, hE, hSs, FR⟩) | exact (by rw [backF_2 (by omega) (by omega), hbx]; exact ⟨congrArg (fun z => nI (sumK B (nb - n1) z)) (by omega), fE, hS9, FR⟩))

def swp (nb r : Nat) : Nat := if 94 ≤ r ∧ r < 100 then r + (6 + 6 * nb) else if 100 + 6 * nb ≤ r ∧ r < 106 + 6 * nb then r - (6 + 6 * nb) else r
theorem swp_inj (nb : Nat) : ∀ a b, swp nb a = swp nb b → a = b := by
  intro a b h
  unfold swp at h
  split at h <;> split at h <;> (try split at h) <;> (try split at h) <;> omega
theorem swp_o {nb k : Nat} (h : k < 6) : swp nb (94 + k) = 100 + 6 * nb + k := by unfold swp; rw [if_pos (by omega)]; omega
theorem swp_b {nb k : Nat} (h : k < 6) : swp nb (100 + 6 * nb + k) = 94 + k := by unfold swp; rw [if_neg (by omega), if_pos (by omega)]; omega
theorem swp_n {nb r : Nat} (h : ¬ (94 ≤ r ∧ r < 100)) (h2 : ¬ (100 + 6 * nb ≤ r ∧ r < 106 + 6 * nb)) : swp nb r = r := by unfold swp; rw [if_neg h, if_neg h2]
theorem WO.perm {D : va_G} {base : Nat} {pic : PIC} {H : Heap} (h : WO D base pic H) {π : Nat → Nat} (hπ : ∀ a b, π a = π b → a = b) : WO D base (fun r => pic (π r)) H := ⟨h.1, fun r a e hr => h.2.1 (π r) a e hr, fun r r2 a e e2 h1 h2 => hπ _ _ (h.2.2 (π r) (π r2) a e e2 h1 h2)⟩
theorem v_perm {p : Program} {l : Launch} {e : Env} {R : Room} {s : State} {m : MethodId} {args : Array Value} {below : List Frame} {meth : Method} {c : Code} {Q : State → Prop} {D : va_G} {base nL : Nat} {pic : PIC} {lv : LV} {pc : Nat} {st : List Value} {cells slots : Nat} {π : Nat → Nat} (hπ : ∀ a b, π a = π b → a = b) (k : V p l e R s m args below meth c Q D base nL (fun r => pic (π r)) lv pc st cells slots) : V p l e R s m args below meth c Q D base nL pic lv pc st cells slots := fun H locs ls hP hS hl => k H locs ls (hP.perm hπ) hS hl
abbrev frC (q nb : Nat) : Prop := q = 0 ∨ q = 6 ∨ q = 7 ∨ q = 8 ∨ 94 ≤ q ∧ q < 100 ∨ 100 + 6 * nb ≤ q ∧ q < 106 + 6 * nb
def closeR (pic : PIC) (cA : Nat → ClassId) (ad : Nat → Nat) (nb ns : Nat) (cl : Int32) (B : Nat → Bk) (O : Bk) (pic1 : PIC) : Prop := ∃ (ad1 : Nat → Nat) (hw1 : Nat) (O1 : Bk), (∀ r, r < 94 ∨ 340 ≤ r → ad1 r = ad r) ∧ EObj pic1 ad1 (nb + 1) ns (cl + nI (bN O)) ∧ BlksP pic1 cA ad1 hw1 (va_up B nb (bN O, bKp O, cl, rootF (lfE (bE O)) (bN O), fbF (e1 (bE O)) (e2 (bE O)) (e3 (bE O)) (bN O), bE O)) ∧ BkP pic1 cA ad1 94 O1 ∧ bN O1 = 0 ∧ bKp O1 = 1 ∧ nb + 1 ≤ hw1 ∧ hw1 ≤ 40 ∧ (∀ j, j < hw1 → bN (va_up B nb (bN O, bKp O, cl, rootF (lfE (bE O)) (bN O), fbF (e1 (bE O)) (e2 (bE O)) (e3 (bE O)) (bN O), bE O) j) ≤ 32) ∧ (∃ w g, TreeP pic1 cA (ad1 7) (ad1 8) w g) ∧ (∀ q, 100 + 6 * hw1 ≤ q → q < 340 → pic1 q = none) ∧ ∀ q, ¬ (q = 0 ∨ q = 6 ∨ q = 7 ∨ q = 8 ∨ 94 ≤ q ∧ q < 340) → pic1 q = pic q
set_option maxHeartbeats 4000000 in
theorem close_end {P pic : PIC} {cA : Nat → ClassId} {ad ad2 : Nat → Nat} {nb ns hw hw1 w : Nat} {cl : Int32} {B : Nat → Bk} {O O1 : Bk} {g : Nat → Int64} (hA : ∀ r, ¬ (100 + 6 * nb ≤ r ∧ r < 106 + 6 * nb) → ad2 r = ad r) (hh : nb < hw ∧ hw1 = hw ∨ nb = hw ∧ hw1 = hw + 1) (hhw : hw1 ≤ 40)
    (fE : P 0 = some (ad 0, .inr (8, [.ref (ad 1), .ref (ad 6), .ref (ad 7), .ref (ad 9), .ref (ad 11), .ref (ad2 (100 + 6 * nb)), .int (nI (nb + 1)), .int (nI ns), .int (cl + nI (bN O))]))) (f6 : P 6 = some (ad 6, .inl (cA 3, 40, .inr (.inr (.inr (.inr (va_up (blF ad hw) nb (some (ad 94))))))))) (hX : BlkP P cA 94 (ad 94) (ad 95) (ad 96) (ad 97) (ad 98) (ad 99) (nI (bN O)) (bKp O) cl (rootF (lfE (bE O)) (bN O)) (fbF (e1 (bE O)) (e2 (bE O)) (e3 (bE O)) (bN O)) (eA (bE O)) (e1 (bE O)) (e2 (bE O)) (e3 (bE O)) (eV (bE O)))
    (hN : BkP P cA ad2 (100 + 6 * nb) O1) (h0 : bN O1 = 0) (h1 : bKp O1 = 1) (hOn : bN O ≤ 32) (hT : TreeP P cA (ad 7) (ad 8) w g) (FRo : ∀ q, ¬ frC q nb → P q = pic q) (hBs : BlksP pic cA ad hw B) (hBn : ∀ j, j < hw → bN (B j) ≤ 32) (hz : ∀ q, 100 + 6 * hw ≤ q → q < 340 → pic q = none) : closeR pic cA ad nb ns cl B O (fun r => P (swp nb r)) := by
  have a1 : ∀ r, ¬ (94 ≤ r ∧ r < 100) → ¬ (100 + 6 * nb ≤ r ∧ r < 106 + 6 * nb) → ad2 (swp nb r) = ad r := fun r h2 h3 => by rw [swp_n h2 h3]; exact hA r h3
  have aB : ∀ k, k < 6 → ad2 (swp nb (100 + 6 * nb + k)) = ad (94 + k) := fun k hk => by rw [swp_b hk]; exact hA _ (by omega)
  have aO : ∀ k, k < 6 → ad2 (swp nb (94 + k)) = ad2 (100 + 6 * nb + k) := fun k hk => by rw [swp_o hk]
  have p1 : ∀ r, ¬ (94 ≤ r ∧ r < 100) → ¬ (100 + 6 * nb ≤ r ∧ r < 106 + 6 * nb) → P (swp nb r) = P r := fun r h2 h3 => by rw [swp_n h2 h3]
  refine ⟨fun r => ad2 (swp nb r), hw1, O1, fun r hr => a1 r (by omega) (by omega), ?_, ⟨?_, fun j hj => ?_⟩, ?_, h0, h1, by omega, hhw, fun j hj => ?_, ⟨w, g, ?_, ?_⟩, fun q h2 h3 => ?_, fun q hq => ?_⟩
  · unfold EObj
    show P (swp nb 0) = _
    rw [p1 0 (by omega) (by omega)]
    simp only [a1 0 (by omega) (by omega), a1 1 (by omega) (by omega), a1 6 (by omega) (by omega), a1 7 (by omega) (by omega), a1 9 (by omega) (by omega), a1 11 (by omega) (by omega), show ad2 (swp nb 94) = ad2 (100 + 6 * nb) from aO 0 (by omega)]
    exact fE
  · show P (swp nb 6) = _
    rw [p1 6 (by omega) (by omega), f6]
    simp only [a1 6 (by omega) (by omega)]
    have e9 : va_up (blF ad hw) nb (some (ad 94)) = blF (fun r => ad2 (swp nb r)) hw1 := by
      funext j
      unfold blF
      by_cases hj : j = nb
      · subst hj
        rw [va_up_self, if_pos (by omega)]
        exact congrArg some (aB 0 (by omega)).symm
      · rw [va_up_ne _ _ hj]
        by_cases hj2 : j < hw
        · rw [if_pos hj2, if_pos (by omega)]
          exact congrArg some (a1 _ (by omega) (by omega)).symm
        · rw [if_neg hj2, if_neg (by omega)]
    rw [e9]
  · by_cases hjn : j = nb
    · subst hjn
      rw [va_up_self]
      have q0 : (fun r => P (swp j r)) (100 + 6 * j) = P 94 := congrArg P (swp_b (k := 0) (by omega))
      obtain ⟨x0, x1, x2, x3, x4, x5⟩ := hX
      refine ⟨?_, ?_, ?_, ?_, ?_, ?_⟩
      · rw [q0]
        have b0 := aB 0 (by omega)
        have b1 := aB 1 (by omega)
        have b2 := aB 2 (by omega)
        have b3 := aB 3 (by omega)
        have b4 := aB 4 (by omega)
        have b5 := aB 5 (by omega)
        simp only [Nat.add_zero] at b0
        simp only [b0, b1, b2, b3, b4, b5]
        exact x0
      all_goals (first | (show P (swp j (100 + 6 * j + 1)) = _; rw [swp_b (by omega)]; simp only [aB 1 (by omega)]; exact x1) | (show P (swp j (100 + 6 * j + 2)) = _; rw [swp_b (by omega)]; simp only [aB 2 (by omega)]; exact x2) | (show P (swp j (100 + 6 * j + 3)) = _; rw [swp_b (by omega)]; simp only [aB 3 (by omega)]; exact x3) | (show P (swp j (100 + 6 * j + 4)) = _; rw [swp_b (by omega)]; simp only [aB 4 (by omega)]; exact x4) | (show P (swp j (100 + 6 * j + 5)) = _; rw [swp_b (by omega)]; simp only [aB 5 (by omega)]; exact x5))
    · rw [va_up_ne _ _ hjn]
      obtain ⟨x0, x1, x2, x3, x4, x5⟩ := hBs.2 j (by omega)
      have pk : ∀ k, k < 6 → P (swp nb (100 + 6 * j + k)) = pic (100 + 6 * j + k) := fun k hk => (p1 _ (by omega) (by omega)).trans (FRo _ (by unfold frC; omega))
      have ak : ∀ k, k < 6 → ad2 (swp nb (100 + 6 * j + k)) = ad (100 + 6 * j + k) := fun k hk => a1 _ (by omega) (by omega)
      have a0 := ak 0 (by omega)
      have p0 := pk 0 (by omega)
      simp only [Nat.add_zero] at a0 p0
      refine ⟨?_, ?_, ?_, ?_, ?_, ?_⟩
      · show P (swp nb (100 + 6 * j)) = _
        rw [p0]
        simp only [a0, ak 1 (by omega), ak 2 (by omega), ak 3 (by omega), ak 4 (by omega), ak 5 (by omega)]
        exact x0
      · show P (swp nb (100 + 6 * j + 1)) = _
        rw [pk 1 (by omega)]; simp only [ak 1 (by omega)]; exact x1
      · show P (swp nb (100 + 6 * j + 2)) = _
        rw [pk 2 (by omega)]; simp only [ak 2 (by omega)]; exact x2
      · show P (swp nb (100 + 6 * j + 3)) = _
        rw [pk 3 (by omega)]; simp only [ak 3 (by omega)]; exact x3
      · show P (swp nb (100 + 6 * j + 4)) = _
        rw [pk 4 (by omega)]; simp only [ak 4 (by omega)]; exact x4
      · show P (swp nb (100 + 6 * j + 5)) = _
        rw [pk 5 (by omega)]; simp only [ak 5 (by omega)]; exact x5
  · obtain ⟨x0, x1, x2, x3, x4, x5⟩ := hN
    have b0 := aO 0 (by omega)
    have b1 := aO 1 (by omega)
    have b2 := aO 2 (by omega)
    have b3 := aO 3 (by omega)
    have b4 := aO 4 (by omega)
    have b5 := aO 5 (by omega)
    simp only [Nat.add_zero] at b0
    refine ⟨?_, ?_, ?_, ?_, ?_, ?_⟩
    · show P (swp nb (94 + 0)) = _
      rw [swp_o (by omega)]
      simp only [b0, b1, b2, b3, b4, b5]
      exact x0
    · show P (swp nb (94 + 1)) = _
      rw [swp_o (by omega)]; simp only [b1]; exact x1
    · show P (swp nb (94 + 2)) = _
      rw [swp_o (by omega)]; simp only [b2]; exact x2
    · show P (swp nb (94 + 3)) = _
      rw [swp_o (by omega)]; simp only [b3]; exact x3
    · show P (swp nb (94 + 4)) = _
      rw [swp_o (by omega)]; simp only [b4]; exact x4
    · show P (swp nb (94 + 5)) = _
      rw [swp_o (by omega)]; simp only [b5]; exact x5
  · by_cases hjn : j = nb
    · subst hjn; rw [va_up_self]; exact hOn
    · rw [va_up_ne _ _ hjn]; exact hBn j (by omega)
  · show P (swp nb 7) = _
    rw [p1 7 (by omega) (by omega)]; simp only [a1 7 (by omega) (by omega), a1 8 (by omega) (by omega)]; exact hT.1
  · show P (swp nb 8) = _
    rw [p1 8 (by omega) (by omega)]; simp only [a1 8 (by omega) (by omega)]; exact hT.2
  · show P (swp nb q) = none
    rw [p1 q (by omega) (by omega), FRo q (by unfold frC; omega)]
    exact hz q (by omega) h3
  · show P (swp nb q) = pic q
    rw [p1 q (by omega) (by omega)]
    exact FRo q (by unfold frC; omega)
