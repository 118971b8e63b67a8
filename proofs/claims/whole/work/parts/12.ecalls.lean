noncomputable def cif {α : Type} (p : Prop) (a b : α) : α := @ite α p (Classical.propDecidable p) a b
theorem cif_pos {α : Type} {p : Prop} {a b : α} (h : p) : cif p a b = a := @if_pos p (Classical.propDecidable p) h α a b
theorem cif_neg {α : Type} {p : Prop} {a b : α} (h : ¬ p) : cif p a b = b := @if_neg p (Classical.propDecidable p) h α a b
/-- the EventRows object -/
def EObj (pic : PIC) (ad : Nat → Nat) (nb ns : Nat) (cl : Int32) : Prop := pic 0 = some (ad 0, .inr (8, [.ref (ad 1), .ref (ad 6), .ref (ad 7), .ref (ad 9), .ref (ad 11), .ref (ad 94), .int (nI nb), .int (nI ns), .int cl]))
abbrev CallsA (pic : PIC) (cA : Nat → ClassId) (ad : Nat → Nat) (d : Nat) (lim use beg cau : Nat → Int32) : Prop := CallsP pic cA (ad 1) (ad 2) (ad 3) (ad 4) (ad 5) d lim use beg cau
abbrev obE (ad : Nat → Nat) (cnt kept fs : Int32) (rd fb : Int64) : va_E := bkE (ad 95) (ad 96) (ad 97) (ad 98) (ad 99) cnt kept fs rd fb
def useP (d : Nat) (use : Nat → Int32) : Nat → Int32 := if d = 0 then use else upd use (d - 1) (use (d - 1) + nI 1)
noncomputable def beginF (d : Nat) (lim use beg cau : Nat → Int32) (cnt x k : Int32) : Int32 × Nat × (Nat → Int32) × (Nat → Int32) × (Nat → Int32) × (Nat → Int32) × Int32 := cif (¬ (0 ≤ x.toInt ∧ x.toInt ≤ 10000)) ((-1, d, lim, use, beg, cau, cnt)) (cif (8 ≤ d) ((-3, d, lim, use, beg, cau, cnt)) (cif (0 < d ∧ (leftF d lim use).toInt < 1) ((-20 - nI (failF beg cau d use cnt).2.2.2, (failF beg cau d use cnt).1, lim, (failF beg cau d use cnt).2.1, beg, cau, (failF beg cau d use cnt).2.2.1)) ((nI (d + 1), d + 1, upd lim d (pushL d lim (useP d use) x), upd (useP d use) d 0, upd beg d cnt, upd cau d k, cnt))))
theorem beginF_0 {d : Nat} {lim use beg cau : Nat → Int32} {cnt x k : Int32} (h0 : ¬ (0 ≤ x.toInt ∧ x.toInt ≤ 10000)) : beginF d lim use beg cau cnt x k = ((-1, d, lim, use, beg, cau, cnt)) := by rw [beginF, cif_pos h0]
theorem beginF_1 {d : Nat} {lim use beg cau : Nat → Int32} {cnt x k : Int32} (h0 : ¬ (¬ (0 ≤ x.toInt ∧ x.toInt ≤ 10000))) (h1 : 8 ≤ d) : beginF d lim use beg cau cnt x k = ((-3, d, lim, use, beg, cau, cnt)) := by rw [beginF, cif_neg h0, cif_pos h1]
theorem beginF_2 {d : Nat} {lim use beg cau : Nat → Int32} {cnt x k : Int32} (h0 : ¬ (¬ (0 ≤ x.toInt ∧ x.toInt ≤ 10000))) (h1 : ¬ (8 ≤ d)) (h2 : 0 < d ∧ (leftF d lim use).toInt < 1) : beginF d lim use beg cau cnt x k = ((-20 - nI (failF beg cau d use cnt).2.2.2, (failF beg cau d use cnt).1, lim, (failF beg cau d use cnt).2.1, beg, cau, (failF beg cau d use cnt).2.2.1)) := by rw [beginF, cif_neg h0, cif_neg h1, cif_pos h2]
theorem beginF_3 {d : Nat} {lim use beg cau : Nat → Int32} {cnt x k : Int32} (h0 : ¬ (¬ (0 ≤ x.toInt ∧ x.toInt ≤ 10000))) (h1 : ¬ (8 ≤ d)) (h2 : ¬ (0 < d ∧ (leftF d lim use).toInt < 1)) : beginF d lim use beg cau cnt x k = ((nI (d + 1), d + 1, upd lim d (pushL d lim (useP d use) x), upd (useP d use) d 0, upd beg d cnt, upd cau d k, cnt)) := by rw [beginF, cif_neg h0, cif_neg h1, cif_neg h2]
theorem useP_0 {d : Nat} {use : Nat → Int32} (h : d = 0) : useP d use = use := by rw [useP, if_pos h]
theorem useP_1 {d : Nat} {use : Nat → Int32} (h : ¬ d = 0) : useP d use = upd use (d - 1) (use (d - 1) + nI 1) := by rw [useP, if_neg h]
def costF (b c : Int32) : Int32 := if b.toInt = -1 then nI 7 else if c.toInt = -1 then nI 9 else nI 11
theorem cost_eq (b c : Int32) : nI 5 + nI 2 * tcF b c = costF b c := by
  unfold tcF costF
  by_cases h : b.toInt = -1
  · rw [if_pos h, if_pos h]; decide
  · rw [if_neg h, if_neg h]
    by_cases h2 : c.toInt = -1
    · rw [if_pos h2, if_pos h2]; decide
    · rw [if_neg h2, if_neg h2]; decide
noncomputable def tellF (d : Nat) (lim use beg cau : Nat → Int32) (on : Nat) (ac a b c : Int32) : Int32 × Nat × (Nat → Int32) × Int32 × Bool := cif (¬ evOK ac a b c) ((-1, d, use, nI on, false)) (cif (d = 0) ((-2, d, use, nI on, false)) (cif (32 ≤ on) ((-3, d, use, nI on, false)) (cif ((leftF d lim use).toInt < (costF b c).toInt) ((-20 - nI (failF beg cau d use (nI on)).2.2.2, (failF beg cau d use (nI on)).1, (failF beg cau d use (nI on)).2.1, (failF beg cau d use (nI on)).2.2.1, false)) ((nI (on + 1), d, upd use (d - 1) (use (d - 1) + costF b c), nI (on + 1), true)))))
theorem tellF_0 {d : Nat} {lim use beg cau : Nat → Int32} {on : Nat} {ac a b c : Int32} (h0 : ¬ evOK ac a b c) : tellF d lim use beg cau on ac a b c = ((-1, d, use, nI on, false)) := by rw [tellF, cif_pos h0]
theorem tellF_1 {d : Nat} {lim use beg cau : Nat → Int32} {on : Nat} {ac a b c : Int32} (h0 : ¬ (¬ evOK ac a b c)) (h1 : d = 0) : tellF d lim use beg cau on ac a b c = ((-2, d, use, nI on, false)) := by rw [tellF, cif_neg h0, cif_pos h1]
theorem tellF_2 {d : Nat} {lim use beg cau : Nat → Int32} {on : Nat} {ac a b c : Int32} (h0 : ¬ (¬ evOK ac a b c)) (h1 : ¬ (d = 0)) (h2 : 32 ≤ on) : tellF d lim use beg cau on ac a b c = ((-3, d, use, nI on, false)) := by rw [tellF, cif_neg h0, cif_neg h1, cif_pos h2]
theorem tellF_3 {d : Nat} {lim use beg cau : Nat → Int32} {on : Nat} {ac a b c : Int32} (h0 : ¬ (¬ evOK ac a b c)) (h1 : ¬ (d = 0)) (h2 : ¬ (32 ≤ on)) (h3 : (leftF d lim use).toInt < (costF b c).toInt) : tellF d lim use beg cau on ac a b c = ((-20 - nI (failF beg cau d use (nI on)).2.2.2, (failF beg cau d use (nI on)).1, (failF beg cau d use (nI on)).2.1, (failF beg cau d use (nI on)).2.2.1, false)) := by rw [tellF, cif_neg h0, cif_neg h1, cif_neg h2, cif_pos h3]
theorem tellF_4 {d : Nat} {lim use beg cau : Nat → Int32} {on : Nat} {ac a b c : Int32} (h0 : ¬ (¬ evOK ac a b c)) (h1 : ¬ (d = 0)) (h2 : ¬ (32 ≤ on)) (h3 : ¬ ((leftF d lim use).toInt < (costF b c).toInt)) : tellF d lim use beg cau on ac a b c = ((nI (on + 1), d, upd use (d - 1) (use (d - 1) + costF b c), nI (on + 1), true)) := by rw [tellF, cif_neg h0, cif_neg h1, cif_neg h2, cif_neg h3]

noncomputable def endF (d : Nat) (use beg cau : Nat → Int32) (cnt w : Int32) : Int32 × Nat × (Nat → Int32) × Int32 := cif (d = 0) ((-2, d, use, cnt)) (cif (w.toInt = 0) ((-20 - nI (failF beg cau d use cnt).2.2.2, (failF beg cau d use cnt).1, (failF beg cau d use cnt).2.1, (failF beg cau d use cnt).2.2.1)) ((use (d - 1), d - 1, popU d use, cnt)))
theorem endF_0 {d : Nat} {use beg cau : Nat → Int32} {cnt w : Int32} (h0 : d = 0) : endF d use beg cau cnt w = ((-2, d, use, cnt)) := by rw [endF, cif_pos h0]
theorem endF_1 {d : Nat} {use beg cau : Nat → Int32} {cnt w : Int32} (h0 : ¬ (d = 0)) (h1 : w.toInt = 0) : endF d use beg cau cnt w = ((-20 - nI (failF beg cau d use cnt).2.2.2, (failF beg cau d use cnt).1, (failF beg cau d use cnt).2.1, (failF beg cau d use cnt).2.2.1)) := by rw [endF, cif_neg h0, cif_pos h1]
theorem endF_2 {d : Nat} {use beg cau : Nat → Int32} {cnt w : Int32} (h0 : ¬ (d = 0)) (h1 : ¬ (w.toInt = 0)) : endF d use beg cau cnt w = ((use (d - 1), d - 1, popU d use, cnt)) := by rw [endF, cif_neg h0, cif_neg h1]

noncomputable def toldF (d : Nat) (lim use : Nat → Int32) (on nb ns : Nat) (cl : Int32) (w : Int) : Int32 := cif (w = 0) (nI d) (cif (w = 1) (if d = 0 then 0 else use (d - 1)) (cif (w = 2) (leftF d lim use) (cif (w = 3) (nI on) (cif (w = 4) (cl + nI on) (cif (w = 5) (nI nb) (cif (w = 6) (nI ns) (-1)))))))
theorem toldF_0 {d : Nat} {lim use : Nat → Int32} {on nb ns : Nat} {cl : Int32} {w : Int} (h0 : w = 0) : toldF d lim use on nb ns cl w = (nI d) := by rw [toldF, cif_pos h0]
theorem toldF_1 {d : Nat} {lim use : Nat → Int32} {on nb ns : Nat} {cl : Int32} {w : Int} (h0 : ¬ (w = 0)) (h1 : w = 1) : toldF d lim use on nb ns cl w = (if d = 0 then 0 else use (d - 1)) := by rw [toldF, cif_neg h0, cif_pos h1]
theorem toldF_2 {d : Nat} {lim use : Nat → Int32} {on nb ns : Nat} {cl : Int32} {w : Int} (h0 : ¬ (w = 0)) (h1 : ¬ (w = 1)) (h2 : w = 2) : toldF d lim use on nb ns cl w = (leftF d lim use) := by rw [toldF, cif_neg h0, cif_neg h1, cif_pos h2]
theorem toldF_3 {d : Nat} {lim use : Nat → Int32} {on nb ns : Nat} {cl : Int32} {w : Int} (h0 : ¬ (w = 0)) (h1 : ¬ (w = 1)) (h2 : ¬ (w = 2)) (h3 : w = 3) : toldF d lim use on nb ns cl w = (nI on) := by rw [toldF, cif_neg h0, cif_neg h1, cif_neg h2, cif_pos h3]
theorem toldF_4 {d : Nat} {lim use : Nat → Int32} {on nb ns : Nat} {cl : Int32} {w : Int} (h0 : ¬ (w = 0)) (h1 : ¬ (w = 1)) (h2 : ¬ (w = 2)) (h3 : ¬ (w = 3)) (h4 : w = 4) : toldF d lim use on nb ns cl w = (cl + nI on) := by rw [toldF, cif_neg h0, cif_neg h1, cif_neg h2, cif_neg h3, cif_pos h4]
theorem toldF_5 {d : Nat} {lim use : Nat → Int32} {on nb ns : Nat} {cl : Int32} {w : Int} (h0 : ¬ (w = 0)) (h1 : ¬ (w = 1)) (h2 : ¬ (w = 2)) (h3 : ¬ (w = 3)) (h4 : ¬ (w = 4)) (h5 : w = 5) : toldF d lim use on nb ns cl w = (nI nb) := by rw [toldF, cif_neg h0, cif_neg h1, cif_neg h2, cif_neg h3, cif_neg h4, cif_pos h5]
theorem toldF_6 {d : Nat} {lim use : Nat → Int32} {on nb ns : Nat} {cl : Int32} {w : Int} (h0 : ¬ (w = 0)) (h1 : ¬ (w = 1)) (h2 : ¬ (w = 2)) (h3 : ¬ (w = 3)) (h4 : ¬ (w = 4)) (h5 : ¬ (w = 5)) (h6 : w = 6) : toldF d lim use on nb ns cl w = (nI ns) := by rw [toldF, cif_neg h0, cif_neg h1, cif_neg h2, cif_neg h3, cif_neg h4, cif_neg h5, cif_pos h6]
theorem toldF_7 {d : Nat} {lim use : Nat → Int32} {on nb ns : Nat} {cl : Int32} {w : Int} (h0 : ¬ (w = 0)) (h1 : ¬ (w = 1)) (h2 : ¬ (w = 2)) (h3 : ¬ (w = 3)) (h4 : ¬ (w = 4)) (h5 : ¬ (w = 5)) (h6 : ¬ (w = 6)) : toldF d lim use on nb ns cl w = (-1) := by rw [toldF, cif_neg h0, cif_neg h1, cif_neg h2, cif_neg h3, cif_neg h4, cif_neg h5, cif_neg h6]

theorem nI_lit {x : Int32} {k : Nat} (hk : k < 2 ^ 31) (h : x.toInt = (k : Int)) : x = nI k := Int32.toInt_inj.mp (h.trans (nI_toInt hk).symm)
theorem tsw7 (x : Int32) : (x.toInt < 0 ∨ 6 < x.toInt) ∨ x = nI 0 ∨ x = nI 1 ∨ x = nI 2 ∨ x = nI 3 ∨ x = nI 4 ∨ x = nI 5 ∨ x = nI 6 := by
  rcases (show (x.toInt < 0 ∨ 6 < x.toInt) ∨ x.toInt = 0 ∨ x.toInt = 1 ∨ x.toInt = 2 ∨ x.toInt = 3 ∨ x.toInt = 4 ∨ x.toInt = 5 ∨ x.toInt = 6 by omega) with h | h | h | h | h | h | h | h
  · exact Or.inl h
  · exact Or.inr (Or.inl (nI_lit (by decide) h))
  · exact Or.inr (Or.inr (Or.inl (nI_lit (by decide) h)))
  · exact Or.inr (Or.inr (Or.inr (Or.inl (nI_lit (by decide) h))))
  · exact Or.inr (Or.inr (Or.inr (Or.inr (Or.inl (nI_lit (by decide) h)))))
  · exact Or.inr (Or.inr (Or.inr (Or.inr (Or.inr (Or.inl (nI_lit (by decide) h))))))
  · exact Or.inr (Or.inr (Or.inr (Or.inr (Or.inr (Or.inr (Or.inl (nI_lit (by decide) h)))))))
  · exact Or.inr (Or.inr (Or.inr (Or.inr (Or.inr (Or.inr (Or.inr (nI_lit (by decide) h)))))))
set_option maxHeartbeats 4000000 in
set_option maxRecDepth 100000 in
theorem c_X5_failInnermost (l : Launch) (D : va_G) (cA : Nat → ClassId) (base : Nat) (pic : PIC) (ad : Nat → Nat) (nb ns : Nat) (cl : Int32) (d : Nat) (lim use beg cau : Nat → Int32) (cnt kept fs : Int32) (rd fb : Int64) (hE : EObj pic ad nb ns cl) (hC : CallsA pic cA ad d lim use beg cau) (fB : pic 94 = some (ad 94, obE ad cnt kept fs rd fb)) (hd : d ≤ 8)  : CI l yX5_failInnermost cX5_failInnermost 1 (some .int) { frames := 2, cells := 0, slots := 0, locals := 45 } 0 0 D cA base pic [.ref (ad 0)] (fun x pic1 => x = -20 - nI (failF beg cau d use cnt).2.2.2 ∧ CallsA pic1 cA ad (failF beg cau d use cnt).1 lim (failF beg cau d use cnt).2.1 beg cau ∧ pic1 94 = some (ad 94, obE ad (failF beg cau d use cnt).2.2.1 kept fs rd fb) ∧ ∀ q, ¬ (1 ≤ q ∧ q < 6 ∨ q = 94) → pic1 q = pic q) := by
  refine ofI (by decide) (Nat.le_of_ble_eq_true rfl) ?_
  intro p e s m below meth c K hr hlk hnm
  have FR : ∀ q, ¬ (1 ≤ q ∧ q < 6 ∨ q = 94) → pic q = pic q := fun _ _ => rfl
  have fE := hE
  unfold EObj at fE
  obtain ⟨f0, f1, f2, f3, f4⟩ := hC
  refine v_bipush (v := -20) K dX5_failInnermost_0 (by decide) ?_
  refine v_aload_n K 0 dX5_failInnermost_2 rfl rfl ?_
  refine gf_X5_10 K dX5_failInnermost_3 fE rfl ?_
  refine v_aload_n K 0 dX5_failInnermost_6 rfl rfl ?_
  refine gf_X5_43 K dX5_failInnermost_7 fE rfl ?_
  refine cl_X5_211 K dX5_failInnermost_10 f0 (c_X1_fail l D cA base pic (ad 1) (ad 2) (ad 3) (ad 4) (ad 5) d lim use beg cau 94 (ad 94) (ad 95) (ad 96) (ad 97) (ad 98) (ad 99) kept fs rd fb cnt ⟨f0, f1, f2, f3, f4⟩ hd fB (by decide)) rfl rfl ⟨by decide, by decide⟩ (Nat.le_of_ble_eq_true rfl) ⟨by decide, by decide⟩ (fun x10 pic1 hx2 => ?_)
  obtain ⟨rfl, ⟨h0, h1, h2, h3, h4⟩, h6, h5⟩ := hx2
  replace fE := (h5 _ (by omega)).trans fE
  replace f0 := h0
  replace f1 := h1
  replace f2 := h2
  replace f3 := h3
  replace f4 := h4
  replace fB := h6
  have FR : ∀ q, ¬ (1 ≤ q ∧ q < 6 ∨ q = 94) → pic1 q = pic q := fun q hq => (h5 q (by omega)).trans (FR q hq)
  refine v_isub K dX5_failInnermost_13 ?_
  exact v_iret K dX5_failInnermost_14 hr hlk (by decide) (by decide) (⟨rfl, ⟨f0, f1, f2, f3, f4⟩, fB, FR⟩)

set_option maxHeartbeats 4000000 in
set_option maxRecDepth 100000 in
theorem c_X5_begin (l : Launch) (D : va_G) (cA : Nat → ClassId) (base : Nat) (pic : PIC) (ad : Nat → Nat) (nb ns : Nat) (cl : Int32) (d : Nat) (lim use beg cau : Nat → Int32) (cnt kept fs : Int32) (rd fb : Int64) (x k : Int32) (hE : EObj pic ad nb ns cl) (hC : CallsA pic cA ad d lim use beg cau) (fB : pic 94 = some (ad 94, obE ad cnt kept fs rd fb)) (hd : d ≤ 8) (hk : isB k)  : CI l yX5_begin cX5_begin 3 (some .int) { frames := 3, cells := 0, slots := 0, locals := 65 } 0 0 D cA base pic [.ref (ad 0), .int x, .int k] (fun x9 pic1 => x9 = (beginF d lim use beg cau cnt x k).1 ∧ CallsA pic1 cA ad (beginF d lim use beg cau cnt x k).2.1 (beginF d lim use beg cau cnt x k).2.2.1 (beginF d lim use beg cau cnt x k).2.2.2.1 (beginF d lim use beg cau cnt x k).2.2.2.2.1 (beginF d lim use beg cau cnt x k).2.2.2.2.2.1 ∧ pic1 94 = some (ad 94, obE ad (beginF d lim use beg cau cnt x k).2.2.2.2.2.2 kept fs rd fb) ∧ ∀ q, ¬ (1 ≤ q ∧ q < 6 ∨ q = 94) → pic1 q = pic q) := by
  refine ofI (by decide) (Nat.le_of_ble_eq_true rfl) ?_
  intro p e s m below meth c K hr hlk hnm
  have FR : ∀ q, ¬ (1 ≤ q ∧ q < 6 ∨ q = 94) → pic q = pic q := fun _ _ => rfl
  have fE := hE
  unfold EObj at fE
  obtain ⟨f0, f1, f2, f3, f4⟩ := hC
  refine v_iload_n K 1 dX5_begin_0 rfl rfl ?_
  refine v_if_lt K 11 dX5_begin_1 (by decide) rfl (fun c1 => ?_) (fun c1 => ?_)
  · refine v_iconst (v := -1) K dX5_begin_11 (by decide) ?_
    exact v_iret K dX5_begin_12 hr hlk (by decide) (by decide) (by first | exact (by rw [beginF_0 (by omega)]; exact ⟨rfl, ⟨f0, f1, f2, f3, f4⟩, fB, FR⟩) | exact (by rw [beginF_1 (by omega) (by omega)]; exact ⟨rfl, ⟨f0, f1, f2, f3, f4⟩, fB, FR⟩) | exact (by rw [beginF_2 (by omega) (by omega) (by omega)]; exact ⟨rfl, ⟨f0, f1, f2, f3, f4⟩, fB, FR⟩) | exact (by rw [beginF_3 (by omega) (by omega) (by omega), useP_0 (by omega)]; exact ⟨rfl, ⟨f0, f1, f2, f3, f4⟩, fB, FR⟩) | exact (by rw [beginF_3 (by omega) (by omega) (by omega), useP_1 (by omega)]; exact ⟨rfl, ⟨f0, f1, f2, f3, f4⟩, fB, FR⟩))
  · refine v_iload_n K 1 dX5_begin_4 rfl rfl ?_
    refine v_sipush (v := nI 10000) K dX5_begin_5 (by decide) ?_
    refine v_icmp_le K 13 dX5_begin_8 (by decide) rfl (nI_toInt (by omega)) (fun c8 => ?_) (fun c8 => ?_)
    · refine v_aload_n K 0 dX5_begin_13 rfl rfl ?_
      refine gf_X5_10 K dX5_begin_14 fE rfl ?_
      refine gf_X5_47 K dX5_begin_17 f0 rfl ?_
      refine v_bipush (v := nI 8) K dX5_begin_20 (by decide) ?_
      refine v_icmp_lt K 28 dX5_begin_22 (by decide) (nI_toInt (by omega)) (nI_toInt (by omega)) (fun c22 => ?_) (fun c22 => ?_)
      · refine v_aload_n K 0 dX5_begin_28 rfl rfl ?_
        refine gf_X5_10 K dX5_begin_29 fE rfl ?_
        refine gf_X5_47 K dX5_begin_32 f0 rfl ?_
        refine v_if_le K 54 dX5_begin_35 (by decide) (nI_toInt (by omega)) (fun c35 => ?_) (fun c35 => ?_)
        · refine v_aload_n K 0 dX5_begin_54 rfl rfl ?_
          refine gf_X5_10 K dX5_begin_55 fE rfl ?_
          refine v_iload_n K 1 dX5_begin_58 rfl rfl ?_
          refine v_iload_n K 2 dX5_begin_59 rfl rfl ?_
          refine v_aload_n K 0 dX5_begin_60 rfl rfl ?_
          refine gf_X5_43 K dX5_begin_61 fE rfl ?_
          refine gf_X5_59 K dX5_begin_64 fB rfl ?_
          refine cl_X5_62 K dX5_begin_67 f0 (c_X1_push l D cA base pic (ad 1) (ad 2) (ad 3) (ad 4) (ad 5) d lim use beg cau x k cnt ⟨f0, f1, f2, f3, f4⟩ (by omega) hk) rfl rfl ⟨by decide, by decide⟩ (Nat.le_of_ble_eq_true rfl) ⟨by decide, by decide⟩ (fun pic1 hx2 => ?_)
          obtain ⟨⟨h0, h1, h2, h3, h4⟩, h5⟩ := hx2
          replace fE := (h5 _ (by omega)).trans fE
          replace f0 := h0
          replace f1 := h1
          replace f2 := h2
          replace f3 := h3
          replace f4 := h4
          replace fB := (h5 _ (by omega)).trans fB
          have FR : ∀ q, ¬ (1 ≤ q ∧ q < 6 ∨ q = 94) → pic1 q = pic q := fun q hq => (h5 q (by omega)).trans (FR q hq)
          refine v_aload_n K 0 dX5_begin_70 rfl rfl ?_
          refine gf_X5_10 K dX5_begin_71 fE rfl ?_
          refine gf_X5_47 K dX5_begin_74 f0 rfl ?_
          exact v_iret K dX5_begin_77 hr hlk (by decide) (by decide) (by first | exact (by rw [beginF_0 (by omega)]; exact ⟨rfl, ⟨f0, f1, f2, f3, f4⟩, fB, FR⟩) | exact (by rw [beginF_1 (by omega) (by omega)]; exact ⟨rfl, ⟨f0, f1, f2, f3, f4⟩, fB, FR⟩) | exact (by rw [beginF_2 (by omega) (by omega) (by omega)]; exact ⟨rfl, ⟨f0, f1, f2, f3, f4⟩, fB, FR⟩) | exact (by rw [beginF_3 (by omega) (by omega) (by omega), useP_0 (by omega)]; exact ⟨rfl, ⟨f0, f1, f2, f3, f4⟩, fB, FR⟩) | exact (by rw [beginF_3 (by omega) (by omega) (by omega), useP_1 (by omega)]; exact ⟨rfl, ⟨f0, f1, f2, f3, f4⟩, fB, FR⟩))
        · refine v_aload_n K 0 dX5_begin_38 rfl rfl ?_
          refine gf_X5_10 K dX5_begin_39 fE rfl ?_
          refine v_iconst (v := nI 1) K dX5_begin_42 (by decide) ?_
          refine cl_X5_51 K dX5_begin_43 f0 (c_X1_pay l D cA base pic (ad 1) (ad 2) (ad 3) (ad 4) (ad 5) d lim use beg cau (nI 1) ⟨f0, f1, f2, f3, f4⟩ hd) rfl rfl ⟨by decide, by decide⟩ (Nat.le_of_ble_eq_true rfl) ⟨by decide, by decide⟩ (fun x43 pic3 hx4 => ?_)
          rcases hx4 with ⟨rfl, rfl, hp⟩ | ⟨rfl, hp0, hp1, ⟨h0, h1, h2, h3, h4⟩, h5⟩
          · rw [show (nI 1).toInt = 1 from by decide] at hp
            refine v_if_ne K 54 dX5_begin_46 (by decide) rfl (fun c => absurd c (by decide)) (fun _ => ?_)
            refine v_aload_n K 0 dX5_begin_49 rfl rfl ?_
            refine cl_X5_55 K dX5_begin_50 fE (c_X5_failInnermost l D cA base pic ad nb ns cl d lim use beg cau cnt kept fs rd fb fE ⟨f0, f1, f2, f3, f4⟩ fB hd) rfl rfl ⟨by decide, by decide⟩ (Nat.le_of_ble_eq_true rfl) ⟨by decide, by decide⟩ (fun x50 pic5 hx6 => ?_)
            obtain ⟨rfl, ⟨h0, h1, h2, h3, h4⟩, h6, h5⟩ := hx6
            replace fE := (h5 _ (by omega)).trans fE
            replace f0 := h0
            replace f1 := h1
            replace f2 := h2
            replace f3 := h3
            replace f4 := h4
            replace fB := h6
            have FR : ∀ q, ¬ (1 ≤ q ∧ q < 6 ∨ q = 94) → pic5 q = pic q := fun q hq => (h5 q (by omega)).trans (FR q hq)
            exact v_iret K dX5_begin_53 hr hlk (by decide) (by decide) (by first | exact (by rw [beginF_0 (by omega)]; exact ⟨rfl, ⟨f0, f1, f2, f3, f4⟩, fB, FR⟩) | exact (by rw [beginF_1 (by omega) (by omega)]; exact ⟨rfl, ⟨f0, f1, f2, f3, f4⟩, fB, FR⟩) | exact (by rw [beginF_2 (by omega) (by omega) (by omega)]; exact ⟨rfl, ⟨f0, f1, f2, f3, f4⟩, fB, FR⟩) | exact (by rw [beginF_3 (by omega) (by omega) (by omega), useP_0 (by omega)]; exact ⟨rfl, ⟨f0, f1, f2, f3, f4⟩, fB, FR⟩) | exact (by rw [beginF_3 (by omega) (by omega) (by omega), useP_1 (by omega)]; exact ⟨rfl, ⟨f0, f1, f2, f3, f4⟩, fB, FR⟩))
          · replace fE := (h5 _ (by omega)).trans fE
            replace f0 := h0
            replace f1 := h1
            replace f2 := h2
            replace f3 := h3
            replace f4 := h4
            replace fB := (h5 _ (by omega)).trans fB
            have FR : ∀ q, ¬ (1 ≤ q ∧ q < 6 ∨ q = 94) → pic3 q = pic q := fun q hq => (h5 q (by omega)).trans (FR q hq)
            rw [show (nI 1).toInt = 1 from by decide] at hp1
            refine v_if_ne K 54 dX5_begin_46 (by decide) rfl (fun _ => ?_) (fun c => absurd c (by decide))
            refine v_aload_n K 0 dX5_begin_54 rfl rfl ?_
            refine gf_X5_10 K dX5_begin_55 fE rfl ?_
            refine v_iload_n K 1 dX5_begin_58 rfl rfl ?_
            refine v_iload_n K 2 dX5_begin_59 rfl rfl ?_
            refine v_aload_n K 0 dX5_begin_60 rfl rfl ?_
            refine gf_X5_43 K dX5_begin_61 fE rfl ?_
            refine gf_X5_59 K dX5_begin_64 fB rfl ?_
            refine cl_X5_62 K dX5_begin_67 f0 (c_X1_push l D cA base pic3 (ad 1) (ad 2) (ad 3) (ad 4) (ad 5) d lim (upd use (d - 1) (use (d - 1) + nI 1)) beg cau x k cnt ⟨f0, f1, f2, f3, f4⟩ (by omega) hk) rfl rfl ⟨by decide, by decide⟩ (Nat.le_of_ble_eq_true rfl) ⟨by decide, by decide⟩ (fun pic7 hx8 => ?_)
            obtain ⟨⟨h0, h1, h2, h3, h4⟩, h5⟩ := hx8
            replace fE := (h5 _ (by omega)).trans fE
            replace f0 := h0
            replace f1 := h1
            replace f2 := h2
            replace f3 := h3
            replace f4 := h4
            replace fB := (h5 _ (by omega)).trans fB
            have FR : ∀ q, ¬ (1 ≤ q ∧ q < 6 ∨ q = 94) → pic7 q = pic q := fun q hq => (h5 q (by omega)).trans (FR q hq)
            refine v_aload_n K 0 dX5_begin_70 rfl rfl ?_
            refine gf_X5_10 K dX5_begin_71 fE rfl ?_
            refine gf_X5_47 K dX5_begin_74 f0 rfl ?_
            exact v_iret K dX5_begin_77 hr hlk (by decide) (by decide) (by first | exact (by rw [beginF_0 (by omega)]; exact ⟨rfl, ⟨f0, f1, f2, f3, f4⟩, fB, FR⟩) | exact (by rw [beginF_1 (by omega) (by omega)]; exact ⟨rfl, ⟨f0, f1, f2, f3, f4⟩, fB, FR⟩) | exact (by rw [beginF_2 (by omega) (by omega) (by omega)]; exact ⟨rfl, ⟨f0, f1, f2, f3, f4⟩, fB, FR⟩) | exact (by rw [beginF_3 (by omega) (by omega) (by omega), useP_0 (by omega)]; exact ⟨rfl, ⟨f0, f1, f2, f3, f4⟩, fB, FR⟩) | exact (by rw [beginF_3 (by omega) (by omega) (by omega), useP_1 (by omega)]; exact ⟨rfl, ⟨f0, f1, f2, f3, f4⟩, fB, FR⟩))
      · refine v_bipush (v := -3) K dX5_begin_25 (by decide) ?_
        exact v_iret K dX5_begin_27 hr hlk (by decide) (by decide) (by first | exact (by rw [beginF_0 (by omega)]; exact ⟨rfl, ⟨f0, f1, f2, f3, f4⟩, fB, FR⟩) | exact (by rw [beginF_1 (by omega) (by omega)]; exact ⟨rfl, ⟨f0, f1, f2, f3, f4⟩, fB, FR⟩) | exact (by rw [beginF_2 (by omega) (by omega) (by omega)]; exact ⟨rfl, ⟨f0, f1, f2, f3, f4⟩, fB, FR⟩) | exact (by rw [beginF_3 (by omega) (by omega) (by omega), useP_0 (by omega)]; exact ⟨rfl, ⟨f0, f1, f2, f3, f4⟩, fB, FR⟩) | exact (by rw [beginF_3 (by omega) (by omega) (by omega), useP_1 (by omega)]; exact ⟨rfl, ⟨f0, f1, f2, f3, f4⟩, fB, FR⟩))
    · refine v_iconst (v := -1) K dX5_begin_11 (by decide) ?_
      exact v_iret K dX5_begin_12 hr hlk (by decide) (by decide) (by first | exact (by rw [beginF_0 (by omega)]; exact ⟨rfl, ⟨f0, f1, f2, f3, f4⟩, fB, FR⟩) | exact (by rw [beginF_1 (by omega) (by omega)]; exact ⟨rfl, ⟨f0, f1, f2, f3, f4⟩, fB, FR⟩) | exact (by rw [beginF_2 (by omega) (by omega) (by omega)]; exact ⟨rfl, ⟨f0, f1, f2, f3, f4⟩, fB, FR⟩) | exact (by rw [beginF_3 (by omega) (by omega) (by omega), useP_0 (by omega)]; exact ⟨rfl, ⟨f0, f1, f2, f3, f4⟩, fB, FR⟩) | exact (by rw [beginF_3 (by omega) (by omega) (by omega), useP_1 (by omega)]; exact ⟨rfl, ⟨f0, f1, f2, f3, f4⟩, fB, FR⟩))

set_option maxHeartbeats 4000000 in
set_option maxRecDepth 100000 in
theorem c_X5_tell (l : Launch) (D : va_G) (cA : Nat → ClassId) (base : Nat) (pic : PIC) (ad : Nat → Nat) (nb ns : Nat) (cl : Int32) (d : Nat) (lim use beg cau : Nat → Int32) (on : Nat) (kept fs : Int32) (rd fb : Int64) (oa o1 o2 o3 : Nat → Int32) (ov : Nat → Int64) (ac a b2 c2 : Int32) (v : Int64) (hE : EObj pic ad nb ns cl) (hC : CallsA pic cA ad d lim use beg cau) (hB : BlkP pic cA 94 (ad 94) (ad 95) (ad 96) (ad 97) (ad 98) (ad 99) (nI on) kept fs rd fb oa o1 o2 o3 ov) (hd : d ≤ 8) (hon : on ≤ 32)  : CI l yX5_tell cX5_tell 7 (some .int) { frames := 3, cells := 0, slots := 0, locals := 65 } 0 0 D cA base pic [.ref (ad 0), .int ac, .int a, .int b2, .int c2, .long v] (fun x9 pic1 => x9 = (tellF d lim use beg cau on ac a b2 c2).1 ∧ CallsA pic1 cA ad (tellF d lim use beg cau on ac a b2 c2).2.1 lim (tellF d lim use beg cau on ac a b2 c2).2.2.1 beg cau ∧ BlkP pic1 cA 94 (ad 94) (ad 95) (ad 96) (ad 97) (ad 98) (ad 99) (tellF d lim use beg cau on ac a b2 c2).2.2.2.1 kept fs rd fb (cond (tellF d lim use beg cau on ac a b2 c2).2.2.2.2 (upd oa on ac) oa) (cond (tellF d lim use beg cau on ac a b2 c2).2.2.2.2 (upd o1 on a) o1) (cond (tellF d lim use beg cau on ac a b2 c2).2.2.2.2 (upd o2 on b2) o2) (cond (tellF d lim use beg cau on ac a b2 c2).2.2.2.2 (upd o3 on c2) o3) (cond (tellF d lim use beg cau on ac a b2 c2).2.2.2.2 (vp_updL ov on v) ov) ∧ ∀ q, ¬ (1 ≤ q ∧ q < 6 ∨ 94 ≤ q ∧ q < 100) → pic1 q = pic q) := by
  refine ofI (by decide) (Nat.le_of_ble_eq_true rfl) ?_
  intro p e s m below meth c K hr hlk hnm
  have FR : ∀ q, ¬ (1 ≤ q ∧ q < 6 ∨ 94 ≤ q ∧ q < 100) → pic q = pic q := fun _ _ => rfl
  have fE := hE
  unfold EObj at fE
  obtain ⟨f0, f1, f2, f3, f4⟩ := hC
  obtain ⟨fB, g1, g2, g3, g4, g5⟩ := hB
  refine v_iload_n K 1 dX5_tell_0 rfl rfl ?_
  refine v_iload_n K 2 dX5_tell_1 rfl rfl ?_
  refine v_iload_n K 3 dX5_tell_2 rfl rfl ?_
  refine v_iload K dX5_tell_3 rfl ?_
  refine cl_X5_66 K dX5_tell_5 (c_X5_isEvent l D cA base pic ac a b2 c2) rfl rfl ⟨by decide, by decide⟩ (Nat.le_of_ble_eq_true rfl) ⟨by decide, by decide⟩ (fun x5 pic1 hx2 => ?_)
  rcases hx2 with ⟨rfl, rfl, hpE⟩ | ⟨rfl, rfl, hqE⟩
  · refine v_if_ne K 13 dX5_tell_8 (by decide) rfl (fun _ => ?_) (fun c => absurd c (by decide))
    refine v_aload_n K 0 dX5_tell_13 rfl rfl ?_
    refine gf_X5_10 K dX5_tell_14 fE rfl ?_
    refine gf_X5_47 K dX5_tell_17 f0 rfl ?_
    refine v_if_ne K 26 dX5_tell_20 (by decide) (nI_toInt (by omega)) (fun c20 => ?_) (fun c20 => ?_)
    · refine v_aload_n K 0 dX5_tell_26 rfl rfl ?_
      refine gf_X5_43 K dX5_tell_27 fE rfl ?_
      refine gf_X5_59 K dX5_tell_30 fB rfl ?_
      refine v_bipush (v := nI 32) K dX5_tell_33 (by decide) ?_
      refine v_icmp_lt K 41 dX5_tell_35 (by decide) (nI_toInt (by omega)) (nI_toInt (by omega)) (fun c35 => ?_) (fun c35 => ?_)
      · refine v_aload_n K 0 dX5_tell_41 rfl rfl ?_
        refine gf_X5_10 K dX5_tell_42 fE rfl ?_
        refine v_iconst (v := nI 5) K dX5_tell_45 (by decide) ?_
        refine v_iconst (v := nI 2) K dX5_tell_46 (by decide) ?_
        refine v_iload_n K 3 dX5_tell_47 rfl rfl ?_
        refine v_iload K dX5_tell_48 rfl ?_
        refine cl_X5_70 K dX5_tell_50 (c_X5_topicCount l D cA base pic b2 c2) rfl rfl ⟨by decide, by decide⟩ (Nat.le_of_ble_eq_true rfl) ⟨by decide, by decide⟩ (fun x50 pic3 hx4 => ?_)
        obtain ⟨rfl, rfl⟩ := hx4
        refine v_imul K dX5_tell_53 ?_
        refine v_iadd K dX5_tell_54 ?_
        refine v_top (v := .int (costF b2 c2)) (by rw [cost_eq]) ?_
        refine cl_X5_51 K dX5_tell_55 f0 (c_X1_pay l D cA base pic (ad 1) (ad 2) (ad 3) (ad 4) (ad 5) d lim use beg cau (costF b2 c2) ⟨f0, f1, f2, f3, f4⟩ hd) rfl rfl ⟨by decide, by decide⟩ (Nat.le_of_ble_eq_true rfl) ⟨by decide, by decide⟩ (fun x55 pic5 hx6 => ?_)
        rcases hx6 with ⟨rfl, rfl, hp⟩ | ⟨rfl, hp0, hp1, ⟨h0, h1, h2, h3, h4⟩, h5⟩
        · refine v_if_ne K 66 dX5_tell_58 (by decide) rfl (fun c => absurd c (by decide)) (fun _ => ?_)
          refine v_aload_n K 0 dX5_tell_61 rfl rfl ?_
          refine cl_X5_55 K dX5_tell_62 fE (c_X5_failInnermost l D cA base pic ad nb ns cl d lim use beg cau (nI on) kept fs rd fb fE ⟨f0, f1, f2, f3, f4⟩ fB hd) rfl rfl ⟨by decide, by decide⟩ (Nat.le_of_ble_eq_true rfl) ⟨by decide, by decide⟩ (fun x62 pic7 hx8 => ?_)
          obtain ⟨rfl, ⟨h0, h1, h2, h3, h4⟩, h6, h5⟩ := hx8
          replace fE := (h5 _ (by omega)).trans fE
          replace f0 := h0
          replace f1 := h1
          replace f2 := h2
          replace f3 := h3
          replace f4 := h4
          replace fB := h6
          replace g1 := (h5 _ (by omega)).trans g1
          replace g2 := (h5 _ (by omega)).trans g2
          replace g3 := (h5 _ (by omega)).trans g3
          replace g4 := (h5 _ (by omega)).trans g4
          replace g5 := (h5 _ (by omega)).trans g5
          have FR : ∀ q, ¬ (1 ≤ q ∧ q < 6 ∨ 94 ≤ q ∧ q < 100) → pic7 q = pic q := fun q hq => (h5 q (by omega)).trans (FR q hq)
          exact v_iret K dX5_tell_65 hr hlk (by decide) (by decide) (by first | exact (by rw [tellF_0 hqE]; exact ⟨rfl, ⟨f0, f1, f2, f3, f4⟩, ⟨fB, g1, g2, g3, g4, g5⟩, FR⟩) | exact (by rw [tellF_1 (fun h => h hpE) (by omega)]; exact ⟨rfl, ⟨f0, f1, f2, f3, f4⟩, ⟨fB, g1, g2, g3, g4, g5⟩, FR⟩) | exact (by rw [tellF_2 (fun h => h hpE) (by omega) (by omega)]; exact ⟨rfl, ⟨f0, f1, f2, f3, f4⟩, ⟨fB, g1, g2, g3, g4, g5⟩, FR⟩) | exact (by rw [tellF_3 (fun h => h hpE) (by omega) (by omega) (by omega)]; exact ⟨rfl, ⟨f0, f1, f2, f3, f4⟩, ⟨fB, g1, g2, g3, g4, g5⟩, FR⟩) | exact (by rw [tellF_4 (fun h => h hpE) (by omega) (by omega) (by omega)]; exact ⟨rfl, ⟨f0, f1, f2, f3, f4⟩, ⟨fB, g1, g2, g3, g4, g5⟩, FR⟩))
        · replace fE := (h5 _ (by omega)).trans fE
          replace f0 := h0
          replace f1 := h1
          replace f2 := h2
          replace f3 := h3
          replace f4 := h4
          replace fB := (h5 _ (by omega)).trans fB
          replace g1 := (h5 _ (by omega)).trans g1
          replace g2 := (h5 _ (by omega)).trans g2
          replace g3 := (h5 _ (by omega)).trans g3
          replace g4 := (h5 _ (by omega)).trans g4
          replace g5 := (h5 _ (by omega)).trans g5
          have FR : ∀ q, ¬ (1 ≤ q ∧ q < 6 ∨ 94 ≤ q ∧ q < 100) → pic5 q = pic q := fun q hq => (h5 q (by omega)).trans (FR q hq)
          refine v_if_ne K 66 dX5_tell_58 (by decide) rfl (fun _ => ?_) (fun c => absurd c (by decide))
          refine v_aload_n K 0 dX5_tell_66 rfl rfl ?_
          refine gf_X5_43 K dX5_tell_67 fE rfl ?_
          refine v_iload_n K 1 dX5_tell_70 rfl rfl ?_
          refine v_iload_n K 2 dX5_tell_71 rfl rfl ?_
          refine v_iload_n K 3 dX5_tell_72 rfl rfl ?_
          refine v_iload K dX5_tell_73 rfl ?_
          refine v_lload K dX5_tell_75 rfl ?_
          refine cl_X5_74 K dX5_tell_77 fB (c_X0_add l D cA base pic5 94 (ad 94) (ad 95) (ad 96) (ad 97) (ad 98) (ad 99) on kept fs rd fb oa o1 o2 o3 ov ac a b2 c2 v ⟨fB, g1, g2, g3, g4, g5⟩ (by omega)) rfl rfl ⟨by decide, by decide⟩ (Nat.le_of_ble_eq_true rfl) ⟨by decide, by decide⟩ (fun pic9 hx10 => ?_)
          obtain ⟨⟨k0, k1, k2, k3, k4, k5⟩, kf⟩ := hx10
          replace fE := (kf _ (by omega)).trans fE
          replace f0 := (kf _ (by omega)).trans f0
          replace f1 := (kf _ (by omega)).trans f1
          replace f2 := (kf _ (by omega)).trans f2
          replace f3 := (kf _ (by omega)).trans f3
          replace f4 := (kf _ (by omega)).trans f4
          replace fB := k0
          replace g1 := k1
          replace g2 := k2
          replace g3 := k3
          replace g4 := k4
          replace g5 := k5
          have FR : ∀ q, ¬ (1 ≤ q ∧ q < 6 ∨ 94 ≤ q ∧ q < 100) → pic9 q = pic q := fun q hq => (kf q (by omega)).trans (FR q hq)
          refine v_aload_n K 0 dX5_tell_80 rfl rfl ?_
          refine gf_X5_43 K dX5_tell_81 fE rfl ?_
          refine gf_X5_59 K dX5_tell_84 fB rfl ?_
          exact v_iret K dX5_tell_87 hr hlk (by decide) (by decide) (by first | exact (by rw [tellF_0 hqE]; exact ⟨rfl, ⟨f0, f1, f2, f3, f4⟩, ⟨fB, g1, g2, g3, g4, g5⟩, FR⟩) | exact (by rw [tellF_1 (fun h => h hpE) (by omega)]; exact ⟨rfl, ⟨f0, f1, f2, f3, f4⟩, ⟨fB, g1, g2, g3, g4, g5⟩, FR⟩) | exact (by rw [tellF_2 (fun h => h hpE) (by omega) (by omega)]; exact ⟨rfl, ⟨f0, f1, f2, f3, f4⟩, ⟨fB, g1, g2, g3, g4, g5⟩, FR⟩) | exact (by rw [tellF_3 (fun h => h hpE) (by omega) (by omega) (by omega)]; exact ⟨rfl, ⟨f0, f1, f2, f3, f4⟩, ⟨fB, g1, g2, g3, g4, g5⟩, FR⟩) | exact (by rw [tellF_4 (fun h => h hpE) (by omega) (by omega) (by omega)]; exact ⟨rfl, ⟨f0, f1, f2, f3, f4⟩, ⟨fB, g1, g2, g3, g4, g5⟩, FR⟩))
      · refine v_bipush (v := -3) K dX5_tell_38 (by decide) ?_
        exact v_iret K dX5_tell_40 hr hlk (by decide) (by decide) (by first | exact (by rw [tellF_0 hqE]; exact ⟨rfl, ⟨f0, f1, f2, f3, f4⟩, ⟨fB, g1, g2, g3, g4, g5⟩, FR⟩) | exact (by rw [tellF_1 (fun h => h hpE) (by omega)]; exact ⟨rfl, ⟨f0, f1, f2, f3, f4⟩, ⟨fB, g1, g2, g3, g4, g5⟩, FR⟩) | exact (by rw [tellF_2 (fun h => h hpE) (by omega) (by omega)]; exact ⟨rfl, ⟨f0, f1, f2, f3, f4⟩, ⟨fB, g1, g2, g3, g4, g5⟩, FR⟩) | exact (by rw [tellF_3 (fun h => h hpE) (by omega) (by omega) (by omega)]; exact ⟨rfl, ⟨f0, f1, f2, f3, f4⟩, ⟨fB, g1, g2, g3, g4, g5⟩, FR⟩) | exact (by rw [tellF_4 (fun h => h hpE) (by omega) (by omega) (by omega)]; exact ⟨rfl, ⟨f0, f1, f2, f3, f4⟩, ⟨fB, g1, g2, g3, g4, g5⟩, FR⟩))
    · refine v_bipush (v := -2) K dX5_tell_23 (by decide) ?_
      exact v_iret K dX5_tell_25 hr hlk (by decide) (by decide) (by first | exact (by rw [tellF_0 hqE]; exact ⟨rfl, ⟨f0, f1, f2, f3, f4⟩, ⟨fB, g1, g2, g3, g4, g5⟩, FR⟩) | exact (by rw [tellF_1 (fun h => h hpE) (by omega)]; exact ⟨rfl, ⟨f0, f1, f2, f3, f4⟩, ⟨fB, g1, g2, g3, g4, g5⟩, FR⟩) | exact (by rw [tellF_2 (fun h => h hpE) (by omega) (by omega)]; exact ⟨rfl, ⟨f0, f1, f2, f3, f4⟩, ⟨fB, g1, g2, g3, g4, g5⟩, FR⟩) | exact (by rw [tellF_3 (fun h => h hpE) (by omega) (by omega) (by omega)]; exact ⟨rfl, ⟨f0, f1, f2, f3, f4⟩, ⟨fB, g1, g2, g3, g4, g5⟩, FR⟩) | exact (by rw [tellF_4 (fun h => h hpE) (by omega) (by omega) (by omega)]; exact ⟨rfl, ⟨f0, f1, f2, f3, f4⟩, ⟨fB, g1, g2, g3, g4, g5⟩, FR⟩))
  · refine v_if_ne K 13 dX5_tell_8 (by decide) rfl (fun c => absurd c (by decide)) (fun _ => ?_)
    refine v_iconst (v := -1) K dX5_tell_11 (by decide) ?_
    exact v_iret K dX5_tell_12 hr hlk (by decide) (by decide) (by first | exact (by rw [tellF_0 hqE]; exact ⟨rfl, ⟨f0, f1, f2, f3, f4⟩, ⟨fB, g1, g2, g3, g4, g5⟩, FR⟩) | exact (by rw [tellF_1 (fun h => h hpE) (by omega)]; exact ⟨rfl, ⟨f0, f1, f2, f3, f4⟩, ⟨fB, g1, g2, g3, g4, g5⟩, FR⟩) | exact (by rw [tellF_2 (fun h => h hpE) (by omega) (by omega)]; exact ⟨rfl, ⟨f0, f1, f2, f3, f4⟩, ⟨fB, g1, g2, g3, g4, g5⟩, FR⟩) | exact (by rw [tellF_3 (fun h => h hpE) (by omega) (by omega) (by omega)]; exact ⟨rfl, ⟨f0, f1, f2, f3, f4⟩, ⟨fB, g1, g2, g3, g4, g5⟩, FR⟩) | exact (by rw [tellF_4 (fun h => h hpE) (by omega) (by omega) (by omega)]; exact ⟨rfl, ⟨f0, f1, f2, f3, f4⟩, ⟨fB, g1, g2, g3, g4, g5⟩, FR⟩))

set_option maxHeartbeats 4000000 in
set_option maxRecDepth 100000 in
theorem c_X5_end (l : Launch) (D : va_G) (cA : Nat → ClassId) (base : Nat) (pic : PIC) (ad : Nat → Nat) (nb ns : Nat) (cl : Int32) (d : Nat) (lim use beg cau : Nat → Int32) (cnt kept fs : Int32) (rd fb : Int64) (w : Int32) (hE : EObj pic ad nb ns cl) (hC : CallsA pic cA ad d lim use beg cau) (fB : pic 94 = some (ad 94, obE ad cnt kept fs rd fb)) (hd : d ≤ 8)  : CI l yX5_end cX5_end 2 (some .int) { frames := 3, cells := 0, slots := 0, locals := 65 } 0 0 D cA base pic [.ref (ad 0), .int w] (fun x9 pic1 => x9 = (endF d use beg cau cnt w).1 ∧ CallsA pic1 cA ad (endF d use beg cau cnt w).2.1 lim (endF d use beg cau cnt w).2.2.1 beg cau ∧ pic1 94 = some (ad 94, obE ad (endF d use beg cau cnt w).2.2.2 kept fs rd fb) ∧ ∀ q, ¬ (1 ≤ q ∧ q < 6 ∨ q = 94) → pic1 q = pic q) := by
  refine ofI (by decide) (Nat.le_of_ble_eq_true rfl) ?_
  intro p e s m below meth c K hr hlk hnm
  have FR : ∀ q, ¬ (1 ≤ q ∧ q < 6 ∨ q = 94) → pic q = pic q := fun _ _ => rfl
  have fE := hE
  unfold EObj at fE
  obtain ⟨f0, f1, f2, f3, f4⟩ := hC
  refine v_aload_n K 0 dX5_end_0 rfl rfl ?_
  refine gf_X5_10 K dX5_end_1 fE rfl ?_
  refine gf_X5_47 K dX5_end_4 f0 rfl ?_
  refine v_if_ne K 13 dX5_end_7 (by decide) (nI_toInt (by omega)) (fun c7 => ?_) (fun c7 => ?_)
  · refine v_iload_n K 1 dX5_end_13 rfl rfl ?_
    refine v_if_eq K 27 dX5_end_14 (by decide) rfl (fun c14 => ?_) (fun c14 => ?_)
    · refine v_aload_n K 0 dX5_end_27 rfl rfl ?_
      refine cl_X5_55 K dX5_end_28 fE (c_X5_failInnermost l D cA base pic ad nb ns cl d lim use beg cau cnt kept fs rd fb fE ⟨f0, f1, f2, f3, f4⟩ fB hd) rfl rfl ⟨by decide, by decide⟩ (Nat.le_of_ble_eq_true rfl) ⟨by decide, by decide⟩ (fun x28 pic1 hx2 => ?_)
      obtain ⟨rfl, ⟨h0, h1, h2, h3, h4⟩, h6, h5⟩ := hx2
      replace fE := (h5 _ (by omega)).trans fE
      replace f0 := h0
      replace f1 := h1
      replace f2 := h2
      replace f3 := h3
      replace f4 := h4
      replace fB := h6
      have FR : ∀ q, ¬ (1 ≤ q ∧ q < 6 ∨ q = 94) → pic1 q = pic q := fun q hq => (h5 q (by omega)).trans (FR q hq)
      exact v_iret K dX5_end_31 hr hlk (by decide) (by decide) (by first | exact (by rw [endF_0 (by omega)]; exact ⟨rfl, ⟨f0, f1, f2, f3, f4⟩, fB, FR⟩) | exact (by rw [endF_1 (by omega) (by omega)]; exact ⟨rfl, ⟨f0, f1, f2, f3, f4⟩, fB, FR⟩) | exact (by rw [endF_2 (by omega) (by omega)]; exact ⟨rfl, ⟨f0, f1, f2, f3, f4⟩, fB, FR⟩))
    · refine v_aload_n K 0 dX5_end_17 rfl rfl ?_
      refine gf_X5_10 K dX5_end_18 fE rfl ?_
      refine cl_X5_78 K dX5_end_21 f0 (c_X1_pop l D cA base pic (ad 1) (ad 2) (ad 3) (ad 4) (ad 5) d lim use beg cau ⟨f0, f1, f2, f3, f4⟩ hd (by omega)) rfl rfl ⟨by decide, by decide⟩ (Nat.le_of_ble_eq_true rfl) ⟨by decide, by decide⟩ (fun x21 pic3 hx4 => ?_)
      obtain ⟨rfl, ⟨h0, h1, h2, h3, h4⟩, h5⟩ := hx4
      replace fE := (h5 _ (by omega)).trans fE
      replace f0 := h0
      replace f1 := h1
      replace f2 := h2
      replace f3 := h3
      replace f4 := h4
      replace fB := (h5 _ (by omega)).trans fB
      have FR : ∀ q, ¬ (1 ≤ q ∧ q < 6 ∨ q = 94) → pic3 q = pic q := fun q hq => (h5 q (by omega)).trans (FR q hq)
      refine v_goto K 31 dX5_end_24 (by decide) ?_
      exact v_iret K dX5_end_31 hr hlk (by decide) (by decide) (by first | exact (by rw [endF_0 (by omega)]; exact ⟨rfl, ⟨f0, f1, f2, f3, f4⟩, fB, FR⟩) | exact (by rw [endF_1 (by omega) (by omega)]; exact ⟨rfl, ⟨f0, f1, f2, f3, f4⟩, fB, FR⟩) | exact (by rw [endF_2 (by omega) (by omega)]; exact ⟨rfl, ⟨f0, f1, f2, f3, f4⟩, fB, FR⟩))
  · refine v_bipush (v := -2) K dX5_end_10 (by decide) ?_
    exact v_iret K dX5_end_12 hr hlk (by decide) (by decide) (by first | exact (by rw [endF_0 (by omega)]; exact ⟨rfl, ⟨f0, f1, f2, f3, f4⟩, fB, FR⟩) | exact (by rw [endF_1 (by omega) (by omega)]; exact ⟨rfl, ⟨f0, f1, f2, f3, f4⟩, fB, FR⟩) | exact (by rw [endF_2 (by omega) (by omega)]; exact ⟨rfl, ⟨f0, f1, f2, f3, f4⟩, fB, FR⟩))

set_option maxHeartbeats 4000000 in
set_option maxRecDepth 100000 in
theorem c_X5_told (l : Launch) (D : va_G) (cA : Nat → ClassId) (base : Nat) (pic : PIC) (ad : Nat → Nat) (nb ns : Nat) (cl : Int32) (d : Nat) (lim use beg cau : Nat → Int32) (on : Nat) (kept fs : Int32) (rd fb : Int64) (w : Int32) (hE : EObj pic ad nb ns cl) (hC : CallsA pic cA ad d lim use beg cau) (fB : pic 94 = some (ad 94, obE ad (nI on) kept fs rd fb)) (hd : d ≤ 8)  : CI l yX5_told cX5_told 2 (some .int) { frames := 1, cells := 0, slots := 0, locals := 20 } 0 0 D cA base pic [.ref (ad 0), .int w] (fun x9 pic1 => pic = pic1 ∧ x9 = (toldF d lim use on nb ns cl w.toInt)) := by
  refine ofI (by decide) (Nat.le_of_ble_eq_true rfl) ?_
  intro p e s m below meth c K hr hlk hnm
  have fE := hE
  unfold EObj at fE
  obtain ⟨f0, f1, f2, f3, f4⟩ := hC
  refine v_iload_n K 1 dX5_told_0 rfl rfl ?_
  rcases tsw7 w with hw | rfl | rfl | rfl | rfl | rfl | rfl | rfl
  · refine v_tableOut K 99 dX5_told_1 rfl (by omega) (by decide) ?_
    refine v_iconst (v := -1) K dX5_told_99 (by decide) ?_
    exact v_iret K dX5_told_100 hr hlk (by decide) (by decide) (⟨rfl, by rw [toldF_7 (by omega) (by omega) (by omega) (by omega) (by omega) (by omega) (by omega)]⟩)
  · refine v_tableIn K 44 dX5_told_1 (nI_toInt (n := 0) (by decide)) (by decide) (by decide) rfl (by decide) ?_
    refine v_aload_n K 0 dX5_told_44 rfl rfl ?_
    refine gf_X5_10 K dX5_told_45 fE rfl ?_
    refine gf_X5_47 K dX5_told_48 f0 rfl ?_
    exact v_iret K dX5_told_51 hr hlk (by decide) (by decide) (⟨rfl, by rw [show (nI 0).toInt = 0 from by decide, toldF_0 rfl]⟩)
  · refine v_tableIn K 52 dX5_told_1 (nI_toInt (n := 1) (by decide)) (by decide) (by decide) rfl (by decide) ?_
    refine v_aload_n K 0 dX5_told_52 rfl rfl ?_
    refine gf_X5_10 K dX5_told_53 fE rfl ?_
    refine cl_X5_81 K dX5_told_56 f0 (c_X1_usedOfInnermost l D cA base pic (ad 1) (ad 2) (ad 3) (ad 4) (ad 5) d lim use beg cau ⟨f0, f1, f2, f3, f4⟩ hd) rfl rfl ⟨by decide, by decide⟩ (Nat.le_of_ble_eq_true rfl) ⟨by decide, by decide⟩ (fun x56 pic1 hx2 => ?_)
    obtain ⟨rfl, rfl⟩ := hx2
    exact v_iret K dX5_told_59 hr hlk (by decide) (by decide) (⟨rfl, by rw [show (nI 1).toInt = 1 from by decide, toldF_1 (by decide) rfl]⟩)
  · refine v_tableIn K 60 dX5_told_1 (nI_toInt (n := 2) (by decide)) (by decide) (by decide) rfl (by decide) ?_
    refine v_aload_n K 0 dX5_told_60 rfl rfl ?_
    refine gf_X5_10 K dX5_told_61 fE rfl ?_
    refine cl_X5_84 K dX5_told_64 f0 (c_X1_leftOfInnermost l D cA base pic (ad 1) (ad 2) (ad 3) (ad 4) (ad 5) d lim use beg cau ⟨f0, f1, f2, f3, f4⟩ hd) rfl rfl ⟨by decide, by decide⟩ (Nat.le_of_ble_eq_true rfl) ⟨by decide, by decide⟩ (fun x64 pic3 hx4 => ?_)
    obtain ⟨rfl, rfl⟩ := hx4
    exact v_iret K dX5_told_67 hr hlk (by decide) (by decide) (⟨rfl, by rw [show (nI 2).toInt = 2 from by decide, toldF_2 (by decide) (by decide) rfl]⟩)
  · refine v_tableIn K 68 dX5_told_1 (nI_toInt (n := 3) (by decide)) (by decide) (by decide) rfl (by decide) ?_
    refine v_aload_n K 0 dX5_told_68 rfl rfl ?_
    refine gf_X5_43 K dX5_told_69 fE rfl ?_
    refine gf_X5_59 K dX5_told_72 fB rfl ?_
    exact v_iret K dX5_told_75 hr hlk (by decide) (by decide) (⟨rfl, by rw [show (nI 3).toInt = 3 from by decide, toldF_3 (by decide) (by decide) (by decide) rfl]⟩)
  · refine v_tableIn K 76 dX5_told_1 (nI_toInt (n := 4) (by decide)) (by decide) (by decide) rfl (by decide) ?_
    refine v_aload_n K 0 dX5_told_76 rfl rfl ?_
    refine gf_X5_87 K dX5_told_77 fE rfl ?_
    refine v_aload_n K 0 dX5_told_80 rfl rfl ?_
    refine gf_X5_43 K dX5_told_81 fE rfl ?_
    refine gf_X5_59 K dX5_told_84 fB rfl ?_
    refine v_iadd K dX5_told_87 ?_
    exact v_iret K dX5_told_88 hr hlk (by decide) (by decide) (⟨rfl, by rw [show (nI 4).toInt = 4 from by decide, toldF_4 (by decide) (by decide) (by decide) (by decide) rfl]⟩)
  · refine v_tableIn K 89 dX5_told_1 (nI_toInt (n := 5) (by decide)) (by decide) (by decide) rfl (by decide) ?_
    refine v_aload_n K 0 dX5_told_89 rfl rfl ?_
    refine gf_X5_90 K dX5_told_90 fE rfl ?_
    exact v_iret K dX5_told_93 hr hlk (by decide) (by decide) (⟨rfl, by rw [show (nI 5).toInt = 5 from by decide, toldF_5 (by decide) (by decide) (by decide) (by decide) (by decide) rfl]⟩)
  · refine v_tableIn K 94 dX5_told_1 (nI_toInt (n := 6) (by decide)) (by decide) (by decide) rfl (by decide) ?_
    refine v_aload_n K 0 dX5_told_94 rfl rfl ?_
    refine gf_X5_93 K dX5_told_95 fE rfl ?_
    exact v_iret K dX5_told_98 hr hlk (by decide) (by decide) (⟨rfl, by rw [show (nI 6).toInt = 6 from by decide, toldF_6 (by decide) (by decide) (by decide) (by decide) (by decide) (by decide) rfl]⟩)

