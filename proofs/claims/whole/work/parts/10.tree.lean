/-- the row of digests: how wide after k steps, which number after k steps, the one beside -/
def wF (n : Nat) : Nat → Nat
  | 0 => n
  | k + 1 => (wF n k + 1) / 2
def nF (i : Nat) : Nat → Nat
  | 0 => i
  | k + 1 => nF i k / 2
def besF (m : Nat) : Nat := if m % 2 = 0 then m + 1 else m - 1
def riseF (f : Nat → Int64) (w : Nat) : Nat → Int64 := fun i => if 2 * i + 1 < w then mixF (f (2 * i)) (f (2 * i + 1)) else f (2 * i)
def lvF (f : Nat → Int64) (n : Nat) : Nat → Nat → Int64
  | 0 => f
  | k + 1 => riseF (lvF f n k) (wF n k)
def rootF (f : Nat → Int64) (n : Nat) : Int64 := if n = 0 then 0 else lvF f n 5 0
def pdF (f : Nat → Int64) (n i : Nat) (dg : Nat → Int64) : Nat → (Nat → Int64) × Nat
  | 0 => (dg, 0)
  | k + 1 => if besF (nF i k) < wF n k then (vp_updL (pdF f n i dg k).1 (pdF f n i dg k).2 (lvF f n k (besF (nF i k))), (pdF f n i dg k).2 + 1) else pdF f n i dg k
def mixS (m : Nat) (d x : Int64) : Int64 := if m % 2 = 0 then mixF d x else mixF x d
def ldF (dg : Nat → Int64) (no : Nat) (lf : Int64) (n i : Nat) : Nat → Option (Int64 × Nat)
  | 0 => some (lf, 0)
  | k + 1 => match ldF dg no lf n i k with
    | none => none
    | some (d, t) => if besF (nF i k) < wF n k then (if t < no then some (mixS (nF i k) d (dg t), t + 1) else none) else some (d, t)
def ldOK (dg : Nat → Int64) (no : Nat) (lf : Int64) (n i : Nat) (root : Int64) : Prop := ldF dg no lf n i 5 = some (root, no)
def lfB (ac t1 t2 t3 : Nat → Int32) (vl : Nat → Int64) : Nat → Int64 := fun i => leafF (ac i) (t1 i) (t2 i) (t3 i) (vl i) (nI i)
theorem wF_le (n : Nat) : ∀ k, wF n k ≤ n
  | 0 => Nat.le_refl n
  | k + 1 => by have := wF_le n k; show (wF n k + 1) / 2 ≤ n; omega
theorem wF_0 {n : Nat} (h : 0 < n) : ∀ k, 0 < wF n k
  | 0 => h
  | k + 1 => by have := wF_0 h k; show 0 < (wF n k + 1) / 2; omega
theorem nF_le (i : Nat) : ∀ k, nF i k ≤ i
  | 0 => Nat.le_refl i
  | k + 1 => by have := nF_le i k; show nF i k / 2 ≤ i; omega
theorem nF_lt {n i : Nat} (h : i < n) : ∀ k, nF i k < wF n k
  | 0 => h
  | k + 1 => by have := nF_lt h k; show nF i k / 2 < (wF n k + 1) / 2; omega
theorem pdF_le (f : Nat → Int64) (n i : Nat) (dg : Nat → Int64) : ∀ k, (pdF f n i dg k).2 ≤ k
  | 0 => Nat.le_refl 0
  | k + 1 => by
    have := pdF_le f n i dg k
    unfold pdF
    by_cases h : besF (nF i k) < wF n k
    · rw [if_pos h]; show _ + 1 ≤ _; omega
    · rw [if_neg h]; omega
theorem xorB : ∀ m, m < 32 → nI m ^^^ nI 1 = nI (besF m) := by decide +kernel
theorem besF_le {m : Nat} (h : m < 32) : besF m < 32 := by unfold besF; split <;> omega
theorem rise_agree {f g : Nat → Int64} {w : Nat} (h : ∀ i, i < w → g i = f i) : ∀ i, i < (w + 1) / 2 → riseF g w i = riseF f w i := by
  intro i hi
  unfold riseF
  rw [h (2 * i) (by omega)]
  by_cases h1 : 2 * i + 1 < w
  · rw [if_pos h1, if_pos h1, h (2 * i + 1) h1]
  · rw [if_neg h1, if_neg h1]
theorem ldF_none {dg : Nat → Int64} {no : Nat} {lf : Int64} {n i k : Nat} (h : ldF dg no lf n i k = none) : ∀ j, ldF dg no lf n i (k + j) = none
  | 0 => h
  | j + 1 => by show ldF dg no lf n i ((k + j) + 1) = none; rw [ldF, ldF_none h j]
theorem lgc0 {x y : Int64} : (lg_cmp x y).toInt = 0 ↔ x = y := by
  unfold lg_cmp
  constructor
  · intro h
    by_cases h1 : y < x
    · rw [if_pos h1] at h; exact absurd h (by decide)
    · rw [if_neg h1] at h
      by_cases h2 : x = y
      · exact h2
      · rw [if_neg h2] at h; exact absurd h (by decide)
  · intro h
    subst h
    rw [if_neg (Int64.lt_irrefl), if_pos rfl]
    decide
def TreeP (pic : PIC) (cA : Nat → ClassId) (aT aR w : Nat) (g : Nat → Int64) : Prop := pic 7 = some (aT, .inr (7, [.ref aR, .int (nI w)])) ∧ pic 8 = some (aR, .inl (cA 1, 32, .inr (.inl g)))
def OutP (pic : PIC) (cA : Nat → ClassId) (aO aG no : Nat) (dg : Nat → Int64) : Prop := pic 9 = some (aO, .inr (5, [.ref aG, .int (nI no)])) ∧ pic 10 = some (aG, .inl (cA 1, 5, .inr (.inl dg)))
set_option maxHeartbeats 4000000 in
set_option maxRecDepth 100000 in
theorem c_X1_init (l : Launch) (D : va_G) (cA : Nat → ClassId) (base : Nat) (pic : PIC) (a0 : Nat) (f0 : pic 1 = some (a0, .inr (4, [.null, .null, .null, .null, .int 0]))) (z1 : pic 2 = none) (z2 : pic 3 = none) (z3 : pic 4 = none) (z4 : pic 5 = none)  : CV l yX1_init cX1_init 1 none { frames := 1, cells := 4, slots := 32, locals := 12 } 4 32 D cA base pic [.ref a0] (fun pic1 => (∃ r1 r2 r3 r4, CallsP pic1 cA a0 r1 r2 r3 r4 0 (fun _ => 0) (fun _ => 0) (fun _ => 0) (fun _ => 0)) ∧ ∀ q, ¬ (1 ≤ q ∧ q < 6) → pic1 q = pic q) := by
  refine ofV (by decide) (Nat.le_of_ble_eq_true rfl) ?_
  intro p e s m below meth c K hr hlk hnm
  have FR : ∀ q, ¬ (1 ≤ q ∧ q < 6) → pic q = pic q := fun _ _ => rfl
  refine v_aload_n K 0 dX1_init_0 rfl rfl ?_
  refine v_objInit K gw_35 gw_12 gw_13 dX1_init_1 (by decide) (Nat.le_of_ble_eq_true rfl) ?_
  refine v_aload_n K 0 dX1_init_4 rfl rfl ?_
  refine v_bipush (v := nI 8) K dX1_init_5 (by decide) ?_
  refine v_newI K (2) gw_36 dX1_init_7 (z1) (by decide) (by decide) (by decide) (fun r1 pic1 f1 zf2 => ?_)
  replace f0 := (zf2 _ (by omega)).trans f0
  replace z2 := (zf2 _ (by omega)).trans z2
  replace z3 := (zf2 _ (by omega)).trans z3
  replace z4 := (zf2 _ (by omega)).trans z4
  have FR : ∀ q, ¬ (1 ≤ q ∧ q < 6) → pic1 q = pic q := fun q hq => (zf2 q (by omega)).trans (FR q hq)
  refine pf_X1_9 K hnm dX1_init_9 f0 (Nat.le_of_ble_eq_true rfl) (fun pic5 zg3 zf4 => ?_)
  replace f0 := zg3
  replace z2 := (zf4 _ (by omega)).trans z2
  replace z3 := (zf4 _ (by omega)).trans z3
  replace z4 := (zf4 _ (by omega)).trans z4
  replace f1 := (zf4 _ (by omega)).trans f1
  have FR : ∀ q, ¬ (1 ≤ q ∧ q < 6) → pic5 q = pic q := fun q hq => (zf4 q (by omega)).trans (FR q hq)
  refine v_aload_n K 0 dX1_init_12 rfl rfl ?_
  refine v_bipush (v := nI 8) K dX1_init_13 (by decide) ?_
  refine v_newI K (3) gw_36 dX1_init_15 (z2) (by decide) (by decide) (by decide) (fun r2 pic6 f2 zf7 => ?_)
  replace f0 := (zf7 _ (by omega)).trans f0
  replace z3 := (zf7 _ (by omega)).trans z3
  replace z4 := (zf7 _ (by omega)).trans z4
  replace f1 := (zf7 _ (by omega)).trans f1
  have FR : ∀ q, ¬ (1 ≤ q ∧ q < 6) → pic6 q = pic q := fun q hq => (zf7 q (by omega)).trans (FR q hq)
  refine pf_X1_15 K hnm dX1_init_17 f0 (Nat.le_of_ble_eq_true rfl) (fun pic10 zg8 zf9 => ?_)
  replace f0 := zg8
  replace z3 := (zf9 _ (by omega)).trans z3
  replace z4 := (zf9 _ (by omega)).trans z4
  replace f1 := (zf9 _ (by omega)).trans f1
  replace f2 := (zf9 _ (by omega)).trans f2
  have FR : ∀ q, ¬ (1 ≤ q ∧ q < 6) → pic10 q = pic q := fun q hq => (zf9 q (by omega)).trans (FR q hq)
  refine v_aload_n K 0 dX1_init_20 rfl rfl ?_
  refine v_bipush (v := nI 8) K dX1_init_21 (by decide) ?_
  refine v_newI K (4) gw_36 dX1_init_23 (z3) (by decide) (by decide) (by decide) (fun r3 pic11 f3 zf12 => ?_)
  replace f0 := (zf12 _ (by omega)).trans f0
  replace z4 := (zf12 _ (by omega)).trans z4
  replace f1 := (zf12 _ (by omega)).trans f1
  replace f2 := (zf12 _ (by omega)).trans f2
  have FR : ∀ q, ¬ (1 ≤ q ∧ q < 6) → pic11 q = pic q := fun q hq => (zf12 q (by omega)).trans (FR q hq)
  refine pf_X1_18 K hnm dX1_init_25 f0 (Nat.le_of_ble_eq_true rfl) (fun pic15 zg13 zf14 => ?_)
  replace f0 := zg13
  replace z4 := (zf14 _ (by omega)).trans z4
  replace f1 := (zf14 _ (by omega)).trans f1
  replace f2 := (zf14 _ (by omega)).trans f2
  replace f3 := (zf14 _ (by omega)).trans f3
  have FR : ∀ q, ¬ (1 ≤ q ∧ q < 6) → pic15 q = pic q := fun q hq => (zf14 q (by omega)).trans (FR q hq)
  refine v_aload_n K 0 dX1_init_28 rfl rfl ?_
  refine v_bipush (v := nI 8) K dX1_init_29 (by decide) ?_
  refine v_newZ K (5) gw_40 dX1_init_31 (z4) (by decide) (by decide) (by decide) (fun r4 pic16 f4 zf17 => ?_)
  replace f0 := (zf17 _ (by omega)).trans f0
  replace f1 := (zf17 _ (by omega)).trans f1
  replace f2 := (zf17 _ (by omega)).trans f2
  replace f3 := (zf17 _ (by omega)).trans f3
  have FR : ∀ q, ¬ (1 ≤ q ∧ q < 6) → pic16 q = pic q := fun q hq => (zf17 q (by omega)).trans (FR q hq)
  refine pf_X1_21 K hnm dX1_init_33 f0 (Nat.le_of_ble_eq_true rfl) (fun pic20 zg18 zf19 => ?_)
  replace f0 := zg18
  replace f1 := (zf19 _ (by omega)).trans f1
  replace f2 := (zf19 _ (by omega)).trans f2
  replace f3 := (zf19 _ (by omega)).trans f3
  replace f4 := (zf19 _ (by omega)).trans f4
  have FR : ∀ q, ¬ (1 ≤ q ∧ q < 6) → pic20 q = pic q := fun q hq => (zf19 q (by omega)).trans (FR q hq)
  exact v_vret K dX1_init_36 hr hlk (by decide) (by decide) (⟨⟨r1, r2, r3, r4, f0, f1, f2, f3, f4⟩, FR⟩)

set_option maxHeartbeats 4000000 in
set_option maxRecDepth 100000 in
theorem c_X2_init (l : Launch) (D : va_G) (cA : Nat → ClassId) (base : Nat) (pic : PIC) (a0 : Nat) (f0 : pic 9 = some (a0, .inr (5, [.null, .int 0]))) (z1 : pic 10 = none)  : CV l yX2_init cX2_init 1 none { frames := 1, cells := 1, slots := 5, locals := 12 } 1 5 D cA base pic [.ref a0] (fun pic1 => (∃ r1, OutP pic1 cA a0 r1 0 (fun _ => 0)) ∧ ∀ q, ¬ (q = 9 ∨ q = 10) → pic1 q = pic q) := by
  refine ofV (by decide) (Nat.le_of_ble_eq_true rfl) ?_
  intro p e s m below meth c K hr hlk hnm
  have FR : ∀ q, ¬ (q = 9 ∨ q = 10) → pic q = pic q := fun _ _ => rfl
  refine v_aload_n K 0 dX2_init_0 rfl rfl ?_
  refine v_objInit K gw_48 gw_12 gw_13 dX2_init_1 (by decide) (Nat.le_of_ble_eq_true rfl) ?_
  refine v_aload_n K 0 dX2_init_4 rfl rfl ?_
  refine v_iconst (v := nI 5) K dX2_init_5 (by decide) ?_
  refine v_newL K (10) gw_6 dX2_init_6 (z1) (by decide) (by decide) (by decide) (fun r1 pic1 f1 zf2 => ?_)
  replace f0 := (zf2 _ (by omega)).trans f0
  have FR : ∀ q, ¬ (q = 9 ∨ q = 10) → pic1 q = pic q := fun q hq => (zf2 q (by omega)).trans (FR q hq)
  refine pf_X2_9 K hnm dX2_init_8 f0 (Nat.le_of_ble_eq_true rfl) (fun pic5 zg3 zf4 => ?_)
  replace f0 := zg3
  replace f1 := (zf4 _ (by omega)).trans f1
  have FR : ∀ q, ¬ (q = 9 ∨ q = 10) → pic5 q = pic q := fun q hq => (zf4 q (by omega)).trans (FR q hq)
  exact v_vret K dX2_init_11 hr hlk (by decide) (by decide) (⟨⟨r1, f0, f1⟩, FR⟩)

set_option maxHeartbeats 4000000 in
set_option maxRecDepth 100000 in
theorem c_X4_init (l : Launch) (D : va_G) (cA : Nat → ClassId) (base : Nat) (pic : PIC) (a0 : Nat) (f0 : pic 7 = some (a0, .inr (7, [.null, .int 0]))) (z1 : pic 8 = none)  : CV l yX4_init cX4_init 1 none { frames := 1, cells := 1, slots := 32, locals := 12 } 1 32 D cA base pic [.ref a0] (fun pic1 => (∃ r1, TreeP pic1 cA a0 r1 0 (fun _ => 0)) ∧ ∀ q, ¬ (q = 7 ∨ q = 8) → pic1 q = pic q) := by
  refine ofV (by decide) (Nat.le_of_ble_eq_true rfl) ?_
  intro p e s m below meth c K hr hlk hnm
  have FR : ∀ q, ¬ (q = 7 ∨ q = 8) → pic q = pic q := fun _ _ => rfl
  refine v_aload_n K 0 dX4_init_0 rfl rfl ?_
  refine v_objInit K gw_44 gw_12 gw_13 dX4_init_1 (by decide) (Nat.le_of_ble_eq_true rfl) ?_
  refine v_aload_n K 0 dX4_init_4 rfl rfl ?_
  refine v_bipush (v := nI 32) K dX4_init_5 (by decide) ?_
  refine v_newL K (8) gw_6 dX4_init_7 (z1) (by decide) (by decide) (by decide) (fun r1 pic1 f1 zf2 => ?_)
  replace f0 := (zf2 _ (by omega)).trans f0
  have FR : ∀ q, ¬ (q = 7 ∨ q = 8) → pic1 q = pic q := fun q hq => (zf2 q (by omega)).trans (FR q hq)
  refine pf_X4_9 K hnm dX4_init_9 f0 (Nat.le_of_ble_eq_true rfl) (fun pic5 zg3 zf4 => ?_)
  replace f0 := zg3
  replace f1 := (zf4 _ (by omega)).trans f1
  have FR : ∀ q, ¬ (q = 7 ∨ q = 8) → pic5 q = pic q := fun q hq => (zf4 q (by omega)).trans (FR q hq)
  exact v_vret K dX4_init_12 hr hlk (by decide) (by decide) (⟨⟨r1, f0, f1⟩, FR⟩)

abbrev sbE (tp bk nu : Int32) : va_E := .inr (6, [.int tp, .int bk, .int nu])
set_option maxHeartbeats 4000000 in
set_option maxRecDepth 100000 in
theorem c_X3_init (l : Launch) (D : va_G) (cA : Nat → ClassId) (base : Nat) (pic : PIC) (r a0 : Nat) (t b2 : Int32) (f0 : pic r = some (a0, sbE 0 0 0))  : CV l yX3_init cX3_init 3 none { frames := 1, cells := 0, slots := 0, locals := 12 } 0 0 D cA base pic [.ref a0, .int t, .int b2] (fun pic1 => pic1 r = some (a0, sbE t b2 0) ∧ ∀ q, ¬ (q = r) → pic1 q = pic q) := by
  refine ofV (by decide) (Nat.le_of_ble_eq_true rfl) ?_
  intro p e s m below meth c K hr hlk hnm
  have FR : ∀ q, ¬ (q = r) → pic q = pic q := fun _ _ => rfl
  refine v_aload_n K 0 dX3_init_0 rfl rfl ?_
  refine v_objInit K gw_498 gw_12 gw_13 dX3_init_1 (by decide) (Nat.le_of_ble_eq_true rfl) ?_
  refine v_aload_n K 0 dX3_init_4 rfl rfl ?_
  refine v_iload_n K 1 dX3_init_5 rfl rfl ?_
  refine pf_X3_7 K hnm dX3_init_6 f0 (Nat.le_of_ble_eq_true rfl) (fun pic3 zg1 zf2 => ?_)
  replace f0 := zg1
  have FR : ∀ q, ¬ (q = r) → pic3 q = pic q := fun q hq => (zf2 q (by omega)).trans (FR q hq)
  refine v_aload_n K 0 dX3_init_9 rfl rfl ?_
  refine v_iload_n K 2 dX3_init_10 rfl rfl ?_
  refine pf_X3_13 K dX3_init_11 f0 (Nat.le_of_ble_eq_true rfl) (fun pic6 zg4 zf5 => ?_)
  replace f0 := zg4
  have FR : ∀ q, ¬ (q = r) → pic6 q = pic q := fun q hq => (zf5 q (by omega)).trans (FR q hq)
  exact v_vret K dX3_init_14 hr hlk (by decide) (by decide) (⟨f0, FR⟩)

set_option maxHeartbeats 4000000 in
set_option maxRecDepth 100000 in
theorem c_X3_moveTo (l : Launch) (D : va_G) (cA : Nat → ClassId) (base : Nat) (pic : PIC) (r a0 : Nat) (t b1 n1 b2 n2 : Int32) (f0 : pic r = some (a0, sbE t b1 n1))  : CV l yX3_moveTo cX3_moveTo 3 none { frames := 0, cells := 0, slots := 0, locals := 0 } 0 0 D cA base pic [.ref a0, .int b2, .int n2] (fun pic1 => pic1 r = some (a0, sbE t b2 n2) ∧ ∀ q, ¬ (q = r) → pic1 q = pic q) := by
  refine ofV (by decide) (Nat.le_of_ble_eq_true rfl) ?_
  intro p e s m below meth c K hr hlk hnm
  have FR : ∀ q, ¬ (q = r) → pic q = pic q := fun _ _ => rfl
  refine v_aload_n K 0 dX3_moveTo_0 rfl rfl ?_
  refine v_iload_n K 1 dX3_moveTo_1 rfl rfl ?_
  refine pf_X3_13 K dX3_moveTo_2 f0 (Nat.le_of_ble_eq_true rfl) (fun pic3 zg1 zf2 => ?_)
  replace f0 := zg1
  have FR : ∀ q, ¬ (q = r) → pic3 q = pic q := fun q hq => (zf2 q (by omega)).trans (FR q hq)
  refine v_aload_n K 0 dX3_moveTo_5 rfl rfl ?_
  refine v_iload_n K 2 dX3_moveTo_6 rfl rfl ?_
  refine pf_X3_16 K dX3_moveTo_7 f0 (Nat.le_of_ble_eq_true rfl) (fun pic6 zg4 zf5 => ?_)
  replace f0 := zg4
  have FR : ∀ q, ¬ (q = r) → pic6 q = pic q := fun q hq => (zf5 q (by omega)).trans (FR q hq)
  exact v_vret K dX3_moveTo_10 hr hlk (by decide) (by decide) (⟨f0, FR⟩)

set_option maxHeartbeats 4000000 in
set_option maxRecDepth 100000 in
theorem c_X2_add (l : Launch) (D : va_G) (cA : Nat → ClassId) (base : Nat) (pic : PIC) (aO aG no : Nat) (dg : Nat → Int64) (x2 : Int64) (hO : OutP pic cA aO aG no dg) (hno : no ≤ 5)  : CI l yX2_add cX2_add 3 (some .boolean) { frames := 0, cells := 0, slots := 0, locals := 0 } 0 0 D cA base pic [.ref aO, .long x2] (fun x pic1 => (x = 1 ∧ no < 5 ∧ OutP pic1 cA aO aG (no + 1) (vp_updL dg no x2) ∧ ∀ q, ¬ (q = 9 ∨ q = 10) → pic1 q = pic q) ∨ (pic = pic1 ∧ x = 0 ∧ no = 5)) := by
  refine ofI (by decide) (Nat.le_of_ble_eq_true rfl) ?_
  intro p e s m below meth c K hr hlk hnm
  have FR : ∀ q, ¬ (q = 9 ∨ q = 10) → pic q = pic q := fun _ _ => rfl
  obtain ⟨f0, f1⟩ := hO
  refine v_aload_n K 0 dX2_add_0 rfl rfl ?_
  refine gf_X2_15 K dX2_add_1 f0 rfl ?_
  refine v_iconst (v := nI 5) K dX2_add_4 (by decide) ?_
  refine v_icmp_lt K 10 dX2_add_5 (by decide) (nI_toInt (by omega)) (nI_toInt (by omega)) (fun c5 => ?_) (fun c5 => ?_)
  · refine v_aload_n K 0 dX2_add_10 rfl rfl ?_
    refine gf_X2_9 K dX2_add_11 f0 rfl ?_
    refine v_aload_n K 0 dX2_add_14 rfl rfl ?_
    refine gf_X2_15 K dX2_add_15 f0 rfl ?_
    refine v_lload_n K 1 dX2_add_18 rfl rfl ?_
    refine v_last K dX2_add_19 f1 (by omega) (by decide) (fun pic3 zg1 zf2 => ?_)
    replace f0 := (zf2 _ (by omega)).trans f0
    replace f1 := zg1
    have FR : ∀ q, ¬ (q = 9 ∨ q = 10) → pic3 q = pic q := fun q hq => (zf2 q (by omega)).trans (FR q hq)
    refine v_aload_n K 0 dX2_add_20 rfl rfl ?_
    refine v_dup K dX2_add_21 rfl ?_
    refine gf_X2_15 K dX2_add_22 f0 rfl ?_
    refine v_iconst (v := nI 1) K dX2_add_25 (by decide) ?_
    refine v_iaddN K dX2_add_26 ?_
    refine pf_X2_15 K dX2_add_27 f0 (Nat.le_of_ble_eq_true rfl) (fun pic6 zg4 zf5 => ?_)
    replace f0 := zg4
    replace f1 := (zf5 _ (by omega)).trans f1
    have FR : ∀ q, ¬ (q = 9 ∨ q = 10) → pic6 q = pic q := fun q hq => (zf5 q (by omega)).trans (FR q hq)
    refine v_iconst (v := nI 1) K dX2_add_30 (by decide) ?_
    exact v_zret K dX2_add_31 hr (narB (by first | exact isB0 | exact isB1 | assumption)) hlk (by decide) (by decide) (by first | exact (Or.inl ⟨rfl, by omega, ⟨f0, f1⟩, FR⟩) | exact (Or.inr ⟨rfl, rfl, by omega⟩))
  · refine v_iconst (v := nI 0) K dX2_add_8 (by decide) ?_
    exact v_zret K dX2_add_9 hr (narB (by first | exact isB0 | exact isB1 | assumption)) hlk (by decide) (by decide) (by first | exact (Or.inl ⟨rfl, by omega, ⟨f0, f1⟩, FR⟩) | exact (Or.inr ⟨rfl, rfl, by omega⟩))

set_option maxHeartbeats 4000000 in
set_option maxRecDepth 100000 in
theorem l_X4_plant {p : Program} {l : Launch} {e : Env} {s : State} {m : MethodId} {args : Array Value} {below : List Frame} {meth : Method} {c : Code} {Q : State → Prop} {D : va_G} {cA : Nat → ClassId} {base : Nat} {cw : Cond} (K : KX p m c cX4_plant 3 s args cw RX4 D cA) (aT aR : Nat) (b aB r1 r2 r3 r4 r5 n : Nat) (kept fs : Int32) (rd fb : Int64) (ac t1 t2 t3 : Nat → Int32) (vl : Nat → Int64) (hb : 20 ≤ b) (hn : n ≤ 32) (pic0 : PIC) (kx : ∀ (pic1 : PIC) (g : Nat → Int64), TreeP pic1 cA aT aR n g → (∀ i, i < n → g i = (lfB ac t1 t2 t3 vl) i) → (∀ q, ¬ (q = 7 ∨ q = 8) → pic1 q = pic0 q) → V p l e { frames := 3, cells := 0, slots := 0, locals := 74 } s m args below meth c Q D base 3 pic1 (lvOf [(0, .ref aT)]) 35 [] 0 0) : ∀ (g i : Nat) (pic : PIC) (row : Nat → Int64), n - i < g → i ≤ n → TreeP pic cA aT aR n row → BlkP pic cA b aB r1 r2 r3 r4 r5 (nI n) kept fs rd fb ac t1 t2 t3 vl → (∀ j, j < i → row j = (lfB ac t1 t2 t3 vl) j) → (∀ q, ¬ (q = 7 ∨ q = 8) → pic q = pic0 q) → V p l e { frames := 3, cells := 0, slots := 0, locals := 74 } s m args below meth c Q D base 3 pic (lvOf [(0, .ref aT), (1, .ref aB), (2, .int (nI (i)))]) 10 [] 0 0 := by
  intro g
  induction g with
  | zero => intro i pic row h; omega
  | succ g ih =>
    intro i pic row hg hi hT hB hrow FR
    obtain ⟨e0, e1⟩ := hT
    obtain ⟨f0, f1, f2, f3, f4, f5⟩ := hB
    refine v_iload_n K 2 dX4_plant_10 rfl rfl ?_
    refine v_aload_n K 0 dX4_plant_11 rfl rfl ?_
    refine gf_X4_21 K dX4_plant_12 e0 rfl ?_
    refine v_icmp_ge K 35 dX4_plant_15 (by decide) (nI_toInt (by omega)) (nI_toInt (by omega)) (fun c15 => ?_) (fun c15 => ?_)
    · obtain rfl : i = n := by omega
      refine v_at [(0, .ref aT)] (lcons rfl (lnil)) ?_
      exact kx pic row ⟨e0, e1⟩ hrow FR
    · refine v_aload_n K 0 dX4_plant_18 rfl rfl ?_
      refine gf_X4_9 K dX4_plant_19 e0 rfl ?_
      refine v_iload_n K 2 dX4_plant_22 rfl rfl ?_
      refine v_aload_n K 1 dX4_plant_23 rfl rfl ?_
      refine v_iload_n K 2 dX4_plant_24 rfl rfl ?_
      refine cl_X4_24 K dX4_plant_25 f0 (c_X0_leaf l D cA base pic b aB r1 r2 r3 r4 r5 n kept fs rd fb ac t1 t2 t3 vl i ⟨f0, f1, f2, f3, f4, f5⟩ (by omega)) rfl rfl ⟨by decide, by decide⟩ (Nat.le_of_ble_eq_true rfl) ⟨by decide, by decide⟩ (fun x25 pic1 hx2 => ?_)
      obtain ⟨rfl, rfl⟩ := hx2
      refine v_last K dX4_plant_28 e1 (by omega) (by decide) (fun pic5 zg3 zf4 => ?_)
      replace e0 := (zf4 _ (by omega)).trans e0
      replace e1 := zg3
      replace f0 := (zf4 _ (by omega)).trans f0
      replace f1 := (zf4 _ (by omega)).trans f1
      replace f2 := (zf4 _ (by omega)).trans f2
      replace f3 := (zf4 _ (by omega)).trans f3
      replace f4 := (zf4 _ (by omega)).trans f4
      replace f5 := (zf4 _ (by omega)).trans f5
      have FR : ∀ q, ¬ (q = 7 ∨ q = 8) → pic5 q = pic0 q := fun q hq => (zf4 q (by omega)).trans (FR q hq)
      refine v_iincN K 1 dX4_plant_29 rfl (by decide) (by decide) ?_
      refine v_goto K 10 dX4_plant_32 (by decide) ?_
      refine v_at [(0, .ref aT), (1, .ref aB), (2, .int (nI (i + 1)))] (lcons rfl (lcons rfl (lcons rfl (lnil)))) ?_
      exact ih (i + 1) pic5 _ (by omega) (by omega) ⟨e0, e1⟩ ⟨f0, f1, f2, f3, f4, f5⟩ (fun j hj => by
        by_cases h : j = i
        · subst h; rw [pk_uLs]; rfl
        · rw [pk_uLn h]; exact hrow j (by omega)) FR

set_option maxHeartbeats 4000000 in
set_option maxRecDepth 100000 in
theorem c_X4_plant (l : Launch) (D : va_G) (cA : Nat → ClassId) (base : Nat) (pic : PIC) (aT aR w : Nat) (g0 : Nat → Int64) (b aB r1 r2 r3 r4 r5 n : Nat) (kept fs : Int32) (rd fb : Int64) (ac t1 t2 t3 : Nat → Int32) (vl : Nat → Int64) (hT : TreeP pic cA aT aR w g0) (hB : BlkP pic cA b aB r1 r2 r3 r4 r5 (nI n) kept fs rd fb ac t1 t2 t3 vl) (hb : 20 ≤ b) (hn : n ≤ 32)  : CV l yX4_plant cX4_plant 3 none { frames := 3, cells := 0, slots := 0, locals := 74 } 0 0 D cA base pic [.ref aT, .ref aB] (fun pic1 => (∃ g, TreeP pic1 cA aT aR n g ∧ ∀ i, i < n → g i = (lfB ac t1 t2 t3 vl) i) ∧ ∀ q, ¬ (q = 7 ∨ q = 8) → pic1 q = pic q) := by
  refine ofV (by decide) (Nat.le_of_ble_eq_true rfl) ?_
  intro p e s m below meth c K hr hlk hnm
  have FR : ∀ q, ¬ (q = 7 ∨ q = 8) → pic q = pic q := fun _ _ => rfl
  obtain ⟨e0, e1⟩ := hT
  obtain ⟨f0, f1, f2, f3, f4, f5⟩ := hB
  refine v_aload_n K 0 dX4_plant_0 rfl rfl ?_
  refine v_aload_n K 1 dX4_plant_1 rfl rfl ?_
  refine gf_X4_15 K dX4_plant_2 f0 rfl ?_
  refine pf_X4_21 K dX4_plant_5 e0 (Nat.le_of_ble_eq_true rfl) (fun pic3 zg1 zf2 => ?_)
  replace e0 := zg1
  replace e1 := (zf2 _ (by omega)).trans e1
  replace f0 := (zf2 _ (by omega)).trans f0
  replace f1 := (zf2 _ (by omega)).trans f1
  replace f2 := (zf2 _ (by omega)).trans f2
  replace f3 := (zf2 _ (by omega)).trans f3
  replace f4 := (zf2 _ (by omega)).trans f4
  replace f5 := (zf2 _ (by omega)).trans f5
  have FR : ∀ q, ¬ (q = 7 ∨ q = 8) → pic3 q = pic q := fun q hq => (zf2 q (by omega)).trans (FR q hq)
  refine v_iconst (v := nI 0) K dX4_plant_8 (by decide) ?_
  refine v_istore_n K 2 dX4_plant_9 rfl (by decide) ?_
  refine v_at [(0, .ref aT), (1, .ref aB), (2, .int (nI (0)))] (lcons rfl (lcons rfl (lcons rfl (lnil)))) ?_
  refine l_X4_plant K aT aR b aB r1 r2 r3 r4 r5 n kept fs rd fb ac t1 t2 t3 vl hb hn pic (fun pic1 g h1 h2 h3 => ?_) (n - 0 + 1) 0 pic3 _ (by omega) (by omega) ⟨e0, e1⟩ ⟨f0, f1, f2, f3, f4, f5⟩ (fun j hj => absurd hj (by omega)) FR
  exact v_vret K dX4_plant_35 hr hlk (by decide) (by decide) (⟨⟨g, h1, h2⟩, h3⟩)

set_option maxHeartbeats 4000000 in
set_option maxRecDepth 100000 in
theorem l_X4_rise {p : Program} {l : Launch} {e : Env} {s : State} {m : MethodId} {args : Array Value} {below : List Frame} {meth : Method} {c : Code} {Q : State → Prop} {D : va_G} {cA : Nat → ClassId} {base : Nat} {cw : Cond} (K : KX p m c cX4_rise 3 s args cw RX4 D cA) (aT aR w : Nat) (g0 : Nat → Int64) (hw : w ≤ 32) (pic0 : PIC) (kx : ∀ (pic1 : PIC) (g : Nat → Int64), TreeP pic1 cA aT aR w g → (∀ j, j < w / 2 → g j = mixF (g0 (2 * j)) (g0 (2 * j + 1))) → (∀ j, w / 2 ≤ j → g j = g0 j) → (∀ q, ¬ (q = 7 ∨ q = 8) → pic1 q = pic0 q) → V p l e { frames := 1, cells := 0, slots := 0, locals := 25 } s m args below meth c Q D base 3 pic1 (lvOf [(0, .ref aT), (1, .int (nI (w / 2)))]) 47 [] 0 0) : ∀ (g i : Nat) (pic : PIC) (row : Nat → Int64), w / 2 - i < g → i ≤ w / 2 → TreeP pic cA aT aR w row → (∀ j, j < i → row j = mixF (g0 (2 * j)) (g0 (2 * j + 1))) → (∀ j, i ≤ j → row j = g0 j) → (∀ q, ¬ (q = 7 ∨ q = 8) → pic q = pic0 q) → V p l e { frames := 1, cells := 0, slots := 0, locals := 25 } s m args below meth c Q D base 3 pic (lvOf [(0, .ref aT), (1, .int (nI (w / 2))), (2, .int (nI (i)))]) 9 [] 0 0 := by
  intro g
  induction g with
  | zero => intro i pic row h; omega
  | succ g ih =>
    intro i pic row hg hi hT hlo hhi FR
    obtain ⟨e0, e1⟩ := hT
    refine v_iload_n K 2 dX4_rise_9 rfl rfl ?_
    refine v_iload_n K 1 dX4_rise_10 rfl rfl ?_
    refine v_icmp_ge K 47 dX4_rise_11 (by decide) (nI_toInt (by omega)) (nI_toInt (by omega)) (fun c11 => ?_) (fun c11 => ?_)
    · obtain rfl : i = w / 2 := by omega
      refine v_at [(0, .ref aT), (1, .int (nI (w / 2)))] (lcons rfl (lcons rfl (lnil))) ?_
      exact kx pic row ⟨e0, e1⟩ hlo hhi FR
    · refine v_aload_n K 0 dX4_rise_14 rfl rfl ?_
      refine gf_X4_9 K dX4_rise_15 e0 rfl ?_
      refine v_iload_n K 2 dX4_rise_18 rfl rfl ?_
      refine v_aload_n K 0 dX4_rise_19 rfl rfl ?_
      refine gf_X4_9 K dX4_rise_20 e0 rfl ?_
      refine v_iconst (v := nI 2) K dX4_rise_23 (by decide) ?_
      refine v_iload_n K 2 dX4_rise_24 rfl rfl ?_
      refine v_imulN K dX4_rise_25 ?_
      refine v_lald K dX4_rise_26 e1 (by omega) (by decide) ?_
      refine v_aload_n K 0 dX4_rise_27 rfl rfl ?_
      refine gf_X4_9 K dX4_rise_28 e0 rfl ?_
      refine v_iconst (v := nI 2) K dX4_rise_31 (by decide) ?_
      refine v_iload_n K 2 dX4_rise_32 rfl rfl ?_
      refine v_imulN K dX4_rise_33 ?_
      refine v_iconst (v := nI 1) K dX4_rise_34 (by decide) ?_
      refine v_iaddN K dX4_rise_35 ?_
      refine v_lald K dX4_rise_36 e1 (by omega) (by decide) ?_
      refine cl_X4_28 K dX4_rise_37 (c_X5_mix l D cA base pic _ _) rfl rfl ⟨by decide, by decide⟩ (Nat.le_of_ble_eq_true rfl) ⟨by decide, by decide⟩ (fun x37 pic1 hx2 => ?_)
      obtain ⟨rfl, rfl⟩ := hx2
      refine v_last K dX4_rise_40 e1 (by omega) (by decide) (fun pic5 zg3 zf4 => ?_)
      replace e0 := (zf4 _ (by omega)).trans e0
      replace e1 := zg3
      have FR : ∀ q, ¬ (q = 7 ∨ q = 8) → pic5 q = pic0 q := fun q hq => (zf4 q (by omega)).trans (FR q hq)
      refine v_iincN K 1 dX4_rise_41 rfl (by decide) (by decide) ?_
      refine v_goto K 9 dX4_rise_44 (by decide) ?_
      refine v_at [(0, .ref aT), (1, .int (nI (w / 2))), (2, .int (nI (i + 1)))] (lcons rfl (lcons rfl (lcons rfl (lnil)))) ?_
      exact ih (i + 1) pic5 _ (by omega) (by omega) ⟨e0, e1⟩ (fun j hj => by
        by_cases h : j = i
        · subst h; rw [pk_uLs, hhi (2 * j) (by omega), hhi (2 * j + 1) (by omega)]
        · rw [pk_uLn h]; exact hlo j (by omega)) (fun j hj => by rw [pk_uLn (by omega)]; exact hhi j (by omega)) FR

set_option maxHeartbeats 4000000 in
set_option maxRecDepth 100000 in
theorem c_X4_rise (l : Launch) (D : va_G) (cA : Nat → ClassId) (base : Nat) (pic : PIC) (aT aR w : Nat) (g0 : Nat → Int64) (hT : TreeP pic cA aT aR w g0) (hw : w ≤ 32)  : CV l yX4_rise cX4_rise 3 none { frames := 1, cells := 0, slots := 0, locals := 25 } 0 0 D cA base pic [.ref aT] (fun pic1 => (∃ g, TreeP pic1 cA aT aR ((w + 1) / 2) g ∧ ∀ i, i < (w + 1) / 2 → g i = riseF g0 w i) ∧ ∀ q, ¬ (q = 7 ∨ q = 8) → pic1 q = pic q) := by
  refine ofV (by decide) (Nat.le_of_ble_eq_true rfl) ?_
  intro p e s m below meth c K hr hlk hnm
  have FR : ∀ q, ¬ (q = 7 ∨ q = 8) → pic q = pic q := fun _ _ => rfl
  obtain ⟨e0, e1⟩ := hT
  refine v_aload_n K 0 dX4_rise_0 rfl rfl ?_
  refine gf_X4_21 K dX4_rise_1 e0 rfl ?_
  refine v_iconst (v := nI 2) K dX4_rise_4 (by decide) ?_
  refine v_idivN K dX4_rise_5 (by omega) (by omega) (by omega) ?_
  refine v_istore_n K 1 dX4_rise_6 rfl (by decide) ?_
  refine v_iconst (v := nI 0) K dX4_rise_7 (by decide) ?_
  refine v_istore_n K 2 dX4_rise_8 rfl (by decide) ?_
  refine v_at [(0, .ref aT), (1, .int (nI (w / 2))), (2, .int (nI (0)))] (lcons rfl (lcons rfl (lcons rfl (lnil)))) ?_
  refine l_X4_rise K aT aR w g0 hw pic (fun pic1 g h1 h2 h3 h4 => ?_) (w / 2 - 0 + 1) 0 pic _ (by omega) (by omega) ⟨e0, e1⟩ (fun j hj => absurd hj (by omega)) (fun j hj => rfl) FR
  obtain ⟨e0, e1⟩ := h1
  replace FR := h4
  refine v_aload_n K 0 dX4_rise_47 rfl rfl ?_
  refine gf_X4_21 K dX4_rise_48 e0 rfl ?_
  refine v_iconst (v := nI 2) K dX4_rise_51 (by decide) ?_
  refine v_iremN K dX4_rise_52 (by omega) (by omega) (by omega) ?_
  refine v_iconst (v := nI 1) K dX4_rise_53 (by decide) ?_
  refine v_icmp_ne K 74 dX4_rise_54 (by decide) (nI_toInt (by omega)) (nI_toInt (by omega)) (fun c54 => ?_) (fun c54 => ?_)
  · refine v_aload_n K 0 dX4_rise_74 rfl rfl ?_
    refine v_iload_n K 1 dX4_rise_75 rfl rfl ?_
    refine v_aload_n K 0 dX4_rise_76 rfl rfl ?_
    refine gf_X4_21 K dX4_rise_77 e0 rfl ?_
    refine v_iconst (v := nI 2) K dX4_rise_80 (by decide) ?_
    refine v_iremN K dX4_rise_81 (by omega) (by omega) (by omega) ?_
    refine v_iaddN K dX4_rise_82 ?_
    refine pf_X4_21 K dX4_rise_83 e0 (Nat.le_of_ble_eq_true rfl) (fun pic3 zg1 zf2 => ?_)
    replace e0 := zg1
    replace e1 := (zf2 _ (by omega)).trans e1
    have FR : ∀ q, ¬ (q = 7 ∨ q = 8) → pic3 q = pic q := fun q hq => (zf2 q (by omega)).trans (FR q hq)
    exact v_vret K dX4_rise_86 hr hlk (by decide) (by decide) (⟨⟨_, ⟨by rw [show (w + 1) / 2 = w / 2 + w % 2 from by omega]; exact e0, e1⟩, fun i hi => by
      unfold riseF
      rw [if_pos (by omega)]; exact h2 i (by omega)⟩, FR⟩)
  · refine v_aload_n K 0 dX4_rise_57 rfl rfl ?_
    refine gf_X4_9 K dX4_rise_58 e0 rfl ?_
    refine v_iload_n K 1 dX4_rise_61 rfl rfl ?_
    refine v_aload_n K 0 dX4_rise_62 rfl rfl ?_
    refine gf_X4_9 K dX4_rise_63 e0 rfl ?_
    refine v_aload_n K 0 dX4_rise_66 rfl rfl ?_
    refine gf_X4_21 K dX4_rise_67 e0 rfl ?_
    refine v_iconst (v := nI 1) K dX4_rise_70 (by decide) ?_
    refine v_isubN K dX4_rise_71 (by omega) ?_
    refine v_lald K dX4_rise_72 e1 (by omega) (by decide) ?_
    refine v_last K dX4_rise_73 e1 (by omega) (by decide) (fun pic6 zg4 zf5 => ?_)
    replace e0 := (zf5 _ (by omega)).trans e0
    replace e1 := zg4
    have FR : ∀ q, ¬ (q = 7 ∨ q = 8) → pic6 q = pic q := fun q hq => (zf5 q (by omega)).trans (FR q hq)
    refine v_aload_n K 0 dX4_rise_74 rfl rfl ?_
    refine v_iload_n K 1 dX4_rise_75 rfl rfl ?_
    refine v_aload_n K 0 dX4_rise_76 rfl rfl ?_
    refine gf_X4_21 K dX4_rise_77 e0 rfl ?_
    refine v_iconst (v := nI 2) K dX4_rise_80 (by decide) ?_
    refine v_iremN K dX4_rise_81 (by omega) (by omega) (by omega) ?_
    refine v_iaddN K dX4_rise_82 ?_
    refine pf_X4_21 K dX4_rise_83 e0 (Nat.le_of_ble_eq_true rfl) (fun pic9 zg7 zf8 => ?_)
    replace e0 := zg7
    replace e1 := (zf8 _ (by omega)).trans e1
    have FR : ∀ q, ¬ (q = 7 ∨ q = 8) → pic9 q = pic q := fun q hq => (zf8 q (by omega)).trans (FR q hq)
    exact v_vret K dX4_rise_86 hr hlk (by decide) (by decide) (⟨⟨_, ⟨by rw [show (w + 1) / 2 = w / 2 + w % 2 from by omega]; exact e0, e1⟩, fun i hi => by
      unfold riseF
      by_cases hq : i = w / 2
      · subst hq
        rw [pk_uLs, if_neg (by omega), h3 _ (by omega)]
        exact congrArg g0 (by omega)
      · rw [pk_uLn hq, if_pos (by omega)]; exact h2 i (by omega)⟩, FR⟩)

