abbrev Evs : Type := (Nat → Int32) × (Nat → Int32) × (Nat → Int32) × (Nat → Int32) × (Nat → Int64)
/-- a block's contents: how many events, kept, first serial, root, filter, the events -/
abbrev Bk : Type := Nat × Int32 × Int32 × Int64 × Int64 × Evs
abbrev bN (X : Bk) : Nat := X.1
abbrev bKp (X : Bk) : Int32 := X.2.1
abbrev bFs (X : Bk) : Int32 := X.2.2.1
abbrev bRd (X : Bk) : Int64 := X.2.2.2.1
abbrev bFb (X : Bk) : Int64 := X.2.2.2.2.1
abbrev bE (X : Bk) : Evs := X.2.2.2.2.2
abbrev eA (E : Evs) : Nat → Int32 := E.1
abbrev e1 (E : Evs) : Nat → Int32 := E.2.1
abbrev e2 (E : Evs) : Nat → Int32 := E.2.2.1
abbrev e3 (E : Evs) : Nat → Int32 := E.2.2.2.1
abbrev eV (E : Evs) : Nat → Int64 := E.2.2.2.2
abbrev lfE (E : Evs) : Nat → Int64 := lfB (eA E) (e1 E) (e2 E) (e3 E) (eV E)
def BkP (pic : PIC) (cA : Nat → ClassId) (ad : Nat → Nat) (b : Nat) (X : Bk) : Prop := BlkP pic cA b (ad b) (ad (b + 1)) (ad (b + 2)) (ad (b + 3)) (ad (b + 4)) (ad (b + 5)) (nI (bN X)) (bKp X) (bFs X) (bRd X) (bFb X) (eA (bE X)) (e1 (bE X)) (e2 (bE X)) (e3 (bE X)) (eV (bE X))
def blF (ad : Nat → Nat) (hw : Nat) : Nat → Option Nat := fun j => if j < hw then some (ad (100 + 6 * j)) else none
theorem blF_lt {ad : Nat → Nat} {hw j : Nat} (h : j < hw) : blF ad hw j = some (ad (100 + 6 * j)) := if_pos h
def BlksP (pic : PIC) (cA : Nat → ClassId) (ad : Nat → Nat) (hw : Nat) (B : Nat → Bk) : Prop := pic 6 = some (ad 6, .inl (cA 3, 40, .inr (.inr (.inr (.inr (blF ad hw)))))) ∧ ∀ j, j < hw → BkP pic cA ad (100 + 6 * j) (B j)
theorem BkP.kept {pic pic1 : PIC} {cA : Nat → ClassId} {ad : Nat → Nat} {b : Nat} {X : Bk} (h : BkP pic cA ad b X) (hk : ∀ q, b ≤ q → q < b + 6 → pic1 q = pic q) : BkP pic1 cA ad b X := BlkP.kept h hk
theorem BlksP.kept {pic pic1 : PIC} {cA : Nat → ClassId} {ad : Nat → Nat} {hw : Nat} {B : Nat → Bk} (h : BlksP pic cA ad hw B) (hk : ∀ q, q = 6 ∨ 100 ≤ q ∧ q < 100 + 6 * hw → pic1 q = pic q) : BlksP pic1 cA ad hw B := ⟨(hk 6 (by omega)).trans h.1, fun j hj => (h.2 j hj).kept (fun q h1 h2 => hk q (by omega))⟩
theorem BlksP.upd {pic pic1 : PIC} {cA : Nat → ClassId} {ad : Nat → Nat} {hw : Nat} {B : Nat → Bk} {j : Nat} {X : Bk} (h : BlksP pic cA ad hw B) (hX : BkP pic1 cA ad (100 + 6 * j) X) (hk : ∀ q, ¬ (100 + 6 * j ≤ q ∧ q < 106 + 6 * j) → pic1 q = pic q) : BlksP pic1 cA ad hw (va_up B j X) := by
  refine ⟨(hk 6 (by omega)).trans h.1, fun i hi => ?_⟩
  by_cases hij : i = j
  · subst hij; rw [va_up_self]; exact hX
  · rw [va_up_ne _ _ hij]
    exact (h.2 i hi).kept (fun q h1 h2 => hk q (by omega))
def bx (b : Int32) : Nat := b.toInt.toNat
theorem bx_nI {j : Nat} (h : j < 2 ^ 31) : bx (nI j) = j := by rw [bx, nI_toInt h]; rfl
theorem ixN (x : Int32) (n : Nat) (hn : n < 2 ^ 31) (h0 : 0 ≤ x.toInt) (h1 : x.toInt < n) : ∃ j, j < n ∧ x = nI j := ⟨x.toInt.toNat, by omega, nI_lit (by omega) (by omega)⟩
/-- the first number from f on, below n, that has it; or none -/
def fwR (P : Nat → Prop) (f n : Nat) (x : Int32) : Prop := (∃ j, x = nI j ∧ f ≤ j ∧ j < n ∧ P j ∧ ∀ i, f ≤ i → i < j → ¬ P i) ∨ (x = -5 ∧ ∀ i, f ≤ i → i < n → ¬ P i)
theorem fwR.uniq {P : Nat → Prop} {f n : Nat} {x y : Int32} (h : fwR P f n x) (h2 : fwR P f n y) : x = y := by
  rcases h with ⟨j, rfl, a1, a2, a3, a4⟩ | ⟨rfl, a1⟩ <;> rcases h2 with ⟨i, rfl, b1, b2, b3, b4⟩ | ⟨rfl, b1⟩
  · rcases Nat.lt_trichotomy i j with h | h | h
    · exact absurd b3 (a4 i b1 h)
    · rw [h]
    · exact absurd a3 (b4 j a1 h)
  · exact absurd a3 (b1 j a1 a2)
  · exact absurd b3 (a1 i b1 b2)
  · rfl
noncomputable def fwF (P : Nat → Prop) (f n : Nat) : Int32 := @dite Int32 (∃ x, fwR P f n x) (Classical.propDecidable _) (fun h => Classical.choose h) (fun _ => 0)
theorem fwF_eq {P : Nat → Prop} {f n : Nat} {x : Int32} (h : fwR P f n x) : fwF P f n = x := by
  have hex : ∃ x, fwR P f n x := ⟨x, h⟩
  unfold fwF
  rw [dif_pos hex]
  exact fwR.uniq (Classical.choose_spec hex) h
def hasE (E : Evs) (t : Int32) (i : Nat) : Prop := t.toInt = -1 ∨ hasT (e1 E i) (e2 E i) (e3 E i) t
noncomputable def sizeF (nb : Nat) (B : Nat → Bk) (b w : Int32) : Int32 := cif (¬ ((0 ≤ b.toInt ∧ b.toInt < nb) ∧ 0 ≤ w.toInt ∧ w.toInt ≤ 1)) (-1) (cif (w.toInt = 0) (nI (bN (B (bx b)))) (cif ((bKp (B (bx b))).toInt = 0) (0) (1)))
theorem sizeF_0 {nb : Nat} {B : Nat → Bk} {b w : Int32} (h0 : ¬ ((0 ≤ b.toInt ∧ b.toInt < nb) ∧ 0 ≤ w.toInt ∧ w.toInt ≤ 1)) : sizeF nb B b w = (-1) := by rw [sizeF, cif_pos h0]
theorem sizeF_1 {nb : Nat} {B : Nat → Bk} {b w : Int32} (h0 : ¬ (¬ ((0 ≤ b.toInt ∧ b.toInt < nb) ∧ 0 ≤ w.toInt ∧ w.toInt ≤ 1))) (h1 : w.toInt = 0) : sizeF nb B b w = (nI (bN (B (bx b)))) := by rw [sizeF, cif_neg h0, cif_pos h1]
theorem sizeF_2 {nb : Nat} {B : Nat → Bk} {b w : Int32} (h0 : ¬ (¬ ((0 ≤ b.toInt ∧ b.toInt < nb) ∧ 0 ≤ w.toInt ∧ w.toInt ≤ 1))) (h1 : ¬ (w.toInt = 0)) (h2 : (bKp (B (bx b))).toInt = 0) : sizeF nb B b w = (0) := by rw [sizeF, cif_neg h0, cif_neg h1, cif_pos h2]
theorem sizeF_3 {nb : Nat} {B : Nat → Bk} {b w : Int32} (h0 : ¬ (¬ ((0 ≤ b.toInt ∧ b.toInt < nb) ∧ 0 ≤ w.toInt ∧ w.toInt ≤ 1))) (h1 : ¬ (w.toInt = 0)) (h2 : ¬ ((bKp (B (bx b))).toInt = 0)) : sizeF nb B b w = (1) := by rw [sizeF, cif_neg h0, cif_neg h1, cif_neg h2]
noncomputable def pruneF (nb : Nat) (B : Nat → Bk) (b : Int32) : Int32 × (Nat → Bk) := cif (¬ (0 ≤ b.toInt ∧ b.toInt < nb)) ((-1, B)) (cif ((bKp (B (bx b))).toInt = 0) ((0, va_up B (bx b) (bN (B (bx b)), 0, (B (bx b)).2.2))) ((1, va_up B (bx b) (bN (B (bx b)), 0, (B (bx b)).2.2))))
theorem pruneF_0 {nb : Nat} {B : Nat → Bk} {b : Int32} (h0 : ¬ (0 ≤ b.toInt ∧ b.toInt < nb)) : pruneF nb B b = ((-1, B)) := by rw [pruneF, cif_pos h0]
theorem pruneF_1 {nb : Nat} {B : Nat → Bk} {b : Int32} (h0 : ¬ (¬ (0 ≤ b.toInt ∧ b.toInt < nb))) (h1 : (bKp (B (bx b))).toInt = 0) : pruneF nb B b = ((0, va_up B (bx b) (bN (B (bx b)), 0, (B (bx b)).2.2))) := by rw [pruneF, cif_neg h0, cif_pos h1]
theorem pruneF_2 {nb : Nat} {B : Nat → Bk} {b : Int32} (h0 : ¬ (¬ (0 ≤ b.toInt ∧ b.toInt < nb))) (h1 : ¬ ((bKp (B (bx b))).toInt = 0)) : pruneF nb B b = ((1, va_up B (bx b) (bN (B (bx b)), 0, (B (bx b)).2.2))) := by rw [pruneF, cif_neg h0, cif_neg h1]
noncomputable def eventF (nb : Nat) (B : Nat → Bk) (b i w : Int32) : Int32 := cif (¬ ((0 ≤ b.toInt ∧ b.toInt < nb) ∧ (0 ≤ i.toInt ∧ i.toInt < bN (B (bx b))) ∧ 0 ≤ w.toInt ∧ w.toInt ≤ 5)) (-1) (cif ((bKp (B (bx b))).toInt = 0) (-4) (detF (eA (bE (B (bx b))) (bx i)) (e1 (bE (B (bx b))) (bx i)) (e2 (bE (B (bx b))) (bx i)) (e3 (bE (B (bx b))) (bx i)) (bFs (B (bx b))) (bx i) (bx w)))
theorem eventF_0 {nb : Nat} {B : Nat → Bk} {b i w : Int32} (h0 : ¬ ((0 ≤ b.toInt ∧ b.toInt < nb) ∧ (0 ≤ i.toInt ∧ i.toInt < bN (B (bx b))) ∧ 0 ≤ w.toInt ∧ w.toInt ≤ 5)) : eventF nb B b i w = (-1) := by rw [eventF, cif_pos h0]
theorem eventF_1 {nb : Nat} {B : Nat → Bk} {b i w : Int32} (h0 : ¬ (¬ ((0 ≤ b.toInt ∧ b.toInt < nb) ∧ (0 ≤ i.toInt ∧ i.toInt < bN (B (bx b))) ∧ 0 ≤ w.toInt ∧ w.toInt ≤ 5))) (h1 : (bKp (B (bx b))).toInt = 0) : eventF nb B b i w = (-4) := by rw [eventF, cif_neg h0, cif_pos h1]
theorem eventF_2 {nb : Nat} {B : Nat → Bk} {b i w : Int32} (h0 : ¬ (¬ ((0 ≤ b.toInt ∧ b.toInt < nb) ∧ (0 ≤ i.toInt ∧ i.toInt < bN (B (bx b))) ∧ 0 ≤ w.toInt ∧ w.toInt ≤ 5))) (h1 : ¬ ((bKp (B (bx b))).toInt = 0)) : eventF nb B b i w = (detF (eA (bE (B (bx b))) (bx i)) (e1 (bE (B (bx b))) (bx i)) (e2 (bE (B (bx b))) (bx i)) (e3 (bE (B (bx b))) (bx i)) (bFs (B (bx b))) (bx i) (bx w)) := by rw [eventF, cif_neg h0, cif_neg h1]
noncomputable def mayF (nb : Nat) (B : Nat → Bk) (b t : Int32) : Int32 := cif (¬ ((0 ≤ b.toInt ∧ b.toInt < nb) ∧ isTop t)) (-1) (cif (bFb (B (bx b)) &&& bitF t = bitF t) (1) (0))
theorem mayF_0 {nb : Nat} {B : Nat → Bk} {b t : Int32} (h0 : ¬ ((0 ≤ b.toInt ∧ b.toInt < nb) ∧ isTop t)) : mayF nb B b t = (-1) := by rw [mayF, cif_pos h0]
theorem mayF_1 {nb : Nat} {B : Nat → Bk} {b t : Int32} (h0 : ¬ (¬ ((0 ≤ b.toInt ∧ b.toInt < nb) ∧ isTop t))) (h1 : bFb (B (bx b)) &&& bitF t = bitF t) : mayF nb B b t = (1) := by rw [mayF, cif_neg h0, cif_pos h1]
theorem mayF_2 {nb : Nat} {B : Nat → Bk} {b t : Int32} (h0 : ¬ (¬ ((0 ≤ b.toInt ∧ b.toInt < nb) ∧ isTop t))) (h1 : ¬ (bFb (B (bx b)) &&& bitF t = bitF t)) : mayF nb B b t = (0) := by rw [mayF, cif_neg h0, cif_neg h1]
noncomputable def findF (nb : Nat) (B : Nat → Bk) (b t i : Int32) : Int32 := cif (¬ ((0 ≤ b.toInt ∧ b.toInt < nb) ∧ isTop t ∧ 0 ≤ i.toInt)) (-1) (cif ((bKp (B (bx b))).toInt = 0) (-4) (fwF (hasE (bE (B (bx b))) t) (bx i) (bN (B (bx b)))))
theorem findF_0 {nb : Nat} {B : Nat → Bk} {b t i : Int32} (h0 : ¬ ((0 ≤ b.toInt ∧ b.toInt < nb) ∧ isTop t ∧ 0 ≤ i.toInt)) : findF nb B b t i = (-1) := by rw [findF, cif_pos h0]
theorem findF_1 {nb : Nat} {B : Nat → Bk} {b t i : Int32} (h0 : ¬ (¬ ((0 ≤ b.toInt ∧ b.toInt < nb) ∧ isTop t ∧ 0 ≤ i.toInt))) (h1 : (bKp (B (bx b))).toInt = 0) : findF nb B b t i = (-4) := by rw [findF, cif_neg h0, cif_pos h1]
theorem findF_2 {nb : Nat} {B : Nat → Bk} {b t i : Int32} (h0 : ¬ (¬ ((0 ≤ b.toInt ∧ b.toInt < nb) ∧ isTop t ∧ 0 ≤ i.toInt))) (h1 : ¬ ((bKp (B (bx b))).toInt = 0)) : findF nb B b t i = (fwF (hasE (bE (B (bx b))) t) (bx i) (bN (B (bx b)))) := by rw [findF, cif_neg h0, cif_neg h1]
noncomputable def pathF (nb : Nat) (B : Nat → Bk) (no : Nat) (dg : Nat → Int64) (b i : Int32) : Int32 × Nat × (Nat → Int64) := cif (¬ ((0 ≤ b.toInt ∧ b.toInt < nb) ∧ 0 ≤ i.toInt ∧ i.toInt < bN (B (bx b)))) ((-1, no, dg)) (cif ((bKp (B (bx b))).toInt = 0) ((-4, no, dg)) ((nI (pdF (lfE (bE (B (bx b)))) (bN (B (bx b))) (bx i) dg 5).2, (pdF (lfE (bE (B (bx b)))) (bN (B (bx b))) (bx i) dg 5).2, (pdF (lfE (bE (B (bx b)))) (bN (B (bx b))) (bx i) dg 5).1)))
theorem pathF_0 {nb : Nat} {B : Nat → Bk} {no : Nat} {dg : Nat → Int64} {b i : Int32} (h0 : ¬ ((0 ≤ b.toInt ∧ b.toInt < nb) ∧ 0 ≤ i.toInt ∧ i.toInt < bN (B (bx b)))) : pathF nb B no dg b i = ((-1, no, dg)) := by rw [pathF, cif_pos h0]
theorem pathF_1 {nb : Nat} {B : Nat → Bk} {no : Nat} {dg : Nat → Int64} {b i : Int32} (h0 : ¬ (¬ ((0 ≤ b.toInt ∧ b.toInt < nb) ∧ 0 ≤ i.toInt ∧ i.toInt < bN (B (bx b))))) (h1 : (bKp (B (bx b))).toInt = 0) : pathF nb B no dg b i = ((-4, no, dg)) := by rw [pathF, cif_neg h0, cif_pos h1]
theorem pathF_2 {nb : Nat} {B : Nat → Bk} {no : Nat} {dg : Nat → Int64} {b i : Int32} (h0 : ¬ (¬ ((0 ≤ b.toInt ∧ b.toInt < nb) ∧ 0 ≤ i.toInt ∧ i.toInt < bN (B (bx b))))) (h1 : ¬ ((bKp (B (bx b))).toInt = 0)) : pathF nb B no dg b i = ((nI (pdF (lfE (bE (B (bx b)))) (bN (B (bx b))) (bx i) dg 5).2, (pdF (lfE (bE (B (bx b)))) (bN (B (bx b))) (bx i) dg 5).2, (pdF (lfE (bE (B (bx b)))) (bN (B (bx b))) (bx i) dg 5).1)) := by rw [pathF, cif_neg h0, cif_neg h1]
noncomputable def layF (no : Nat) (dg : Nat → Int64) (v : Int64) : Int32 × Nat × (Nat → Int64) := cif (5 ≤ no) ((-3, no, dg)) ((nI (no + 1), no + 1, vp_updL dg no v))
theorem layF_0 {no : Nat} {dg : Nat → Int64} {v : Int64} (h0 : 5 ≤ no) : layF no dg v = ((-3, no, dg)) := by rw [layF, cif_pos h0]
theorem layF_1 {no : Nat} {dg : Nat → Int64} {v : Int64} (h0 : ¬ (5 ≤ no)) : layF no dg v = ((nI (no + 1), no + 1, vp_updL dg no v)) := by rw [layF, cif_neg h0]
noncomputable def provedF (nb : Nat) (B : Nat → Bk) (no : Nat) (dg : Nat → Int64) (b i ac a b2 c2 : Int32) (v : Int64) : Int32 := cif (¬ ((0 ≤ b.toInt ∧ b.toInt < nb) ∧ (0 ≤ i.toInt ∧ i.toInt < bN (B (bx b))) ∧ evOK ac a b2 c2)) (-1) (cif (ldOK dg no (leafF ac a b2 c2 v i) (bN (B (bx b))) (bx i) (bRd (B (bx b)))) (1) (0))
theorem provedF_0 {nb : Nat} {B : Nat → Bk} {no : Nat} {dg : Nat → Int64} {b i ac a b2 c2 : Int32} {v : Int64} (h0 : ¬ ((0 ≤ b.toInt ∧ b.toInt < nb) ∧ (0 ≤ i.toInt ∧ i.toInt < bN (B (bx b))) ∧ evOK ac a b2 c2)) : provedF nb B no dg b i ac a b2 c2 v = (-1) := by rw [provedF, cif_pos h0]
theorem provedF_1 {nb : Nat} {B : Nat → Bk} {no : Nat} {dg : Nat → Int64} {b i ac a b2 c2 : Int32} {v : Int64} (h0 : ¬ (¬ ((0 ≤ b.toInt ∧ b.toInt < nb) ∧ (0 ≤ i.toInt ∧ i.toInt < bN (B (bx b))) ∧ evOK ac a b2 c2))) (h1 : ldOK dg no (leafF ac a b2 c2 v i) (bN (B (bx b))) (bx i) (bRd (B (bx b)))) : provedF nb B no dg b i ac a b2 c2 v = (1) := by rw [provedF, cif_neg h0, cif_pos h1]
theorem provedF_2 {nb : Nat} {B : Nat → Bk} {no : Nat} {dg : Nat → Int64} {b i ac a b2 c2 : Int32} {v : Int64} (h0 : ¬ (¬ ((0 ≤ b.toInt ∧ b.toInt < nb) ∧ (0 ≤ i.toInt ∧ i.toInt < bN (B (bx b))) ∧ evOK ac a b2 c2))) (h1 : ¬ (ldOK dg no (leafF ac a b2 c2 v i) (bN (B (bx b))) (bx i) (bRd (B (bx b))))) : provedF nb B no dg b i ac a b2 c2 v = (0) := by rw [provedF, cif_neg h0, cif_neg h1]

set_option maxHeartbeats 4000000 in
set_option maxRecDepth 100000 in
theorem c_X5_blockAt (l : Launch) (D : va_G) (cA : Nat → ClassId) (base : Nat) (pic : PIC) (ad : Nat → Nat) (nb ns hw : Nat) (cl : Int32) (B : Nat → Bk) (b : Int32) (hE : EObj pic ad nb ns cl) (hBs : BlksP pic cA ad hw B) (hnb : nb ≤ hw) (hhw : hw ≤ 40) (hBn : ∀ j, j < hw → bN (B j) ≤ 32)  : CQ l yX5_blockAt cX5_blockAt 2 (some (.object "EventRows$Block")) { frames := 0, cells := 0, slots := 0, locals := 0 } 0 0 D cA base pic [.ref (ad 0), .int b] (fun r pic1 => (∃ j, j < nb ∧ b = nI j ∧ r = some (ad (100 + 6 * j)) ∧ pic = pic1) ∨ (r = none ∧ ¬ (0 ≤ b.toInt ∧ b.toInt < nb) ∧ pic = pic1)) := by
  refine ofQ (by decide) (Nat.le_of_ble_eq_true rfl) ?_
  intro p e s m below meth c K hr hlk hnm
  have fE := hE
  unfold EObj at fE
  obtain ⟨f6, hBj⟩ := hBs
  refine v_iload_n K 1 dX5_blockAt_0 rfl rfl ?_
  refine v_if_lt K 21 dX5_blockAt_1 (by decide) rfl (fun c1 => ?_) (fun c1 => ?_)
  · refine v_null K dX5_blockAt_21 ?_
    exact v_aret (v := none) K dX5_blockAt_22 hr hlk (by decide) (by decide) (Or.inr ⟨rfl, by omega, rfl⟩)
  · refine v_iload_n K 1 dX5_blockAt_4 rfl rfl ?_
    refine v_aload_n K 0 dX5_blockAt_5 rfl rfl ?_
    refine gf_X5_90 K dX5_blockAt_6 fE rfl ?_
    refine v_icmp_ge K 21 dX5_blockAt_9 (by decide) rfl (nI_toInt (by omega)) (fun c9 => ?_) (fun c9 => ?_)
    · refine v_null K dX5_blockAt_21 ?_
      exact v_aret (v := none) K dX5_blockAt_22 hr hlk (by decide) (by decide) (Or.inr ⟨rfl, by omega, rfl⟩)
    · obtain ⟨j, hj, rfl⟩ := ixN b nb (by omega) (by omega) (by omega)
      refine v_aload_n K 0 dX5_blockAt_12 rfl rfl ?_
      refine gf_X5_18 K dX5_blockAt_13 fE rfl ?_
      refine v_iload_n K 1 dX5_blockAt_16 rfl rfl ?_
      refine v_aaldB K dX5_blockAt_17 f6 (by omega) (by decide) ?_
      refine v_top (v := va_rf (some (ad (100 + 6 * j)))) (by rw [blF_lt (by omega)]) ?_
      refine v_goto K 22 dX5_blockAt_18 (by decide) ?_
      exact v_aret K dX5_blockAt_22 hr hlk (by decide) (by decide) (Or.inl ⟨j, hj, rfl, rfl, rfl⟩)

set_option maxHeartbeats 4000000 in
set_option maxRecDepth 100000 in
theorem c_X5_size (l : Launch) (D : va_G) (cA : Nat → ClassId) (base : Nat) (pic : PIC) (ad : Nat → Nat) (nb ns hw : Nat) (cl : Int32) (B : Nat → Bk) (b w : Int32) (hE : EObj pic ad nb ns cl) (hBs : BlksP pic cA ad hw B) (hnb : nb ≤ hw) (hhw : hw ≤ 40) (hBn : ∀ j, j < hw → bN (B j) ≤ 32)  : CI l yX5_size cX5_size 4 (some .int) { frames := 1, cells := 0, slots := 0, locals := 21 } 0 0 D cA base pic [.ref (ad 0), .int b, .int w] (fun x9 pic1 => pic = pic1 ∧ x9 = sizeF nb B b w) := by
  refine ofI (by decide) (Nat.le_of_ble_eq_true rfl) ?_
  intro p e s m below meth c K hr hlk hnm
  have fE := hE
  unfold EObj at fE
  obtain ⟨f6, hBj⟩ := hBs
  refine v_aload_n K 0 dX5_size_0 rfl rfl ?_
  refine v_iload_n K 1 dX5_size_1 rfl rfl ?_
  refine cl_X5_114 K dX5_size_2 fE (c_X5_blockAt l D cA base pic ad nb ns hw cl B b fE ⟨f6, hBj⟩ hnb hhw hBn) rfl rfl ⟨by decide, by decide⟩ (Nat.le_of_ble_eq_true rfl) ⟨by decide, by decide⟩ (fun x2 pic1 hx2 => ?_)
  rcases hx2 with ⟨j, hj, rfl, rfl, rfl⟩ | ⟨rfl, hno, rfl⟩
  · refine v_top (v := .ref (ad (100 + 6 * j))) rfl ?_
    obtain ⟨fB, g1, g2, g3, g4, g5⟩ := hBj j (by omega)
    have hn := hBn j (by omega)
    have hbI := nI_toInt (n := j) (by omega)
    have hbx := bx_nI (j := j) (by omega)
    refine v_astore_n K 3 dX5_size_5 rfl (by decide) ?_
    refine v_aload_n K 3 dX5_size_6 rfl rfl ?_
    refine v_ifnull K dX5_size_7 ?_
    refine v_iload_n K 2 dX5_size_10 rfl rfl ?_
    refine v_if_lt K 19 dX5_size_11 (by decide) rfl (fun c11 => ?_) (fun c11 => ?_)
    · refine v_iconst (v := -1) K dX5_size_19 (by decide) ?_
      exact v_iret K dX5_size_20 hr hlk (by decide) (by decide) (by first | exact (⟨rfl, by rw [sizeF_0 (by omega)]⟩) | exact (⟨rfl, by rw [sizeF_1 (by omega) (by omega), hbx]⟩) | exact (⟨rfl, by rw [sizeF_2 (by omega) (by omega) (by rw [hbx]; omega)]; rfl⟩) | exact (⟨rfl, by rw [sizeF_3 (by omega) (by omega) (by rw [hbx]; omega)]; rfl⟩))
    · refine v_iload_n K 2 dX5_size_14 rfl rfl ?_
      refine v_iconst (v := nI 1) K dX5_size_15 (by decide) ?_
      refine v_icmp_le K 21 dX5_size_16 (by decide) rfl (nI_toInt (by omega)) (fun c16 => ?_) (fun c16 => ?_)
      · refine v_iload_n K 2 dX5_size_21 rfl rfl ?_
        refine v_if_ne K 30 dX5_size_22 (by decide) rfl (fun c22 => ?_) (fun c22 => ?_)
        · refine v_aload_n K 3 dX5_size_30 rfl rfl ?_
          refine gf_X5_118 K dX5_size_31 fB rfl ?_
          refine v_if_eq K 41 dX5_size_34 (by decide) rfl (fun c34 => ?_) (fun c34 => ?_)
          · refine v_iconst (v := nI 0) K dX5_size_41 (by decide) ?_
            exact v_iret K dX5_size_42 hr hlk (by decide) (by decide) (by first | exact (⟨rfl, by rw [sizeF_0 (by omega)]⟩) | exact (⟨rfl, by rw [sizeF_1 (by omega) (by omega), hbx]⟩) | exact (⟨rfl, by rw [sizeF_2 (by omega) (by omega) (by rw [hbx]; omega)]; rfl⟩) | exact (⟨rfl, by rw [sizeF_3 (by omega) (by omega) (by rw [hbx]; omega)]; rfl⟩))
          · refine v_iconst (v := nI 1) K dX5_size_37 (by decide) ?_
            refine v_goto K 42 dX5_size_38 (by decide) ?_
            exact v_iret K dX5_size_42 hr hlk (by decide) (by decide) (by first | exact (⟨rfl, by rw [sizeF_0 (by omega)]⟩) | exact (⟨rfl, by rw [sizeF_1 (by omega) (by omega), hbx]⟩) | exact (⟨rfl, by rw [sizeF_2 (by omega) (by omega) (by rw [hbx]; omega)]; rfl⟩) | exact (⟨rfl, by rw [sizeF_3 (by omega) (by omega) (by rw [hbx]; omega)]; rfl⟩))
        · refine v_aload_n K 3 dX5_size_25 rfl rfl ?_
          refine gf_X5_59 K dX5_size_26 fB rfl ?_
          exact v_iret K dX5_size_29 hr hlk (by decide) (by decide) (by first | exact (⟨rfl, by rw [sizeF_0 (by omega)]⟩) | exact (⟨rfl, by rw [sizeF_1 (by omega) (by omega), hbx]⟩) | exact (⟨rfl, by rw [sizeF_2 (by omega) (by omega) (by rw [hbx]; omega)]; rfl⟩) | exact (⟨rfl, by rw [sizeF_3 (by omega) (by omega) (by rw [hbx]; omega)]; rfl⟩))
      · refine v_iconst (v := -1) K dX5_size_19 (by decide) ?_
        exact v_iret K dX5_size_20 hr hlk (by decide) (by decide) (by first | exact (⟨rfl, by rw [sizeF_0 (by omega)]⟩) | exact (⟨rfl, by rw [sizeF_1 (by omega) (by omega), hbx]⟩) | exact (⟨rfl, by rw [sizeF_2 (by omega) (by omega) (by rw [hbx]; omega)]; rfl⟩) | exact (⟨rfl, by rw [sizeF_3 (by omega) (by omega) (by rw [hbx]; omega)]; rfl⟩))
  · refine v_top (v := .null) rfl ?_
    refine v_astoreN_n K 3 dX5_size_5 rfl (by decide) ?_
    refine v_aloadN_n K 3 dX5_size_6 rfl rfl ?_
    refine v_ifnullN K 19 dX5_size_7 (by decide) ?_
    refine v_iconst (v := -1) K dX5_size_19 (by decide) ?_
    exact v_iret K dX5_size_20 hr hlk (by decide) (by decide) (by first | exact (⟨rfl, by rw [sizeF_0 (by omega)]⟩) | exact (⟨rfl, by rw [sizeF_1 (by omega) (by omega), hbx]⟩) | exact (⟨rfl, by rw [sizeF_2 (by omega) (by omega) (by rw [hbx]; omega)]; rfl⟩) | exact (⟨rfl, by rw [sizeF_3 (by omega) (by omega) (by rw [hbx]; omega)]; rfl⟩))

set_option maxHeartbeats 4000000 in
set_option maxRecDepth 100000 in
theorem c_X5_prune (l : Launch) (D : va_G) (cA : Nat → ClassId) (base : Nat) (pic : PIC) (ad : Nat → Nat) (nb ns hw : Nat) (cl : Int32) (B : Nat → Bk) (b : Int32) (hE : EObj pic ad nb ns cl) (hBs : BlksP pic cA ad hw B) (hnb : nb ≤ hw) (hhw : hw ≤ 40) (hBn : ∀ j, j < hw → bN (B j) ≤ 32)  : CI l yX5_prune cX5_prune 4 (some .int) { frames := 1, cells := 0, slots := 0, locals := 21 } 0 0 D cA base pic [.ref (ad 0), .int b] (fun x9 pic1 => x9 = (pruneF nb B b).1 ∧ BlksP pic1 cA ad hw (pruneF nb B b).2 ∧ ∀ q, ¬ (100 ≤ q ∧ q < 340) → pic1 q = pic q) := by
  refine ofI (by decide) (Nat.le_of_ble_eq_true rfl) ?_
  intro p e s m below meth c K hr hlk hnm
  have FR : ∀ q, ¬ (100 ≤ q ∧ q < 340) → pic q = pic q := fun _ _ => rfl
  have fE := hE
  unfold EObj at fE
  have ⟨f6, hBj⟩ := hBs
  refine v_aload_n K 0 dX5_prune_0 rfl rfl ?_
  refine v_iload_n K 1 dX5_prune_1 rfl rfl ?_
  refine cl_X5_114 K dX5_prune_2 fE (c_X5_blockAt l D cA base pic ad nb ns hw cl B b fE ⟨f6, hBj⟩ hnb hhw hBn) rfl rfl ⟨by decide, by decide⟩ (Nat.le_of_ble_eq_true rfl) ⟨by decide, by decide⟩ (fun x2 pic1 hx2 => ?_)
  rcases hx2 with ⟨j, hj, rfl, rfl, rfl⟩ | ⟨rfl, hno, rfl⟩
  · refine v_top (v := .ref (ad (100 + 6 * j))) rfl ?_
    obtain ⟨fB, g1, g2, g3, g4, g5⟩ := hBj j (by omega)
    have hn := hBn j (by omega)
    have hbI := nI_toInt (n := j) (by omega)
    have hbx := bx_nI (j := j) (by omega)
    refine v_astore_n K 2 dX5_prune_5 rfl (by decide) ?_
    refine v_aload_n K 2 dX5_prune_6 rfl rfl ?_
    refine v_ifnonnull K 12 dX5_prune_7 (by decide) ?_
    refine v_aload_n K 2 dX5_prune_12 rfl rfl ?_
    refine gf_X5_118 K dX5_prune_13 fB rfl ?_
    refine v_if_eq K 23 dX5_prune_16 (by decide) rfl (fun c16 => ?_) (fun c16 => ?_)
    · refine v_iconst (v := nI 0) K dX5_prune_23 (by decide) ?_
      refine v_istore_n K 3 dX5_prune_24 rfl (by decide) ?_
      refine v_aload_n K 2 dX5_prune_25 rfl rfl ?_
      refine v_iconst (v := nI 0) K dX5_prune_26 (by decide) ?_
      refine pf_X5_118 K dX5_prune_27 fB (by first | exact isB0 | exact isB1 | assumption) (Nat.le_of_ble_eq_true rfl) (fun pic5 zg3 zf4 => ?_)
      replace fE := (zf4 _ (by omega)).trans fE
      replace f6 := (zf4 _ (by omega)).trans f6
      replace fB := zg3
      replace g1 := (zf4 _ (by omega)).trans g1
      replace g2 := (zf4 _ (by omega)).trans g2
      replace g3 := (zf4 _ (by omega)).trans g3
      replace g4 := (zf4 _ (by omega)).trans g4
      replace g5 := (zf4 _ (by omega)).trans g5
      have FR : ∀ q, ¬ (100 ≤ q ∧ q < 340) → pic5 q = pic q := fun q hq => (zf4 q (by omega)).trans (FR q hq)
      have FRj := zf4
      refine v_iload_n K 3 dX5_prune_30 rfl rfl ?_
      exact v_iret K dX5_prune_31 hr hlk (by decide) (by decide) (by first | exact (by rw [pruneF_0 (by omega)]; exact ⟨rfl, hBs, FR⟩) | exact (by rw [pruneF_1 (by omega) (by rw [hbx]; omega), hbx]; exact ⟨rfl, hBs.upd (X := (bN (B j), 0, (B j).2.2)) ⟨fB, g1, g2, g3, g4, g5⟩ (fun q hq => FRj q (by omega)), FR⟩) | exact (by rw [pruneF_2 (by omega) (by rw [hbx]; omega), hbx]; exact ⟨rfl, hBs.upd (X := (bN (B j), 0, (B j).2.2)) ⟨fB, g1, g2, g3, g4, g5⟩ (fun q hq => FRj q (by omega)), FR⟩))
    · refine v_iconst (v := nI 1) K dX5_prune_19 (by decide) ?_
      refine v_goto K 24 dX5_prune_20 (by decide) ?_
      refine v_istore_n K 3 dX5_prune_24 rfl (by decide) ?_
      refine v_aload_n K 2 dX5_prune_25 rfl rfl ?_
      refine v_iconst (v := nI 0) K dX5_prune_26 (by decide) ?_
      refine pf_X5_118 K dX5_prune_27 fB (by first | exact isB0 | exact isB1 | assumption) (Nat.le_of_ble_eq_true rfl) (fun pic8 zg6 zf7 => ?_)
      replace fE := (zf7 _ (by omega)).trans fE
      replace f6 := (zf7 _ (by omega)).trans f6
      replace fB := zg6
      replace g1 := (zf7 _ (by omega)).trans g1
      replace g2 := (zf7 _ (by omega)).trans g2
      replace g3 := (zf7 _ (by omega)).trans g3
      replace g4 := (zf7 _ (by omega)).trans g4
      replace g5 := (zf7 _ (by omega)).trans g5
      have FR : ∀ q, ¬ (100 ≤ q ∧ q < 340) → pic8 q = pic q := fun q hq => (zf7 q (by omega)).trans (FR q hq)
      have FRj := zf7
      refine v_iload_n K 3 dX5_prune_30 rfl rfl ?_
      exact v_iret K dX5_prune_31 hr hlk (by decide) (by decide) (by first | exact (by rw [pruneF_0 (by omega)]; exact ⟨rfl, hBs, FR⟩) | exact (by rw [pruneF_1 (by omega) (by rw [hbx]; omega), hbx]; exact ⟨rfl, hBs.upd (X := (bN (B j), 0, (B j).2.2)) ⟨fB, g1, g2, g3, g4, g5⟩ (fun q hq => FRj q (by omega)), FR⟩) | exact (by rw [pruneF_2 (by omega) (by rw [hbx]; omega), hbx]; exact ⟨rfl, hBs.upd (X := (bN (B j), 0, (B j).2.2)) ⟨fB, g1, g2, g3, g4, g5⟩ (fun q hq => FRj q (by omega)), FR⟩))
  · refine v_top (v := .null) rfl ?_
    refine v_astoreN_n K 2 dX5_prune_5 rfl (by decide) ?_
    refine v_aloadN_n K 2 dX5_prune_6 rfl rfl ?_
    refine v_ifnonnullN K dX5_prune_7 ?_
    refine v_iconst (v := -1) K dX5_prune_10 (by decide) ?_
    exact v_iret K dX5_prune_11 hr hlk (by decide) (by decide) (by first | exact (by rw [pruneF_0 (by omega)]; exact ⟨rfl, hBs, FR⟩) | exact (by rw [pruneF_1 (by omega) (by rw [hbx]; omega), hbx]; exact ⟨rfl, hBs.upd (X := (bN (B j), 0, (B j).2.2)) ⟨fB, g1, g2, g3, g4, g5⟩ (fun q hq => FRj q (by omega)), FR⟩) | exact (by rw [pruneF_2 (by omega) (by rw [hbx]; omega), hbx]; exact ⟨rfl, hBs.upd (X := (bN (B j), 0, (B j).2.2)) ⟨fB, g1, g2, g3, g4, g5⟩ (fun q hq => FRj q (by omega)), FR⟩))

set_option maxHeartbeats 4000000 in
set_option maxRecDepth 100000 in
theorem c_X5_event (l : Launch) (D : va_G) (cA : Nat → ClassId) (base : Nat) (pic : PIC) (ad : Nat → Nat) (nb ns hw : Nat) (cl : Int32) (B : Nat → Bk) (b i w : Int32) (hE : EObj pic ad nb ns cl) (hBs : BlksP pic cA ad hw B) (hnb : nb ≤ hw) (hhw : hw ≤ 40) (hBn : ∀ j, j < hw → bN (B j) ≤ 32)  : CI l yX5_event cX5_event 5 (some .int) { frames := 2, cells := 0, slots := 0, locals := 43 } 0 0 D cA base pic [.ref (ad 0), .int b, .int i, .int w] (fun x9 pic1 => pic = pic1 ∧ x9 = eventF nb B b i w) := by
  refine ofI (by decide) (Nat.le_of_ble_eq_true rfl) ?_
  intro p e s m below meth c K hr hlk hnm
  have fE := hE
  unfold EObj at fE
  obtain ⟨f6, hBj⟩ := hBs
  refine v_aload_n K 0 dX5_event_0 rfl rfl ?_
  refine v_iload_n K 1 dX5_event_1 rfl rfl ?_
  refine cl_X5_114 K dX5_event_2 fE (c_X5_blockAt l D cA base pic ad nb ns hw cl B b fE ⟨f6, hBj⟩ hnb hhw hBn) rfl rfl ⟨by decide, by decide⟩ (Nat.le_of_ble_eq_true rfl) ⟨by decide, by decide⟩ (fun x2 pic1 hx2 => ?_)
  rcases hx2 with ⟨j, hj, rfl, rfl, rfl⟩ | ⟨rfl, hno, rfl⟩
  · refine v_top (v := .ref (ad (100 + 6 * j))) rfl ?_
    obtain ⟨fB, g1, g2, g3, g4, g5⟩ := hBj j (by omega)
    have hn := hBn j (by omega)
    have hbI := nI_toInt (n := j) (by omega)
    have hbx := bx_nI (j := j) (by omega)
    refine v_astore K dX5_event_5 (by decide) ?_
    refine v_aload K dX5_event_7 rfl ?_
    refine v_ifnull K dX5_event_9 ?_
    refine v_aload K dX5_event_12 rfl ?_
    refine v_iload_n K 2 dX5_event_14 rfl rfl ?_
    refine cl_X5_122 K dX5_event_15 fB (c_X0_hasEvent l D cA base pic (100 + 6 * j) (ad (100 + 6 * j)) _ _ _ _ _ (bN (B j)) _ _ _ _ _ _ _ _ _ i ⟨fB, g1, g2, g3, g4, g5⟩ hn) rfl rfl ⟨by decide, by decide⟩ (Nat.le_of_ble_eq_true rfl) ⟨by decide, by decide⟩ (fun x15 pic3 hx4 => ?_)
    rcases hx4 with ⟨rfl, rfl, hi⟩ | ⟨rfl, rfl, hi⟩
    · refine v_if_eq K 30 dX5_event_18 (by decide) rfl (fun c => absurd c (by decide)) (fun _ => ?_)
      refine v_iload_n K 3 dX5_event_21 rfl rfl ?_
      refine v_if_lt K 30 dX5_event_22 (by decide) rfl (fun c22 => ?_) (fun c22 => ?_)
      · refine v_iconst (v := -1) K dX5_event_30 (by decide) ?_
        exact v_iret K dX5_event_31 hr hlk (by decide) (by decide) (by first | exact (⟨rfl, by rw [eventF_0 (by omega)]⟩) | exact (⟨rfl, by rw [eventF_0 (by rw [hbx]; omega)]⟩) | exact (⟨rfl, by rw [eventF_1 (by rw [hbx]; omega) (by rw [hbx]; omega)]⟩) | exact (⟨rfl, by rw [eventF_2 (by rw [hbx]; omega) (by rw [hbx]; omega), hbx, hix, hwx]⟩))
      · refine v_iload_n K 3 dX5_event_25 rfl rfl ?_
        refine v_iconst (v := nI 5) K dX5_event_26 (by decide) ?_
        refine v_icmp_le K 32 dX5_event_27 (by decide) rfl (nI_toInt (by omega)) (fun c27 => ?_) (fun c27 => ?_)
        · refine v_aload K dX5_event_32 rfl ?_
          refine gf_X5_118 K dX5_event_34 fB rfl ?_
          refine v_if_eq K 50 dX5_event_37 (by decide) rfl (fun c37 => ?_) (fun c37 => ?_)
          · refine v_bipush (v := -4) K dX5_event_50 (by decide) ?_
            exact v_iret K dX5_event_52 hr hlk (by decide) (by decide) (by first | exact (⟨rfl, by rw [eventF_0 (by omega)]⟩) | exact (⟨rfl, by rw [eventF_0 (by rw [hbx]; omega)]⟩) | exact (⟨rfl, by rw [eventF_1 (by rw [hbx]; omega) (by rw [hbx]; omega)]⟩) | exact (⟨rfl, by rw [eventF_2 (by rw [hbx]; omega) (by rw [hbx]; omega), hbx, hix, hwx]⟩))
          · obtain ⟨i1, hi1, rfl⟩ := ixN i (bN (B j)) (by omega) (by omega) (by omega)
            obtain ⟨w1, hw1, rfl⟩ := ixN w 6 (by omega) (by omega) (by omega)
            have hiI := nI_toInt (n := i1) (by omega)
            have hwI := nI_toInt (n := w1) (by omega)
            have hix := bx_nI (j := i1) (by omega)
            have hwx := bx_nI (j := w1) (by omega)
            refine v_aload K dX5_event_40 rfl ?_
            refine v_iload_n K 2 dX5_event_42 rfl rfl ?_
            refine v_iload_n K 3 dX5_event_43 rfl rfl ?_
            refine cl_X5_125 K dX5_event_44 fB (c_X0_detail l D cA base pic (100 + 6 * j) (ad (100 + 6 * j)) _ _ _ _ _ (bN (B j)) _ _ _ _ _ _ _ _ _ i1 w1 ⟨fB, g1, g2, g3, g4, g5⟩ (by omega) (by omega)) rfl rfl ⟨by decide, by decide⟩ (Nat.le_of_ble_eq_true rfl) ⟨by decide, by decide⟩ (fun x44 pic5 hx6 => ?_)
            obtain ⟨rfl, rfl⟩ := hx6
            refine v_goto K 52 dX5_event_47 (by decide) ?_
            exact v_iret K dX5_event_52 hr hlk (by decide) (by decide) (by first | exact (⟨rfl, by rw [eventF_0 (by omega)]⟩) | exact (⟨rfl, by rw [eventF_0 (by rw [hbx]; omega)]⟩) | exact (⟨rfl, by rw [eventF_1 (by rw [hbx]; omega) (by rw [hbx]; omega)]⟩) | exact (⟨rfl, by rw [eventF_2 (by rw [hbx]; omega) (by rw [hbx]; omega), hbx, hix, hwx]⟩))
        · refine v_iconst (v := -1) K dX5_event_30 (by decide) ?_
          exact v_iret K dX5_event_31 hr hlk (by decide) (by decide) (by first | exact (⟨rfl, by rw [eventF_0 (by omega)]⟩) | exact (⟨rfl, by rw [eventF_0 (by rw [hbx]; omega)]⟩) | exact (⟨rfl, by rw [eventF_1 (by rw [hbx]; omega) (by rw [hbx]; omega)]⟩) | exact (⟨rfl, by rw [eventF_2 (by rw [hbx]; omega) (by rw [hbx]; omega), hbx, hix, hwx]⟩))
    · refine v_if_eq K 30 dX5_event_18 (by decide) rfl (fun _ => ?_) (fun c => absurd c (by decide))
      refine v_iconst (v := -1) K dX5_event_30 (by decide) ?_
      exact v_iret K dX5_event_31 hr hlk (by decide) (by decide) (by first | exact (⟨rfl, by rw [eventF_0 (by omega)]⟩) | exact (⟨rfl, by rw [eventF_0 (by rw [hbx]; omega)]⟩) | exact (⟨rfl, by rw [eventF_1 (by rw [hbx]; omega) (by rw [hbx]; omega)]⟩) | exact (⟨rfl, by rw [eventF_2 (by rw [hbx]; omega) (by rw [hbx]; omega), hbx, hix, hwx]⟩))
  · refine v_top (v := .null) rfl ?_
    refine v_astoreN K dX5_event_5 (by decide) ?_
    refine v_aloadN K dX5_event_7 rfl ?_
    refine v_ifnullN K 30 dX5_event_9 (by decide) ?_
    refine v_iconst (v := -1) K dX5_event_30 (by decide) ?_
    exact v_iret K dX5_event_31 hr hlk (by decide) (by decide) (by first | exact (⟨rfl, by rw [eventF_0 (by omega)]⟩) | exact (⟨rfl, by rw [eventF_0 (by rw [hbx]; omega)]⟩) | exact (⟨rfl, by rw [eventF_1 (by rw [hbx]; omega) (by rw [hbx]; omega)]⟩) | exact (⟨rfl, by rw [eventF_2 (by rw [hbx]; omega) (by rw [hbx]; omega), hbx, hix, hwx]⟩))

set_option maxHeartbeats 4000000 in
set_option maxRecDepth 100000 in
theorem c_X5_may (l : Launch) (D : va_G) (cA : Nat → ClassId) (base : Nat) (pic : PIC) (ad : Nat → Nat) (nb ns hw : Nat) (cl : Int32) (B : Nat → Bk) (b t : Int32) (hE : EObj pic ad nb ns cl) (hBs : BlksP pic cA ad hw B) (hnb : nb ≤ hw) (hhw : hw ≤ 40) (hBn : ∀ j, j < hw → bN (B j) ≤ 32)  : CI l yX5_may cX5_may 6 (some .int) { frames := 1, cells := 0, slots := 0, locals := 21 } 0 0 D cA base pic [.ref (ad 0), .int b, .int t] (fun x9 pic1 => pic = pic1 ∧ x9 = mayF nb B b t) := by
  refine ofI (by decide) (Nat.le_of_ble_eq_true rfl) ?_
  intro p e s m below meth c K hr hlk hnm
  have fE := hE
  unfold EObj at fE
  obtain ⟨f6, hBj⟩ := hBs
  refine v_aload_n K 0 dX5_may_0 rfl rfl ?_
  refine v_iload_n K 1 dX5_may_1 rfl rfl ?_
  refine cl_X5_114 K dX5_may_2 fE (c_X5_blockAt l D cA base pic ad nb ns hw cl B b fE ⟨f6, hBj⟩ hnb hhw hBn) rfl rfl ⟨by decide, by decide⟩ (Nat.le_of_ble_eq_true rfl) ⟨by decide, by decide⟩ (fun x2 pic1 hx2 => ?_)
  rcases hx2 with ⟨j, hj, rfl, rfl, rfl⟩ | ⟨rfl, hno, rfl⟩
  · refine v_top (v := .ref (ad (100 + 6 * j))) rfl ?_
    obtain ⟨fB, g1, g2, g3, g4, g5⟩ := hBj j (by omega)
    have hn := hBn j (by omega)
    have hbI := nI_toInt (n := j) (by omega)
    have hbx := bx_nI (j := j) (by omega)
    refine v_astore_n K 3 dX5_may_5 rfl (by decide) ?_
    refine v_aload_n K 3 dX5_may_6 rfl rfl ?_
    refine v_ifnull K dX5_may_7 ?_
    refine v_iload_n K 2 dX5_may_10 rfl rfl ?_
    refine cl_X5_154 K dX5_may_11 (c_X5_isTopic l D cA base pic t) rfl rfl ⟨by decide, by decide⟩ (Nat.le_of_ble_eq_true rfl) ⟨by decide, by decide⟩ (fun x11 pic3 hx4 => ?_)
    rcases hx4 with ⟨rfl, rfl, hpt⟩ | ⟨rfl, rfl, hqt⟩
    · refine v_if_ne K 19 dX5_may_14 (by decide) rfl (fun _ => ?_) (fun c => absurd c (by decide))
      refine v_iload_n K 2 dX5_may_19 rfl rfl ?_
      refine cl_X5_157 K dX5_may_20 (c_X5_bitsOf l D cA base pic t) rfl rfl ⟨by decide, by decide⟩ (Nat.le_of_ble_eq_true rfl) ⟨by decide, by decide⟩ (fun x20 pic5 hx6 => ?_)
      obtain ⟨rfl, rfl⟩ := hx6
      refine v_lstore K dX5_may_23 (by decide) ?_
      refine v_aload_n K 3 dX5_may_25 rfl rfl ?_
      refine gf_X5_151 K dX5_may_26 fB rfl ?_
      refine v_lload K dX5_may_29 rfl ?_
      refine v_land K dX5_may_31 ?_
      refine v_lload K dX5_may_32 rfl ?_
      refine v_lcmp K dX5_may_34 ?_
      refine v_if_ne K 42 dX5_may_35 (by decide) rfl (fun c35 => ?_) (fun c35 => ?_)
      · refine v_iconst (v := nI 0) K dX5_may_42 (by decide) ?_
        exact v_iret K dX5_may_43 hr hlk (by decide) (by decide) (by first | exact (⟨rfl, by rw [mayF_0 (fun h => hno h.1)]⟩) | exact (⟨rfl, by rw [mayF_0 (fun h => hqt h.2)]⟩) | exact (⟨rfl, by rw [mayF_1 (fun h => h ⟨by omega, hpt⟩) (by rw [hbx]; exact lgc0.mp c35)]; rfl⟩) | exact (⟨rfl, by rw [mayF_2 (fun h => h ⟨by omega, hpt⟩) (by rw [hbx]; exact fun h => c35 (lgc0.mpr h))]; rfl⟩))
      · refine v_iconst (v := nI 1) K dX5_may_38 (by decide) ?_
        refine v_goto K 43 dX5_may_39 (by decide) ?_
        exact v_iret K dX5_may_43 hr hlk (by decide) (by decide) (by first | exact (⟨rfl, by rw [mayF_0 (fun h => hno h.1)]⟩) | exact (⟨rfl, by rw [mayF_0 (fun h => hqt h.2)]⟩) | exact (⟨rfl, by rw [mayF_1 (fun h => h ⟨by omega, hpt⟩) (by rw [hbx]; exact lgc0.mp c35)]; rfl⟩) | exact (⟨rfl, by rw [mayF_2 (fun h => h ⟨by omega, hpt⟩) (by rw [hbx]; exact fun h => c35 (lgc0.mpr h))]; rfl⟩))
    · refine v_if_ne K 19 dX5_may_14 (by decide) rfl (fun c => absurd c (by decide)) (fun _ => ?_)
      refine v_iconst (v := -1) K dX5_may_17 (by decide) ?_
      exact v_iret K dX5_may_18 hr hlk (by decide) (by decide) (by first | exact (⟨rfl, by rw [mayF_0 (fun h => hno h.1)]⟩) | exact (⟨rfl, by rw [mayF_0 (fun h => hqt h.2)]⟩) | exact (⟨rfl, by rw [mayF_1 (fun h => h ⟨by omega, hpt⟩) (by rw [hbx]; exact lgc0.mp c35)]; rfl⟩) | exact (⟨rfl, by rw [mayF_2 (fun h => h ⟨by omega, hpt⟩) (by rw [hbx]; exact fun h => c35 (lgc0.mpr h))]; rfl⟩))
  · refine v_top (v := .null) rfl ?_
    refine v_astoreN_n K 3 dX5_may_5 rfl (by decide) ?_
    refine v_aloadN_n K 3 dX5_may_6 rfl rfl ?_
    refine v_ifnullN K 17 dX5_may_7 (by decide) ?_
    refine v_iconst (v := -1) K dX5_may_17 (by decide) ?_
    exact v_iret K dX5_may_18 hr hlk (by decide) (by decide) (by first | exact (⟨rfl, by rw [mayF_0 (fun h => hno h.1)]⟩) | exact (⟨rfl, by rw [mayF_0 (fun h => hqt h.2)]⟩) | exact (⟨rfl, by rw [mayF_1 (fun h => h ⟨by omega, hpt⟩) (by rw [hbx]; exact lgc0.mp c35)]; rfl⟩) | exact (⟨rfl, by rw [mayF_2 (fun h => h ⟨by omega, hpt⟩) (by rw [hbx]; exact fun h => c35 (lgc0.mpr h))]; rfl⟩))

theorem ixN31 (x : Int32) (h0 : 0 ≤ x.toInt) : ∃ j, j < 2 ^ 31 ∧ x = nI j := by
  have h1 := Int32.toInt_lt x
  exact ⟨x.toInt.toNat, by omega, nI_lit (by omega) (by omega)⟩
set_option maxHeartbeats 4000000 in
set_option maxRecDepth 100000 in
theorem c_X5_find (l : Launch) (D : va_G) (cA : Nat → ClassId) (base : Nat) (pic : PIC) (ad : Nat → Nat) (nb ns hw : Nat) (cl : Int32) (B : Nat → Bk) (b t i : Int32) (hE : EObj pic ad nb ns cl) (hBs : BlksP pic cA ad hw B) (hnb : nb ≤ hw) (hhw : hw ≤ 40) (hBn : ∀ j, j < hw → bN (B j) ≤ 32)  : CI l yX5_find cX5_find 5 (some .int) { frames := 2, cells := 0, slots := 0, locals := 45 } 0 0 D cA base pic [.ref (ad 0), .int b, .int t, .int i] (fun x9 pic1 => pic = pic1 ∧ x9 = findF nb B b t i) := by
  refine ofI (by decide) (Nat.le_of_ble_eq_true rfl) ?_
  intro p e s m below meth c K hr hlk hnm
  have fE := hE
  unfold EObj at fE
  obtain ⟨f6, hBj⟩ := hBs
  refine v_aload_n K 0 dX5_find_0 rfl rfl ?_
  refine v_iload_n K 1 dX5_find_1 rfl rfl ?_
  refine cl_X5_114 K dX5_find_2 fE (c_X5_blockAt l D cA base pic ad nb ns hw cl B b fE ⟨f6, hBj⟩ hnb hhw hBn) rfl rfl ⟨by decide, by decide⟩ (Nat.le_of_ble_eq_true rfl) ⟨by decide, by decide⟩ (fun x2 pic1 hx2 => ?_)
  rcases hx2 with ⟨j, hj, rfl, rfl, rfl⟩ | ⟨rfl, hno, rfl⟩
  · refine v_top (v := .ref (ad (100 + 6 * j))) rfl ?_
    obtain ⟨fB, g1, g2, g3, g4, g5⟩ := hBj j (by omega)
    have hn := hBn j (by omega)
    have hbI := nI_toInt (n := j) (by omega)
    have hbx := bx_nI (j := j) (by omega)
    refine v_astore K dX5_find_5 (by decide) ?_
    refine v_aload K dX5_find_7 rfl ?_
    refine v_ifnull K dX5_find_9 ?_
    refine v_iload_n K 2 dX5_find_12 rfl rfl ?_
    refine cl_X5_154 K dX5_find_13 (c_X5_isTopic l D cA base pic t) rfl rfl ⟨by decide, by decide⟩ (Nat.le_of_ble_eq_true rfl) ⟨by decide, by decide⟩ (fun x13 pic3 hx4 => ?_)
    rcases hx4 with ⟨rfl, rfl, hpt⟩ | ⟨rfl, rfl, hqt⟩
    · refine v_if_eq K 23 dX5_find_16 (by decide) rfl (fun c => absurd c (by decide)) (fun _ => ?_)
      refine v_iload_n K 3 dX5_find_19 rfl rfl ?_
      refine v_if_ge K 25 dX5_find_20 (by decide) rfl (fun c20 => ?_) (fun c20 => ?_)
      · refine v_aload K dX5_find_25 rfl ?_
        refine gf_X5_118 K dX5_find_27 fB rfl ?_
        refine v_if_eq K 43 dX5_find_30 (by decide) rfl (fun c30 => ?_) (fun c30 => ?_)
        · refine v_bipush (v := -4) K dX5_find_43 (by decide) ?_
          exact v_iret K dX5_find_45 hr hlk (by decide) (by decide) (by first | exact (⟨rfl, by rw [findF_0 (fun h => hno h.1)]⟩) | exact (⟨rfl, by rw [findF_0 (fun h => hqt h.2.1)]⟩) | exact (⟨rfl, by rw [findF_0 (fun h => absurd h.2.2 (by omega))]⟩) | exact (⟨rfl, by rw [findF_1 (fun h => h ⟨by omega, hpt, by omega⟩) (by rw [hbx]; omega)]⟩) | exact (⟨rfl, by rw [findF_2 (fun h => h ⟨by omega, hpt, by omega⟩) (by rw [hbx]; omega), hbx, hix, fwF_eq hfw]⟩))
        · obtain ⟨i1, hi31, rfl⟩ := ixN31 i (by omega)
          have hix := bx_nI (j := i1) hi31
          refine v_aload K dX5_find_33 rfl ?_
          refine v_iload_n K 2 dX5_find_35 rfl rfl ?_
          refine v_iload_n K 3 dX5_find_36 rfl rfl ?_
          refine cl_X5_161 K dX5_find_37 fB (c_X0_firstWith l D cA base pic (100 + 6 * j) (ad (100 + 6 * j)) _ _ _ _ _ (bN (B j)) _ _ _ _ _ _ _ _ _ t i1 ⟨fB, g1, g2, g3, g4, g5⟩ hi31 hn) rfl rfl ⟨by decide, by decide⟩ (Nat.le_of_ble_eq_true rfl) ⟨by decide, by decide⟩ (fun x37 pic5 hx6 => ?_)
          rcases hx6 with ⟨rfl, hfw⟩ | ⟨rfl, hfw⟩
          · have hfw : fwR (hasE (bE (B j)) t) i1 (bN (B j)) x37 := Or.inl hfw
            refine v_goto K 45 dX5_find_40 (by decide) ?_
            exact v_iret K dX5_find_45 hr hlk (by decide) (by decide) (by first | exact (⟨rfl, by rw [findF_0 (fun h => hno h.1)]⟩) | exact (⟨rfl, by rw [findF_0 (fun h => hqt h.2.1)]⟩) | exact (⟨rfl, by rw [findF_0 (fun h => absurd h.2.2 (by omega))]⟩) | exact (⟨rfl, by rw [findF_1 (fun h => h ⟨by omega, hpt, by omega⟩) (by rw [hbx]; omega)]⟩) | exact (⟨rfl, by rw [findF_2 (fun h => h ⟨by omega, hpt, by omega⟩) (by rw [hbx]; omega), hbx, hix, fwF_eq hfw]⟩))
          · have hfw : fwR (hasE (bE (B j)) t) i1 (bN (B j)) x37 := Or.inr hfw
            refine v_goto K 45 dX5_find_40 (by decide) ?_
            exact v_iret K dX5_find_45 hr hlk (by decide) (by decide) (by first | exact (⟨rfl, by rw [findF_0 (fun h => hno h.1)]⟩) | exact (⟨rfl, by rw [findF_0 (fun h => hqt h.2.1)]⟩) | exact (⟨rfl, by rw [findF_0 (fun h => absurd h.2.2 (by omega))]⟩) | exact (⟨rfl, by rw [findF_1 (fun h => h ⟨by omega, hpt, by omega⟩) (by rw [hbx]; omega)]⟩) | exact (⟨rfl, by rw [findF_2 (fun h => h ⟨by omega, hpt, by omega⟩) (by rw [hbx]; omega), hbx, hix, fwF_eq hfw]⟩))
      · refine v_iconst (v := -1) K dX5_find_23 (by decide) ?_
        exact v_iret K dX5_find_24 hr hlk (by decide) (by decide) (by first | exact (⟨rfl, by rw [findF_0 (fun h => hno h.1)]⟩) | exact (⟨rfl, by rw [findF_0 (fun h => hqt h.2.1)]⟩) | exact (⟨rfl, by rw [findF_0 (fun h => absurd h.2.2 (by omega))]⟩) | exact (⟨rfl, by rw [findF_1 (fun h => h ⟨by omega, hpt, by omega⟩) (by rw [hbx]; omega)]⟩) | exact (⟨rfl, by rw [findF_2 (fun h => h ⟨by omega, hpt, by omega⟩) (by rw [hbx]; omega), hbx, hix, fwF_eq hfw]⟩))
    · refine v_if_eq K 23 dX5_find_16 (by decide) rfl (fun _ => ?_) (fun c => absurd c (by decide))
      refine v_iconst (v := -1) K dX5_find_23 (by decide) ?_
      exact v_iret K dX5_find_24 hr hlk (by decide) (by decide) (by first | exact (⟨rfl, by rw [findF_0 (fun h => hno h.1)]⟩) | exact (⟨rfl, by rw [findF_0 (fun h => hqt h.2.1)]⟩) | exact (⟨rfl, by rw [findF_0 (fun h => absurd h.2.2 (by omega))]⟩) | exact (⟨rfl, by rw [findF_1 (fun h => h ⟨by omega, hpt, by omega⟩) (by rw [hbx]; omega)]⟩) | exact (⟨rfl, by rw [findF_2 (fun h => h ⟨by omega, hpt, by omega⟩) (by rw [hbx]; omega), hbx, hix, fwF_eq hfw]⟩))
  · refine v_top (v := .null) rfl ?_
    refine v_astoreN K dX5_find_5 (by decide) ?_
    refine v_aloadN K dX5_find_7 rfl ?_
    refine v_ifnullN K 23 dX5_find_9 (by decide) ?_
    refine v_iconst (v := -1) K dX5_find_23 (by decide) ?_
    exact v_iret K dX5_find_24 hr hlk (by decide) (by decide) (by first | exact (⟨rfl, by rw [findF_0 (fun h => hno h.1)]⟩) | exact (⟨rfl, by rw [findF_0 (fun h => hqt h.2.1)]⟩) | exact (⟨rfl, by rw [findF_0 (fun h => absurd h.2.2 (by omega))]⟩) | exact (⟨rfl, by rw [findF_1 (fun h => h ⟨by omega, hpt, by omega⟩) (by rw [hbx]; omega)]⟩) | exact (⟨rfl, by rw [findF_2 (fun h => h ⟨by omega, hpt, by omega⟩) (by rw [hbx]; omega), hbx, hix, fwF_eq hfw]⟩))

