
abbrev PIC : Type := Nat → Option (Nat × va_E)
abbrev LV : Type := Nat → Option Value
/-- the array kinds: int, long, boolean, Block, Subscriber -/
def tysA (cA : Nat → ClassId) : List (ClassId × FieldType) := [(cA 0, .int), (cA 1, .long), (cA 2, .boolean), (cA 3, .object RX0), (cA 4, .object RX3)]
/-- the heap holds the picture: a role, its address and what lies there; roles have addresses of their own, all from base on -/
def WO (D : va_G) (base : Nat) (pic : PIC) (H : Heap) : Prop := base ≤ H.size ∧ (∀ r a e, pic r = some (a, e) → va_at D vwCl (a, e) H ∧ base ≤ a) ∧ ∀ r r' a e e', pic r = some (a, e) → pic r' = some (a, e') → r = r'
def nestW : List Cond := [.methodLinkNest RX5 9 yX1_init "EventRows", .methodLinkNest RX5 24 yX4_init "EventRows", .methodLinkNest RX5 31 yX2_init "EventRows", .methodLinkNest RX5 42 yX0_init "EventRows", .methodLinkNest RX0 65 yX5_leafOf "EventRows", .methodLinkNest RX4 28 yX5_mix "EventRows", .methodLinkNest RX0 50 yX5_bitsOf "EventRows", .methodLinkNest RX0 53 yX5_topicCount "EventRows", .methodLinkNest RX2 19 yX5_mix "EventRows"]
def isNest : Cond → Bool
  | .methodLinkNest _ _ _ _ => true
  | _ => false
theorem nestW_all : nestW.all isNest = true := by decide +kernel
/-- what the tables say, in every state of the run -/
def KK (D : va_G) (cA : Nat → ClassId) (U : State) : Prop := va_K D vwCl (tysA cA) U ∧ va_AO RX0 U ∧ va_AO RX3 U ∧ ∀ w ∈ nestW, va_Nw w U
theorem KK.moved {D : va_G} {cA : Nat → ClassId} {s U : State} (hW : s.WarmedH U.vm) (h : KK D cA s) : KK D cA U := by
  refine ⟨va_K.moved hW.alike h.1, va_AO.moved hW.alike h.2.1, va_AO.moved hW.alike h.2.2.1, fun w hw => ?_⟩
  have h1 := List.all_eq_true.mp nestW_all w hw
  have h2 := h.2.2.2 w hw
  cases w <;> first | exact va_Nw.warmM hW h2 | (exact absurd h1 (by simp [isNest]))
theorem KK.calling {D : va_G} {cA : Nat → ClassId} {U : State} (g : JFrame) (mk : MethodId) (a : Array Value) (h : KK D cA U) : KK D cA (U.calling g mk a) := by
  refine ⟨va_K.moved (u := U) (U := U.calling g mk a) (Vm.Alike.refl U.vm) h.1, va_AO.moved (u := U) (U := U.calling g mk a) (Vm.Alike.refl U.vm) h.2.1, va_AO.moved (u := U) (U := U.calling g mk a) (Vm.Alike.refl U.vm) h.2.2.1, fun w hw => ?_⟩
  have h1 := List.all_eq_true.mp nestW_all w hw
  have h2 := h.2.2.2 w hw
  cases w <;> first | exact va_Nw.same (u := U) (U := U.calling g mk a) rfl rfl h2 | (exact absurd h1 (by simp [isNest]))
theorem beq_f {a b : Nat} (h : ¬ a = b) : Nat.beq a b = false := by
  cases hb : Nat.beq a b with
  | false => rfl
  | true => exact absurd (Nat.eq_of_beq_eq_true hb) h
theorem beq_t {a b : Nat} (h : a = b) : Nat.beq a b = true := by subst h; exact Nat.beq_refl a
/-- the locals: what is known of them -/
def LH (ls : Array Slot) (nL : Nat) (lv : LV) : Prop := ls.size = nL ∧ lv_wf ls ∧ ∀ i v, lv i = some v → ls[i]? = some (.val v)
def lvK (nL : Nat) (lv : LV) : List (Nat × Value) := (List.range nL).filterMap (fun i => (lv i).map (fun v => (i, v)))
theorem LH.has {ls : Array Slot} {nL : Nat} {lv : LV} (h : LH ls nL lv) : lv_has ls nL (lvK nL lv) := by
  refine ⟨h.1, h.2.1, fun q hq => ?_⟩
  obtain ⟨i, -, hi⟩ := List.mem_filterMap.mp hq
  cases hv : lv i with
  | none => rw [hv] at hi; cases hi
  | some v =>
    rw [hv] at hi
    cases hi
    exact h.2.2 i v hv
theorem LH.mem {ls : Array Slot} {nL : Nat} {lv : LV} (h : LH ls nL lv) {i : Nat} {v : Value} (hv : lv i = some v) : (i, v) ∈ lvK nL lv := by
  have h1 := h.2.2 i v hv
  have h2 : i < ls.size := (Array.getElem?_eq_some_iff.mp h1).1
  exact List.mem_filterMap.mpr ⟨i, List.mem_range.mpr (by rw [← h.1]; exact h2), by rw [hv]; rfl⟩
def lset1 (lv : LV) (i : Nat) (v : Value) : LV := fun j => cond (Nat.beq j i) (some v) (cond (Nat.beq (j + 1) i) (match lv j with | some w => cond (Nat.beq w.category 2) none (some w) | none => none) (lv j))
def lset2 (lv : LV) (i : Nat) (v : Value) : LV := fun j => cond (Nat.beq j i) (some v) (cond (Nat.beq j (i + 1)) none (cond (Nat.beq (j + 1) i) (match lv j with | some w => cond (Nat.beq w.category 2) none (some w) | none => none) (lv j)))
theorem LH.set1 {ls ls' : Array Slot} {nL : Nat} {lv : LV} (h : LH ls nL lv) {i : Nat} {v : Value} (h' : lv_has ls' nL ((i, v) :: (lvK nL lv).filter (fun q => !(q.1 == i) && !(q.1 + 1 == i && q.2.category == 2)))) : LH ls' nL (lset1 lv i v) := by
  refine ⟨h'.1, h'.2.1, fun j w hw => ?_⟩
  unfold lset1 at hw
  by_cases hj : j = i
  · subst hj
    rw [Nat.beq_refl] at hw
    cases hw
    exact h'.2.2 (j, v) List.mem_cons_self
  · rw [show Nat.beq j i = false from beq_f hj] at hw
    have key : ∀ w0, lv j = some w0 → (j + 1 = i → ¬ w0.category = 2) → ls'[j]? = some (.val w0) := by
      intro w0 h0 h1
      refine h'.2.2 (j, w0) (List.mem_cons_of_mem _ (List.mem_filter.mpr ⟨h.mem h0, ?_⟩))
      simp only [Bool.and_eq_true, Bool.not_eq_true', beq_eq_false_iff_ne, Bool.and_eq_false_iff, ne_eq]
      refine ⟨hj, ?_⟩
      by_cases h2 : j + 1 = i
      · exact Or.inr (h1 h2)
      · exact Or.inl h2
    by_cases h2 : j + 1 = i
    · rw [show Nat.beq (j + 1) i = true from beq_t h2] at hw
      cases h0 : lv j with
      | none => rw [h0] at hw; cases hw
      | some w0 =>
        rw [h0] at hw
        by_cases h3 : w0.category = 2
        · simp only [show Nat.beq w0.category 2 = true from beq_t h3, cond_true, cond_false] at hw; cases hw
        · have h4 : Nat.beq w0.category 2 = false := beq_f h3
          simp only [h4, cond_true, cond_false] at hw
          cases hw
          exact key _ h0 (fun _ => h3)
    · rw [show Nat.beq (j + 1) i = false from beq_f h2] at hw
      exact key w hw (fun q => absurd q h2)
theorem LH.set2 {ls ls' : Array Slot} {nL : Nat} {lv : LV} (h : LH ls nL lv) {i : Nat} {v : Value} (h' : lv_has ls' nL ((i, v) :: (lvK nL lv).filter (fun q => !(q.1 == i) && (!(q.1 == i + 1) && !(q.1 + 1 == i && q.2.category == 2))))) : LH ls' nL (lset2 lv i v) := by
  refine ⟨h'.1, h'.2.1, fun j w hw => ?_⟩
  unfold lset2 at hw
  by_cases hj : j = i
  · subst hj
    rw [Nat.beq_refl] at hw
    cases hw
    exact h'.2.2 (j, v) List.mem_cons_self
  · rw [show Nat.beq j i = false from beq_f hj] at hw
    by_cases hj1 : j = i + 1
    · rw [show Nat.beq j (i + 1) = true from beq_t hj1] at hw; cases hw
    · rw [show Nat.beq j (i + 1) = false from beq_f hj1] at hw
      have key : ∀ w0, lv j = some w0 → (j + 1 = i → ¬ w0.category = 2) → ls'[j]? = some (.val w0) := by
        intro w0 h0 h1
        refine h'.2.2 (j, w0) (List.mem_cons_of_mem _ (List.mem_filter.mpr ⟨h.mem h0, ?_⟩))
        simp only [Bool.and_eq_true, Bool.not_eq_true', beq_eq_false_iff_ne, Bool.and_eq_false_iff, ne_eq]
        refine ⟨hj, hj1, ?_⟩
        by_cases h2 : j + 1 = i
        · exact Or.inr (h1 h2)
        · exact Or.inl h2
      by_cases h2 : j + 1 = i
      · rw [show Nat.beq (j + 1) i = true from beq_t h2] at hw
        cases h0 : lv j with
        | none => rw [h0] at hw; cases hw
        | some w0 =>
          rw [h0] at hw
          by_cases h3 : w0.category = 2
          · simp only [show Nat.beq w0.category 2 = true from beq_t h3, cond_true, cond_false] at hw; cases hw
          · have h4 : Nat.beq w0.category 2 = false := beq_f h3
            simp only [h4, cond_true, cond_false] at hw
            cases hw
            exact key _ h0 (fun _ => h3)
      · rw [show Nat.beq (j + 1) i = false from beq_f h2] at hw
        exact key w hw (fun q => absurd q h2)
def lvOf : List (Nat × Value) → LV
  | [] => fun _ => none
  | q :: t => fun i => cond (Nat.beq q.1 i) (some q.2) (lvOf t i)
theorem lvOf_mem : ∀ (t : List (Nat × Value)) (i : Nat) (v : Value), lvOf t i = some v → (i, v) ∈ t
  | [], i, v, h => by cases h
  | q :: t, i, v, h => by
    unfold lvOf at h
    by_cases hq : q.1 = i
    · subst hq
      rw [Nat.beq_refl] at h
      cases h
      exact List.mem_cons_self
    · rw [show Nat.beq q.1 i = false from beq_f hq] at h
      exact List.mem_cons_of_mem _ (lvOf_mem t i v h)
theorem LH.of {ls : Array Slot} {nL : Nat} {t : List (Nat × Value)} (h : lv_has ls nL t) : LH ls nL (lvOf t) := ⟨h.1, h.2.1, fun i v hv => h.2.2 (i, v) (lvOf_mem t i v hv)⟩
theorem LH.sub {ls : Array Slot} {nL : Nat} {lv lv' : LV} (h : LH ls nL lv) (hs : ∀ i v, lv' i = some v → lv i = some v) : LH ls nL lv' := ⟨h.1, h.2.1, fun i v hv => h.2.2 i v (hs i v hv)⟩
/-- the judgement: from every heap that holds the picture and every frame with these locals, the machine comes to a state with Q -/
def V (p : Program) (l : Launch) (e : Env) (R : Room) (s : State) (m : MethodId) (args : Array Value) (below : List Frame) (meth : Method) (c : Code) (Q : State → Prop) (D : va_G) (base nL : Nat) (pic : PIC) (lv : LV) (pc : Nat) (st : List Value) (cells slots : Nat) : Prop :=
  ∀ (H : Heap) (locs : List Loc) (ls : Array Slot), WO D base pic H → va_S (fun q => base ≤ q) s.heap H locs → LH ls nL lv → W p l e R s m args below meth c H locs cells slots Q (F0 m pc ls st)
abbrev KX (p : Program) (m : MethodId) (c : Code) (cc : ByteArray) (nL : Nat) (s : State) (args : Array Value) (cw : Cond) (own : String) (D : va_G) (cA : Nat → ClassId) : Prop := CallFix p m c cc nL s args (cw :: G) own ∧ KK D cA s
section RR
variable {p : Program} {l : Launch} {e : Env} {R : Room} {s : State} {m : MethodId} {args : Array Value} {below : List Frame} {meth : Method} {c : Code} {Q : State → Prop} {D : va_G} {cA : Nat → ClassId} {base nL : Nat} {pic : PIC} {lv : LV} {pc : Nat} {st : List Value} {cells slots : Nat} {cc : ByteArray} {cw : Cond} {own : String}
theorem KX.word (K : KX p m c cc nL s args cw own D cA) {w : Cond} (h : w ∈ G) : w.before args s = true := K.1.2.2.2.2 w (List.mem_cons_of_mem _ h)
theorem WO.one {H : Heap} (h : WO D base pic H) {r a : Nat} {e : va_E} (he : pic r = some (a, e)) : va_P D vwCl [(a, e)] H := by
  intro k q hk
  match k, hk with
  | 0, hk => cases hk; exact (h.2.1 r a e he).1
/-- one role's cell has changed -/
theorem WO.put {H H1 : Heap} (h : WO D base pic H) {r a : Nat} {e0 e1 : va_E} (he : pic r = some (a, e0)) (hn : va_at D vwCl (a, e1) H1) (z : H1.size = H.size) (oq : ∀ q : Nat, q ≠ a → H1[q]? = H[q]?) : WO D base (va_up pic r (some (a, e1))) H1 := by
  refine ⟨by rw [z]; exact h.1, fun q b e' hq => ?_, fun q q' b e' e2 hq hq' => ?_⟩
  · by_cases hr : q = r
    · subst hr
      rw [va_up_self] at hq
      cases hq
      exact ⟨hn, (h.2.1 q a e0 he).2⟩
    · rw [va_up_ne _ _ hr] at hq
      have hb : b ≠ a := fun hba => hr (h.2.2 q r b e' e0 hq (by rw [hba]; exact he))
      exact ⟨(h.2.1 q b e' hq).1.kept (oq b hb), (h.2.1 q b e' hq).2⟩
  · have f : ∀ z b e', va_up pic r (some (a, e1)) z = some (b, e') → ∃ e3, pic z = some (b, e3) := by
      intro z b e' hz
      by_cases hr : z = r
      · subst hr
        rw [va_up_self] at hz
        cases hz
        exact ⟨e0, he⟩
      · rw [va_up_ne _ _ hr] at hz
        exact ⟨e', hz⟩
    obtain ⟨e3, h3⟩ := f q b e' hq
    obtain ⟨e4, h4⟩ := f q' b e2 hq'
    exact h.2.2 q q' b e3 e4 h3 h4
/-- a new cell, for a role that had none -/
theorem WO.new {H H1 : Heap} (h : WO D base pic H) (r : Nat) {e1 : va_E} (hr0 : pic r = none) (hn : va_at D vwCl (H.size, e1) H1) (z : H1.size = H.size + 1) (oq : ∀ q : Nat, q < H.size → H1[q]? = H[q]?) : WO D base (va_up pic r (some (H.size, e1))) H1 := by
  refine ⟨by rw [z]; exact Nat.le_succ_of_le h.1, fun q b e' hq => ?_, fun q q' b e' e2 hq hq' => ?_⟩
  · by_cases hr : q = r
    · subst hr
      rw [va_up_self] at hq
      cases hq
      exact ⟨hn, h.1⟩
    · rw [va_up_ne _ _ hr] at hq
      have h1 := h.2.1 q b e' hq
      exact ⟨h1.1.kept (oq b h1.1.lt), h1.2⟩
  · by_cases hr : q = r
    · by_cases hr' : q' = r
      · rw [hr, hr']
      · rw [hr, va_up_self] at hq
        rw [va_up_ne _ _ hr'] at hq'
        cases hq
        exact absurd (h.2.1 q' H.size e2 hq').1.lt (Nat.lt_irrefl _)
    · rw [va_up_ne _ _ hr] at hq
      by_cases hr' : q' = r
      · rw [hr', va_up_self] at hq'
        cases hq'
        exact absurd (h.2.1 q H.size e' hq).1.lt (Nat.lt_irrefl _)
      · rw [va_up_ne _ _ hr'] at hq'
        exact h.2.2 q q' b e' e2 hq hq'
theorem V.locals {lv' : LV} (hs : ∀ i v, lv' i = some v → lv i = some v) (k : V p l e R s m args below meth c Q D base nL pic lv' pc st cells slots) : V p l e R s m args below meth c Q D base nL pic lv pc st cells slots := fun H locs ls hP hS hl => k H locs ls hP hS (hl.sub hs)
theorem V.widen {k n : Nat} (h1 : cells ≤ k) (h2 : slots ≤ n) (kk : V p l e R s m args below meth c Q D base nL pic lv pc st k n) : V p l e R s m args below meth c Q D base nL pic lv pc st cells slots := fun H locs ls hP hS hl => W.widen h1 h2 (kk H locs ls hP hS hl)

theorem v_iconst (K : KX p m c cc nL s args cw own D cA) {n : Int} {v : Int32} (d : decode cc pc = .ok (.iconst n, 1)) (hv : Int32.ofInt n = v) (k : V p l e R s m args below meth c Q D base nL pic lv (pc + 1) (.int v :: st) cells slots) : V p l e R s m args below meth c Q D base nL pic lv (pc) (st) cells slots := fun H locs ls hP hS hl => lv_iconst K.1.1 K.1.2.1 d hv (k H locs ls hP hS hl)
theorem v_bipush (K : KX p m c cc nL s args cw own D cA) {n : Int} {v : Int32} (d : decode cc pc = .ok (.bipush n, 2)) (hv : (Int8.ofInt n).toInt32 = v) (k : V p l e R s m args below meth c Q D base nL pic lv (pc + 2) (.int v :: st) cells slots) : V p l e R s m args below meth c Q D base nL pic lv (pc) (st) cells slots := fun H locs ls hP hS hl => lv_bipush K.1.1 K.1.2.1 d hv (k H locs ls hP hS hl)
theorem v_sipush (K : KX p m c cc nL s args cw own D cA) {n : Int} {v : Int32} (d : decode cc pc = .ok (.sipush n, 3)) (hv : (Int16.ofInt n).toInt32 = v) (k : V p l e R s m args below meth c Q D base nL pic lv (pc + 3) (.int v :: st) cells slots) : V p l e R s m args below meth c Q D base nL pic lv (pc) (st) cells slots := fun H locs ls hP hS hl => lv_sipush K.1.1 K.1.2.1 d hv (k H locs ls hP hS hl)
theorem v_lconst (K : KX p m c cc nL s args cw own D cA) {n : Fin 2} {v : Int64} (d : decode cc pc = .ok (.lconst n, 1)) (hv : Int64.ofNat (n : Nat) = v) (k : V p l e R s m args below meth c Q D base nL pic lv (pc + 1) (.long v :: st) cells slots) : V p l e R s m args below meth c Q D base nL pic lv (pc) (st) cells slots := fun H locs ls hP hS hl => lv_lconst K.1.1 K.1.2.1 d hv (k H locs ls hP hS hl)
theorem v_null (K : KX p m c cc nL s args cw own D cA)  (d : decode cc pc = .ok (.aconst_null, 1)) (k : V p l e R s m args below meth c Q D base nL pic lv (pc + 1) (.null :: st) cells slots) : V p l e R s m args below meth c Q D base nL pic lv (pc) (st) cells slots := fun H locs ls hP hS hl => lv_null K.1.1 K.1.2.1 d (k H locs ls hP hS hl)
theorem v_ldc2 (K : KX p m c cc nL s args cw own D cA) {index : Nat} {v : Int64} (hw : Cond.constantLong own index v ∈ G) (d : decode cc pc = .ok (.ldc2_w index, 3)) (k : V p l e R s m args below meth c Q D base nL pic lv (pc + 3) (.long v :: st) cells slots) : V p l e R s m args below meth c Q D base nL pic lv (pc) (st) cells slots := fun H locs ls hP hS hl => lv_ldc2 K.1.1 K.1.2.1 K.1.2.2.2.1 (K.word hw) d (k H locs ls hP hS hl)
theorem v_iload_n (K : KX p m c cc nL s args cw own D cA) {j : Fin 4} {x : Int32} (i : Nat) (d : decode cc pc = .ok (.iload_n j, 1)) (hi : (j : Nat) = i) (h : lv i = some (.int x)) (k : V p l e R s m args below meth c Q D base nL pic lv (pc + 1) (.int x :: st) cells slots) : V p l e R s m args below meth c Q D base nL pic lv (pc) (st) cells slots := fun H locs ls hP hS hl => lv_iload_n K.1.1 K.1.2.1 d hi (hl.2.2 i _ h) (k H locs ls hP hS hl)
theorem v_iload (K : KX p m c cc nL s args cw own D cA) {i : Nat} {x : Int32} (d : decode cc pc = .ok (.iload i, 2)) (h : lv i = some (.int x)) (k : V p l e R s m args below meth c Q D base nL pic lv (pc + 2) (.int x :: st) cells slots) : V p l e R s m args below meth c Q D base nL pic lv (pc) (st) cells slots := fun H locs ls hP hS hl => lv_iload K.1.1 K.1.2.1 d (hl.2.2 i _ h) (k H locs ls hP hS hl)
theorem v_lload_n (K : KX p m c cc nL s args cw own D cA) {j : Fin 4} {x : Int64} (i : Nat) (d : decode cc pc = .ok (.lload_n j, 1)) (hi : (j : Nat) = i) (h : lv i = some (.long x)) (k : V p l e R s m args below meth c Q D base nL pic lv (pc + 1) (.long x :: st) cells slots) : V p l e R s m args below meth c Q D base nL pic lv (pc) (st) cells slots := fun H locs ls hP hS hl => lv_lload_n K.1.1 K.1.2.1 d hi (hl.2.2 i _ h) (k H locs ls hP hS hl)
theorem v_lload (K : KX p m c cc nL s args cw own D cA) {i : Nat} {x : Int64} (d : decode cc pc = .ok (.lload i, 2)) (h : lv i = some (.long x)) (k : V p l e R s m args below meth c Q D base nL pic lv (pc + 2) (.long x :: st) cells slots) : V p l e R s m args below meth c Q D base nL pic lv (pc) (st) cells slots := fun H locs ls hP hS hl => lv_lload K.1.1 K.1.2.1 d (hl.2.2 i _ h) (k H locs ls hP hS hl)
theorem v_aload_n (K : KX p m c cc nL s args cw own D cA) {j : Fin 4} {x : Nat} (i : Nat) (d : decode cc pc = .ok (.aload_n j, 1)) (hi : (j : Nat) = i) (h : lv i = some (.ref x)) (k : V p l e R s m args below meth c Q D base nL pic lv (pc + 1) (.ref x :: st) cells slots) : V p l e R s m args below meth c Q D base nL pic lv (pc) (st) cells slots := fun H locs ls hP hS hl => lv_aload_n K.1.1 K.1.2.1 d hi (hl.2.2 i _ h) (k H locs ls hP hS hl)
theorem v_aload (K : KX p m c cc nL s args cw own D cA) {i : Nat} {x : Nat} (d : decode cc pc = .ok (.aload i, 2)) (h : lv i = some (.ref x)) (k : V p l e R s m args below meth c Q D base nL pic lv (pc + 2) (.ref x :: st) cells slots) : V p l e R s m args below meth c Q D base nL pic lv (pc) (st) cells slots := fun H locs ls hP hS hl => lv_aload K.1.1 K.1.2.1 d (hl.2.2 i _ h) (k H locs ls hP hS hl)
theorem v_aloadN_n (K : KX p m c cc nL s args cw own D cA) {j : Fin 4} (i : Nat) (d : decode cc pc = .ok (.aload_n j, 1)) (hi : (j : Nat) = i) (h : lv i = some .null) (k : V p l e R s m args below meth c Q D base nL pic lv (pc + 1) (.null :: st) cells slots) : V p l e R s m args below meth c Q D base nL pic lv (pc) (st) cells slots := fun H locs ls hP hS hl => lv_aload_nN K.1.1 K.1.2.1 d hi (hl.2.2 i _ h) (k H locs ls hP hS hl)
theorem v_aloadN (K : KX p m c cc nL s args cw own D cA) {i : Nat} (d : decode cc pc = .ok (.aload i, 2)) (h : lv i = some .null) (k : V p l e R s m args below meth c Q D base nL pic lv (pc + 2) (.null :: st) cells slots) : V p l e R s m args below meth c Q D base nL pic lv (pc) (st) cells slots := fun H locs ls hP hS hl => lv_aloadN K.1.1 K.1.2.1 d (hl.2.2 i _ h) (k H locs ls hP hS hl)
theorem v_istore_n (K : KX p m c cc nL s args cw own D cA) {j : Fin 4} {x : Int32} (i : Nat) (d : decode cc pc = .ok (.istore_n j, 1)) (hi : (j : Nat) = i) (hn : i < nL) (k : V p l e R s m args below meth c Q D base nL pic (lset1 lv i (.int x)) (pc + 1) (st) cells slots) : V p l e R s m args below meth c Q D base nL pic lv (pc) (.int x :: st) cells slots := fun H locs ls hP hS hl => lv_istore_n K.1.1 K.1.2.1 d hi hl.has hn rfl (fun ls2 h2 => k H locs ls2 hP hS (hl.set1 h2))
theorem v_istore (K : KX p m c cc nL s args cw own D cA) {i : Nat} {x : Int32} (d : decode cc pc = .ok (.istore i, 2)) (hn : i < nL) (k : V p l e R s m args below meth c Q D base nL pic (lset1 lv i (.int x)) (pc + 2) (st) cells slots) : V p l e R s m args below meth c Q D base nL pic lv (pc) (.int x :: st) cells slots := fun H locs ls hP hS hl => lv_istore K.1.1 K.1.2.1 d hl.has hn rfl (fun ls2 h2 => k H locs ls2 hP hS (hl.set1 h2))
theorem v_lstore_n (K : KX p m c cc nL s args cw own D cA) {j : Fin 4} {x : Int64} (i : Nat) (d : decode cc pc = .ok (.lstore_n j, 1)) (hi : (j : Nat) = i) (hn : i + 1 < nL) (k : V p l e R s m args below meth c Q D base nL pic (lset2 lv i (.long x)) (pc + 1) (st) cells slots) : V p l e R s m args below meth c Q D base nL pic lv (pc) (.long x :: st) cells slots := fun H locs ls hP hS hl => lv_lstore_n K.1.1 K.1.2.1 d hi hl.has hn rfl (fun ls2 h2 => k H locs ls2 hP hS (hl.set2 h2))
theorem v_lstore (K : KX p m c cc nL s args cw own D cA) {i : Nat} {x : Int64} (d : decode cc pc = .ok (.lstore i, 2)) (hn : i + 1 < nL) (k : V p l e R s m args below meth c Q D base nL pic (lset2 lv i (.long x)) (pc + 2) (st) cells slots) : V p l e R s m args below meth c Q D base nL pic lv (pc) (.long x :: st) cells slots := fun H locs ls hP hS hl => lv_lstore K.1.1 K.1.2.1 d hl.has hn rfl (fun ls2 h2 => k H locs ls2 hP hS (hl.set2 h2))
theorem v_astore_n (K : KX p m c cc nL s args cw own D cA) {j : Fin 4} {x : Nat} (i : Nat) (d : decode cc pc = .ok (.astore_n j, 1)) (hi : (j : Nat) = i) (hn : i < nL) (k : V p l e R s m args below meth c Q D base nL pic (lset1 lv i (.ref x)) (pc + 1) (st) cells slots) : V p l e R s m args below meth c Q D base nL pic lv (pc) (.ref x :: st) cells slots := fun H locs ls hP hS hl => lv_astore_n K.1.1 K.1.2.1 d hi hl.has hn rfl (fun ls2 h2 => k H locs ls2 hP hS (hl.set1 h2))
theorem v_astore (K : KX p m c cc nL s args cw own D cA) {i : Nat} {x : Nat} (d : decode cc pc = .ok (.astore i, 2)) (hn : i < nL) (k : V p l e R s m args below meth c Q D base nL pic (lset1 lv i (.ref x)) (pc + 2) (st) cells slots) : V p l e R s m args below meth c Q D base nL pic lv (pc) (.ref x :: st) cells slots := fun H locs ls hP hS hl => lv_astore K.1.1 K.1.2.1 d hl.has hn rfl (fun ls2 h2 => k H locs ls2 hP hS (hl.set1 h2))
theorem v_astoreN_n (K : KX p m c cc nL s args cw own D cA) {j : Fin 4} (i : Nat) (d : decode cc pc = .ok (.astore_n j, 1)) (hi : (j : Nat) = i) (hn : i < nL) (k : V p l e R s m args below meth c Q D base nL pic (lset1 lv i .null) (pc + 1) (st) cells slots) : V p l e R s m args below meth c Q D base nL pic lv (pc) (.null :: st) cells slots := fun H locs ls hP hS hl => lv_astore_nN K.1.1 K.1.2.1 d hi hl.has hn rfl (fun ls2 h2 => k H locs ls2 hP hS (hl.set1 h2))
theorem v_astoreN (K : KX p m c cc nL s args cw own D cA) {i : Nat} (d : decode cc pc = .ok (.astore i, 2)) (hn : i < nL) (k : V p l e R s m args below meth c Q D base nL pic (lset1 lv i .null) (pc + 2) (st) cells slots) : V p l e R s m args below meth c Q D base nL pic lv (pc) (.null :: st) cells slots := fun H locs ls hP hS hl => lv_astoreN K.1.1 K.1.2.1 d hl.has hn rfl (fun ls2 h2 => k H locs ls2 hP hS (hl.set1 h2))
theorem v_iinc (K : KX p m c cc nL s args cw own D cA) {i : Nat} {n : Int} {x : Int32} (v : Int32) (d : decode cc pc = .ok (.iinc i n, 3)) (h : lv i = some (.int x)) (hv : x + Int32.ofInt n = v) (hn : i < nL) (k : V p l e R s m args below meth c Q D base nL pic (lset1 lv i (.int v)) (pc + 3) (st) cells slots) : V p l e R s m args below meth c Q D base nL pic lv (pc) (st) cells slots := by
  intro H locs ls hP hS hl
  obtain ⟨j, hj⟩ := List.getElem?_of_mem (hl.mem h)
  exact lv_iinc K.1.1 K.1.2.1 d hl.has hj hv hn rfl (fun ls2 h2 => k H locs ls2 hP hS (hl.set1 h2))
theorem v_iincN (K : KX p m c cc nL s args cw own D cA) {i a : Nat} {n : Int} (b : Nat) (d : decode cc pc = .ok (.iinc i n, 3)) (h : lv i = some (.int (nI a))) (hv : Int32.ofInt n = nI b) (hn : i < nL) (k : V p l e R s m args below meth c Q D base nL pic (lset1 lv i (.int (nI (a + b)))) (pc + 3) (st) cells slots) : V p l e R s m args below meth c Q D base nL pic lv (pc) (st) cells slots := v_iinc K (nI (a + b)) d h (by rw [hv, nI_add]) hn k
theorem v_iincM (K : KX p m c cc nL s args cw own D cA) {i a : Nat} (d : decode cc pc = .ok (.iinc i (-1), 3)) (h : lv i = some (.int (nI a))) (ha : 0 < a) (hn : i < nL) (k : V p l e R s m args below meth c Q D base nL pic (lset1 lv i (.int (nI (a - 1)))) (pc + 3) (st) cells slots) : V p l e R s m args below meth c Q D base nL pic lv (pc) (st) cells slots := v_iinc K (nI (a - 1)) d h (by rw [show Int32.ofInt (-1) = -1 from by decide]; exact sb_m1 ha) hn k
theorem v_iadd (K : KX p m c cc nL s args cw own D cA) {x y : Int32} (d : decode cc pc = .ok (.iadd, 1)) (k : V p l e R s m args below meth c Q D base nL pic lv (pc + 1) (.int (x + y) :: st) cells slots) : V p l e R s m args below meth c Q D base nL pic lv (pc) (.int y :: .int x :: st) cells slots := fun H locs ls hP hS hl => lv_iadd K.1.1 K.1.2.1 d (k H locs ls hP hS hl)
theorem v_isub (K : KX p m c cc nL s args cw own D cA) {x y : Int32} (d : decode cc pc = .ok (.isub, 1)) (k : V p l e R s m args below meth c Q D base nL pic lv (pc + 1) (.int (x - y) :: st) cells slots) : V p l e R s m args below meth c Q D base nL pic lv (pc) (.int y :: .int x :: st) cells slots := fun H locs ls hP hS hl => lv_isub K.1.1 K.1.2.1 d (k H locs ls hP hS hl)
theorem v_imul (K : KX p m c cc nL s args cw own D cA) {x y : Int32} (d : decode cc pc = .ok (.imul, 1)) (k : V p l e R s m args below meth c Q D base nL pic lv (pc + 1) (.int (x * y) :: st) cells slots) : V p l e R s m args below meth c Q D base nL pic lv (pc) (.int y :: .int x :: st) cells slots := fun H locs ls hP hS hl => lv_imul K.1.1 K.1.2.1 d (k H locs ls hP hS hl)
theorem v_iand (K : KX p m c cc nL s args cw own D cA) {x y : Int32} (d : decode cc pc = .ok (.iand, 1)) (k : V p l e R s m args below meth c Q D base nL pic lv (pc + 1) (.int (x &&& y) :: st) cells slots) : V p l e R s m args below meth c Q D base nL pic lv (pc) (.int y :: .int x :: st) cells slots := fun H locs ls hP hS hl => lv_iand K.1.1 K.1.2.1 d (k H locs ls hP hS hl)
theorem v_ior (K : KX p m c cc nL s args cw own D cA) {x y : Int32} (d : decode cc pc = .ok (.ior, 1)) (k : V p l e R s m args below meth c Q D base nL pic lv (pc + 1) (.int (x ||| y) :: st) cells slots) : V p l e R s m args below meth c Q D base nL pic lv (pc) (.int y :: .int x :: st) cells slots := fun H locs ls hP hS hl => lv_ior K.1.1 K.1.2.1 d (k H locs ls hP hS hl)
theorem v_ixor (K : KX p m c cc nL s args cw own D cA) {x y : Int32} (d : decode cc pc = .ok (.ixor, 1)) (k : V p l e R s m args below meth c Q D base nL pic lv (pc + 1) (.int (x ^^^ y) :: st) cells slots) : V p l e R s m args below meth c Q D base nL pic lv (pc) (.int y :: .int x :: st) cells slots := fun H locs ls hP hS hl => lv_ixor K.1.1 K.1.2.1 d (k H locs ls hP hS hl)
theorem v_ladd (K : KX p m c cc nL s args cw own D cA) {x y : Int64} (d : decode cc pc = .ok (.ladd, 1)) (k : V p l e R s m args below meth c Q D base nL pic lv (pc + 1) (.long (x + y) :: st) cells slots) : V p l e R s m args below meth c Q D base nL pic lv (pc) (.long y :: .long x :: st) cells slots := fun H locs ls hP hS hl => lv_ladd K.1.1 K.1.2.1 d (k H locs ls hP hS hl)
theorem v_lsub (K : KX p m c cc nL s args cw own D cA) {x y : Int64} (d : decode cc pc = .ok (.lsub, 1)) (k : V p l e R s m args below meth c Q D base nL pic lv (pc + 1) (.long (x - y) :: st) cells slots) : V p l e R s m args below meth c Q D base nL pic lv (pc) (.long y :: .long x :: st) cells slots := fun H locs ls hP hS hl => lv_lsub K.1.1 K.1.2.1 d (k H locs ls hP hS hl)
theorem v_lmul (K : KX p m c cc nL s args cw own D cA) {x y : Int64} (d : decode cc pc = .ok (.lmul, 1)) (k : V p l e R s m args below meth c Q D base nL pic lv (pc + 1) (.long (x * y) :: st) cells slots) : V p l e R s m args below meth c Q D base nL pic lv (pc) (.long y :: .long x :: st) cells slots := fun H locs ls hP hS hl => lv_lmul K.1.1 K.1.2.1 d (k H locs ls hP hS hl)
theorem v_land (K : KX p m c cc nL s args cw own D cA) {x y : Int64} (d : decode cc pc = .ok (.land, 1)) (k : V p l e R s m args below meth c Q D base nL pic lv (pc + 1) (.long (x &&& y) :: st) cells slots) : V p l e R s m args below meth c Q D base nL pic lv (pc) (.long y :: .long x :: st) cells slots := fun H locs ls hP hS hl => lv_land K.1.1 K.1.2.1 d (k H locs ls hP hS hl)
theorem v_lor (K : KX p m c cc nL s args cw own D cA) {x y : Int64} (d : decode cc pc = .ok (.lor, 1)) (k : V p l e R s m args below meth c Q D base nL pic lv (pc + 1) (.long (x ||| y) :: st) cells slots) : V p l e R s m args below meth c Q D base nL pic lv (pc) (.long y :: .long x :: st) cells slots := fun H locs ls hP hS hl => lv_lor K.1.1 K.1.2.1 d (k H locs ls hP hS hl)
theorem v_lxor (K : KX p m c cc nL s args cw own D cA) {x y : Int64} (d : decode cc pc = .ok (.lxor, 1)) (k : V p l e R s m args below meth c Q D base nL pic lv (pc + 1) (.long (x ^^^ y) :: st) cells slots) : V p l e R s m args below meth c Q D base nL pic lv (pc) (.long y :: .long x :: st) cells slots := fun H locs ls hP hS hl => lv_lxor K.1.1 K.1.2.1 d (k H locs ls hP hS hl)
theorem v_iaddN (K : KX p m c cc nL s args cw own D cA) {a b : Nat} (d : decode cc pc = .ok (.iadd, 1)) (k : V p l e R s m args below meth c Q D base nL pic lv (pc + 1) (.int (nI (a + b)) :: st) cells slots) : V p l e R s m args below meth c Q D base nL pic lv (pc) (.int (nI b) :: .int (nI a) :: st) cells slots := fun H locs ls hP hS hl => lv_iadd K.1.1 K.1.2.1 d (by rw [nI_add]; exact k H locs ls hP hS hl)
theorem v_isubN (K : KX p m c cc nL s args cw own D cA) {a b : Nat} (d : decode cc pc = .ok (.isub, 1)) (h : b ≤ a) (k : V p l e R s m args below meth c Q D base nL pic lv (pc + 1) (.int (nI (a - b)) :: st) cells slots) : V p l e R s m args below meth c Q D base nL pic lv (pc) (.int (nI b) :: .int (nI a) :: st) cells slots := fun H locs ls hP hS hl => lv_isub K.1.1 K.1.2.1 d (by rw [pk_sub h]; exact k H locs ls hP hS hl)
theorem v_imulN (K : KX p m c cc nL s args cw own D cA) {a b : Nat} (d : decode cc pc = .ok (.imul, 1)) (k : V p l e R s m args below meth c Q D base nL pic lv (pc + 1) (.int (nI (a * b)) :: st) cells slots) : V p l e R s m args below meth c Q D base nL pic lv (pc) (.int (nI b) :: .int (nI a) :: st) cells slots := fun H locs ls hP hS hl => lv_imul K.1.1 K.1.2.1 d (by rw [pk_mul]; exact k H locs ls hP hS hl)
theorem v_idivN (K : KX p m c cc nL s args cw own D cA) {a b : Nat} (d : decode cc pc = .ok (.idiv, 1)) (ha : a < 2 ^ 31) (h0 : 0 < b) (hb : b < 2 ^ 31) (k : V p l e R s m args below meth c Q D base nL pic lv (pc + 1) (.int (nI (a / b)) :: st) cells slots) : V p l e R s m args below meth c Q D base nL pic lv (pc) (.int (nI b) :: .int (nI a) :: st) cells slots := fun H locs ls hP hS hl => lv_idiv K.1.1 K.1.2.1 d (nI_ne0 h0 hb) (by rw [pk_div ha h0 hb]; exact k H locs ls hP hS hl)
theorem v_iremN (K : KX p m c cc nL s args cw own D cA) {a b : Nat} (d : decode cc pc = .ok (.irem, 1)) (ha : a < 2 ^ 31) (h0 : 0 < b) (hb : b < 2 ^ 31) (k : V p l e R s m args below meth c Q D base nL pic lv (pc + 1) (.int (nI (a % b)) :: st) cells slots) : V p l e R s m args below meth c Q D base nL pic lv (pc) (.int (nI b) :: .int (nI a) :: st) cells slots := fun H locs ls hP hS hl => lv_irem K.1.1 K.1.2.1 d (nI_ne0 h0 hb) (by rw [pk_rem ha h0 hb]; exact k H locs ls hP hS hl)
theorem v_irem (K : KX p m c cc nL s args cw own D cA) {x y : Int32} (d : decode cc pc = .ok (.irem, 1)) (h0 : ¬ y = 0) (k : V p l e R s m args below meth c Q D base nL pic lv (pc + 1) (.int (x - x / y * y) :: st) cells slots) : V p l e R s m args below meth c Q D base nL pic lv (pc) (.int y :: .int x :: st) cells slots := fun H locs ls hP hS hl => lv_irem K.1.1 K.1.2.1 d h0 (k H locs ls hP hS hl)
theorem v_idiv (K : KX p m c cc nL s args cw own D cA) {x y : Int32} (d : decode cc pc = .ok (.idiv, 1)) (h0 : ¬ y = 0) (k : V p l e R s m args below meth c Q D base nL pic lv (pc + 1) (.int (x / y) :: st) cells slots) : V p l e R s m args below meth c Q D base nL pic lv (pc) (.int y :: .int x :: st) cells slots := fun H locs ls hP hS hl => lv_idiv K.1.1 K.1.2.1 d h0 (k H locs ls hP hS hl)
theorem v_i2l (K : KX p m c cc nL s args cw own D cA) {x : Int32} (d : decode cc pc = .ok (.i2l, 1)) (k : V p l e R s m args below meth c Q D base nL pic lv (pc + 1) (.long x.toInt64 :: st) cells slots) : V p l e R s m args below meth c Q D base nL pic lv (pc) (.int x :: st) cells slots := fun H locs ls hP hS hl => lv_i2l K.1.1 K.1.2.1 d rfl (k H locs ls hP hS hl)
theorem v_lshl (K : KX p m c cc nL s args cw own D cA) {x : Int64} {y : Int32} (d : decode cc pc = .ok (.lshl, 1)) (k : V p l e R s m args below meth c Q D base nL pic lv (pc + 1) (.long (x <<< (y.toInt64 &&& 63)) :: st) cells slots) : V p l e R s m args below meth c Q D base nL pic lv (pc) (.int y :: .long x :: st) cells slots := fun H locs ls hP hS hl => lv_lshl K.1.1 K.1.2.1 d rfl (k H locs ls hP hS hl)
theorem v_lushr (K : KX p m c cc nL s args cw own D cA) {x : Int64} {y : Int32} (d : decode cc pc = .ok (.lushr, 1)) (k : V p l e R s m args below meth c Q D base nL pic lv (pc + 1) (.long (x.toUInt64 >>> (y.toInt64.toUInt64 &&& Int64.toUInt64 63)).toInt64 :: st) cells slots) : V p l e R s m args below meth c Q D base nL pic lv (pc) (.int y :: .long x :: st) cells slots := fun H locs ls hP hS hl => lv_lushr K.1.1 K.1.2.1 d rfl (k H locs ls hP hS hl)
theorem v_lcmp (K : KX p m c cc nL s args cw own D cA) {x y : Int64} (d : decode cc pc = .ok (.lcmp, 1)) (k : V p l e R s m args below meth c Q D base nL pic lv (pc + 1) (.int (lg_cmp x y) :: st) cells slots) : V p l e R s m args below meth c Q D base nL pic lv (pc) (.long y :: .long x :: st) cells slots := fun H locs ls hP hS hl => W.lcmp K.1.1 K.1.2.1 d (k H locs ls hP hS hl)
theorem v_top {w v : Value} (h : w = v) (k : V p l e R s m args below meth c Q D base nL pic lv (pc) (v :: st) cells slots) : V p l e R s m args below meth c Q D base nL pic lv (pc) (w :: st) cells slots := h ▸ k
theorem v_top2 {w v u : Value} (h : w = v) (k : V p l e R s m args below meth c Q D base nL pic lv (pc) (u :: v :: st) cells slots) : V p l e R s m args below meth c Q D base nL pic lv (pc) (u :: w :: st) cells slots := h ▸ k
theorem v_dup (K : KX p m c cc nL s args cw own D cA) {v : Value} (d : decode cc pc = .ok (.dup, 1)) (hv : v.category = 1) (k : V p l e R s m args below meth c Q D base nL pic lv (pc + 1) (v :: v :: st) cells slots) : V p l e R s m args below meth c Q D base nL pic lv (pc) (v :: st) cells slots := fun H locs ls hP hS hl => lv_dup K.1.1 K.1.2.1 d hv (k H locs ls hP hS hl)
theorem v_pop (K : KX p m c cc nL s args cw own D cA) {v : Value} (d : decode cc pc = .ok (.pop, 1)) (hv : v.category = 1) (k : V p l e R s m args below meth c Q D base nL pic lv (pc + 1) (st) cells slots) : V p l e R s m args below meth c Q D base nL pic lv (pc) (v :: st) cells slots := fun H locs ls hP hS hl => lv_pop K.1.1 K.1.2.1 d hv (k H locs ls hP hS hl)
theorem v_dup2 (K : KX p m c cc nL s args cw own D cA) {v w : Value} (d : decode cc pc = .ok (.dup2, 1)) (hv : v.category = 1) (hw : w.category = 1) (k : V p l e R s m args below meth c Q D base nL pic lv (pc + 1) (v :: w :: v :: w :: st) cells slots) : V p l e R s m args below meth c Q D base nL pic lv (pc) (v :: w :: st) cells slots := fun H locs ls hP hS hl => lv_dup2_11 K.1.1 K.1.2.1 d hv hw (k H locs ls hP hS hl)
theorem v_icmp_eq (K : KX p m c cc nL s args cw own D cA) {x y : Int32} {i j off : Int} (tgt : Nat) (d : decode cc pc = .ok (.if_icmp .eq off, 3)) (ht : (pc : Int) + off = (tgt : Int)) (hx : x.toInt = i) (hy : y.toInt = j) (kt : i = j → V p l e R s m args below meth c Q D base nL pic lv (tgt) (st) cells slots) (kf : i ≠ j → V p l e R s m args below meth c Q D base nL pic lv (pc + 3) (st) cells slots) : V p l e R s m args below meth c Q D base nL pic lv (pc) (.int y :: .int x :: st) cells slots := by
  subst hx; subst hy
  exact fun H locs ls hP hS hl => lv_icmp_eq K.1.1 K.1.2.1 d ht (fun cd => kt (Int32.toInt_inj.mpr cd) H locs ls hP hS hl) (fun cd => kf (fun q => cd (Int32.toInt_inj.mp q)) H locs ls hP hS hl)
theorem v_if_eq (K : KX p m c cc nL s args cw own D cA) {x : Int32} {i off : Int} (tgt : Nat) (d : decode cc pc = .ok (.ifCond .eq off, 3)) (ht : (pc : Int) + off = (tgt : Int)) (hx : x.toInt = i) (kt : i = 0 → V p l e R s m args below meth c Q D base nL pic lv (tgt) (st) cells slots) (kf : i ≠ 0 → V p l e R s m args below meth c Q D base nL pic lv (pc + 3) (st) cells slots) : V p l e R s m args below meth c Q D base nL pic lv (pc) (.int x :: st) cells slots := by
  subst hx
  exact fun H locs ls hP hS hl => lv_if_eq K.1.1 K.1.2.1 d ht (fun cd => kt (Int32.toInt_inj.mpr cd) H locs ls hP hS hl) (fun cd => kf (fun q => cd (Int32.toInt_inj.mp q)) H locs ls hP hS hl)
theorem v_icmp_ne (K : KX p m c cc nL s args cw own D cA) {x y : Int32} {i j off : Int} (tgt : Nat) (d : decode cc pc = .ok (.if_icmp .ne off, 3)) (ht : (pc : Int) + off = (tgt : Int)) (hx : x.toInt = i) (hy : y.toInt = j) (kt : i ≠ j → V p l e R s m args below meth c Q D base nL pic lv (tgt) (st) cells slots) (kf : i = j → V p l e R s m args below meth c Q D base nL pic lv (pc + 3) (st) cells slots) : V p l e R s m args below meth c Q D base nL pic lv (pc) (.int y :: .int x :: st) cells slots := by
  subst hx; subst hy
  exact fun H locs ls hP hS hl => lv_icmp_ne K.1.1 K.1.2.1 d ht (fun cd => kt (fun q => cd (Int32.toInt_inj.mp q)) H locs ls hP hS hl) (fun cd => kf (Int32.toInt_inj.mpr cd) H locs ls hP hS hl)
theorem v_if_ne (K : KX p m c cc nL s args cw own D cA) {x : Int32} {i off : Int} (tgt : Nat) (d : decode cc pc = .ok (.ifCond .ne off, 3)) (ht : (pc : Int) + off = (tgt : Int)) (hx : x.toInt = i) (kt : i ≠ 0 → V p l e R s m args below meth c Q D base nL pic lv (tgt) (st) cells slots) (kf : i = 0 → V p l e R s m args below meth c Q D base nL pic lv (pc + 3) (st) cells slots) : V p l e R s m args below meth c Q D base nL pic lv (pc) (.int x :: st) cells slots := by
  subst hx
  exact fun H locs ls hP hS hl => lv_if_ne K.1.1 K.1.2.1 d ht (fun cd => kt (fun q => cd (Int32.toInt_inj.mp q)) H locs ls hP hS hl) (fun cd => kf (Int32.toInt_inj.mpr cd) H locs ls hP hS hl)
theorem v_icmp_lt (K : KX p m c cc nL s args cw own D cA) {x y : Int32} {i j off : Int} (tgt : Nat) (d : decode cc pc = .ok (.if_icmp .lt off, 3)) (ht : (pc : Int) + off = (tgt : Int)) (hx : x.toInt = i) (hy : y.toInt = j) (kt : i < j → V p l e R s m args below meth c Q D base nL pic lv (tgt) (st) cells slots) (kf : j ≤ i → V p l e R s m args below meth c Q D base nL pic lv (pc + 3) (st) cells slots) : V p l e R s m args below meth c Q D base nL pic lv (pc) (.int y :: .int x :: st) cells slots := by
  subst hx; subst hy
  exact fun H locs ls hP hS hl => lv_icmp_lt K.1.1 K.1.2.1 d ht (fun cd => kt (Int32.lt_iff_toInt_lt.mp cd) H locs ls hP hS hl) (fun cd => kf (Int.not_lt.mp (fun q => cd (Int32.lt_iff_toInt_lt.mpr q))) H locs ls hP hS hl)
theorem v_if_lt (K : KX p m c cc nL s args cw own D cA) {x : Int32} {i off : Int} (tgt : Nat) (d : decode cc pc = .ok (.ifCond .lt off, 3)) (ht : (pc : Int) + off = (tgt : Int)) (hx : x.toInt = i) (kt : i < 0 → V p l e R s m args below meth c Q D base nL pic lv (tgt) (st) cells slots) (kf : 0 ≤ i → V p l e R s m args below meth c Q D base nL pic lv (pc + 3) (st) cells slots) : V p l e R s m args below meth c Q D base nL pic lv (pc) (.int x :: st) cells slots := by
  subst hx
  exact fun H locs ls hP hS hl => lv_if_lt K.1.1 K.1.2.1 d ht (fun cd => kt (Int32.lt_iff_toInt_lt.mp cd) H locs ls hP hS hl) (fun cd => kf (Int.not_lt.mp (fun q => cd (Int32.lt_iff_toInt_lt.mpr q))) H locs ls hP hS hl)
theorem v_icmp_ge (K : KX p m c cc nL s args cw own D cA) {x y : Int32} {i j off : Int} (tgt : Nat) (d : decode cc pc = .ok (.if_icmp .ge off, 3)) (ht : (pc : Int) + off = (tgt : Int)) (hx : x.toInt = i) (hy : y.toInt = j) (kt : j ≤ i → V p l e R s m args below meth c Q D base nL pic lv (tgt) (st) cells slots) (kf : i < j → V p l e R s m args below meth c Q D base nL pic lv (pc + 3) (st) cells slots) : V p l e R s m args below meth c Q D base nL pic lv (pc) (.int y :: .int x :: st) cells slots := by
  subst hx; subst hy
  exact fun H locs ls hP hS hl => lv_icmp_ge K.1.1 K.1.2.1 d ht (fun cd => kt (Int32.le_iff_toInt_le.mp cd) H locs ls hP hS hl) (fun cd => kf (Int.not_le.mp (fun q => cd (Int32.le_iff_toInt_le.mpr q))) H locs ls hP hS hl)
theorem v_if_ge (K : KX p m c cc nL s args cw own D cA) {x : Int32} {i off : Int} (tgt : Nat) (d : decode cc pc = .ok (.ifCond .ge off, 3)) (ht : (pc : Int) + off = (tgt : Int)) (hx : x.toInt = i) (kt : 0 ≤ i → V p l e R s m args below meth c Q D base nL pic lv (tgt) (st) cells slots) (kf : i < 0 → V p l e R s m args below meth c Q D base nL pic lv (pc + 3) (st) cells slots) : V p l e R s m args below meth c Q D base nL pic lv (pc) (.int x :: st) cells slots := by
  subst hx
  exact fun H locs ls hP hS hl => lv_if_ge K.1.1 K.1.2.1 d ht (fun cd => kt (Int32.le_iff_toInt_le.mp cd) H locs ls hP hS hl) (fun cd => kf (Int.not_le.mp (fun q => cd (Int32.le_iff_toInt_le.mpr q))) H locs ls hP hS hl)
theorem v_icmp_gt (K : KX p m c cc nL s args cw own D cA) {x y : Int32} {i j off : Int} (tgt : Nat) (d : decode cc pc = .ok (.if_icmp .gt off, 3)) (ht : (pc : Int) + off = (tgt : Int)) (hx : x.toInt = i) (hy : y.toInt = j) (kt : j < i → V p l e R s m args below meth c Q D base nL pic lv (tgt) (st) cells slots) (kf : i ≤ j → V p l e R s m args below meth c Q D base nL pic lv (pc + 3) (st) cells slots) : V p l e R s m args below meth c Q D base nL pic lv (pc) (.int y :: .int x :: st) cells slots := by
  subst hx; subst hy
  exact fun H locs ls hP hS hl => lv_icmp_gt K.1.1 K.1.2.1 d ht (fun cd => kt (Int32.lt_iff_toInt_lt.mp cd) H locs ls hP hS hl) (fun cd => kf (Int.not_lt.mp (fun q => cd (Int32.lt_iff_toInt_lt.mpr q))) H locs ls hP hS hl)
theorem v_if_gt (K : KX p m c cc nL s args cw own D cA) {x : Int32} {i off : Int} (tgt : Nat) (d : decode cc pc = .ok (.ifCond .gt off, 3)) (ht : (pc : Int) + off = (tgt : Int)) (hx : x.toInt = i) (kt : 0 < i → V p l e R s m args below meth c Q D base nL pic lv (tgt) (st) cells slots) (kf : i ≤ 0 → V p l e R s m args below meth c Q D base nL pic lv (pc + 3) (st) cells slots) : V p l e R s m args below meth c Q D base nL pic lv (pc) (.int x :: st) cells slots := by
  subst hx
  exact fun H locs ls hP hS hl => lv_if_gt K.1.1 K.1.2.1 d ht (fun cd => kt (Int32.lt_iff_toInt_lt.mp cd) H locs ls hP hS hl) (fun cd => kf (Int.not_lt.mp (fun q => cd (Int32.lt_iff_toInt_lt.mpr q))) H locs ls hP hS hl)
theorem v_icmp_le (K : KX p m c cc nL s args cw own D cA) {x y : Int32} {i j off : Int} (tgt : Nat) (d : decode cc pc = .ok (.if_icmp .le off, 3)) (ht : (pc : Int) + off = (tgt : Int)) (hx : x.toInt = i) (hy : y.toInt = j) (kt : i ≤ j → V p l e R s m args below meth c Q D base nL pic lv (tgt) (st) cells slots) (kf : j < i → V p l e R s m args below meth c Q D base nL pic lv (pc + 3) (st) cells slots) : V p l e R s m args below meth c Q D base nL pic lv (pc) (.int y :: .int x :: st) cells slots := by
  subst hx; subst hy
  exact fun H locs ls hP hS hl => lv_icmp_le K.1.1 K.1.2.1 d ht (fun cd => kt (Int32.le_iff_toInt_le.mp cd) H locs ls hP hS hl) (fun cd => kf (Int.not_le.mp (fun q => cd (Int32.le_iff_toInt_le.mpr q))) H locs ls hP hS hl)
theorem v_if_le (K : KX p m c cc nL s args cw own D cA) {x : Int32} {i off : Int} (tgt : Nat) (d : decode cc pc = .ok (.ifCond .le off, 3)) (ht : (pc : Int) + off = (tgt : Int)) (hx : x.toInt = i) (kt : i ≤ 0 → V p l e R s m args below meth c Q D base nL pic lv (tgt) (st) cells slots) (kf : 0 < i → V p l e R s m args below meth c Q D base nL pic lv (pc + 3) (st) cells slots) : V p l e R s m args below meth c Q D base nL pic lv (pc) (.int x :: st) cells slots := by
  subst hx
  exact fun H locs ls hP hS hl => lv_if_le K.1.1 K.1.2.1 d ht (fun cd => kt (Int32.le_iff_toInt_le.mp cd) H locs ls hP hS hl) (fun cd => kf (Int.not_le.mp (fun q => cd (Int32.le_iff_toInt_le.mpr q))) H locs ls hP hS hl)
theorem v_goto (K : KX p m c cc nL s args cw own D cA) {off : Int} (tgt : Nat) (d : decode cc pc = .ok (.goto off, 3)) (ht : (pc : Int) + off = (tgt : Int)) (k : V p l e R s m args below meth c Q D base nL pic lv (tgt) (st) cells slots) : V p l e R s m args below meth c Q D base nL pic lv (pc) (st) cells slots := fun H locs ls hP hS hl => lv_goto K.1.1 K.1.2.1 d ht (k H locs ls hP hS hl)
theorem v_ifnonnull (K : KX p m c cc nL s args cw own D cA) {a : Nat} {off : Int} (tgt : Nat) (d : decode cc pc = .ok (.ifnonnull off, 3)) (ht : (pc : Int) + off = (tgt : Int)) (k : V p l e R s m args below meth c Q D base nL pic lv (tgt) (st) cells slots) : V p l e R s m args below meth c Q D base nL pic lv (pc) (.ref a :: st) cells slots := fun H locs ls hP hS hl => lv_ifnonnull K.1.1 K.1.2.1 d ht (k H locs ls hP hS hl)
theorem v_ifnonnullN (K : KX p m c cc nL s args cw own D cA) {off : Int} (d : decode cc pc = .ok (.ifnonnull off, 3)) (k : V p l e R s m args below meth c Q D base nL pic lv (pc + 3) (st) cells slots) : V p l e R s m args below meth c Q D base nL pic lv (pc) (.null :: st) cells slots := fun H locs ls hP hS hl => lv_ifnonnullN K.1.1 K.1.2.1 d (k H locs ls hP hS hl)
theorem v_ifnull (K : KX p m c cc nL s args cw own D cA) {a : Nat} {off : Int} (d : decode cc pc = .ok (.ifnull off, 3)) (k : V p l e R s m args below meth c Q D base nL pic lv (pc + 3) (st) cells slots) : V p l e R s m args below meth c Q D base nL pic lv (pc) (.ref a :: st) cells slots := fun H locs ls hP hS hl => lv_ifnull K.1.1 K.1.2.1 d (k H locs ls hP hS hl)
theorem v_ifnullN (K : KX p m c cc nL s args cw own D cA) {off : Int} (tgt : Nat) (d : decode cc pc = .ok (.ifnull off, 3)) (ht : (pc : Int) + off = (tgt : Int)) (k : V p l e R s m args below meth c Q D base nL pic lv (tgt) (st) cells slots) : V p l e R s m args below meth c Q D base nL pic lv (pc) (.null :: st) cells slots := fun H locs ls hP hS hl => lv_ifnullN K.1.1 K.1.2.1 d ht (k H locs ls hP hS hl)
theorem v_tableOut (K : KX p m c cc nL s args cw own D cA) {dflt lo hi : Int} {offs : Array Int} {len : Nat} {x : Int32} {i : Int} (tgt : Nat) (d : decode cc pc = .ok (.tableswitch dflt lo hi offs, len)) (hx : x.toInt = i) (h : i < lo ∨ hi < i) (ht : (pc : Int) + dflt = (tgt : Int)) (k : V p l e R s m args below meth c Q D base nL pic lv (tgt) (st) cells slots) : V p l e R s m args below meth c Q D base nL pic lv (pc) (.int x :: st) cells slots := fun H locs ls hP hS hl => lv_tableOut K.1.1 K.1.2.1 d (hx ▸ h) ht (k H locs ls hP hS hl)
theorem v_tableIn (K : KX p m c cc nL s args cw own D cA) {dflt lo hi off : Int} {offs : Array Int} {len : Nat} {x : Int32} {i : Int} (tgt : Nat) (d : decode cc pc = .ok (.tableswitch dflt lo hi offs, len)) (hx : x.toInt = i) (h1 : ¬ i < lo) (h2 : ¬ hi < i) (ho : offs[(i - lo).toNat]? = some off) (ht : (pc : Int) + off = (tgt : Int)) (k : V p l e R s m args below meth c Q D base nL pic lv (tgt) (st) cells slots) : V p l e R s m args below meth c Q D base nL pic lv (pc) (.int x :: st) cells slots := fun H locs ls hP hS hl => lv_tableIn K.1.1 K.1.2.1 d (hx ▸ h1) (hx ▸ h2) (hx ▸ ho) ht (k H locs ls hP hS hl)
theorem v_get (K : KX p m c cc nL s args cw own D cA) {ref C : String} {T : u_T} {N ci index k r a : Nat} {fs : List Value} {v : Value} (hc : vwCl[ci]? = some (C, T, N)) (hin : ∀ w ∈ u_ws C T N, w ∈ G) (hk : k < N) (hlink : Cond.fieldLink own index ref (T k).2.1 (T k).2.2.1 ∈ G) (hsame : (T k).1 = ref) (d : decode cc pc = .ok (.getfield index, 3)) (he : pic r = some (a, .inr (ci, fs))) (hv : fs[k]? = some v) (kk : V p l e R s m args below meth c Q D base nL pic lv (pc + 3) (v :: st) cells slots) : V p l e R s m args below meth c Q D base nL pic lv (pc) (.ref a :: st) cells slots := by
  subst hsame
  exact fun H locs ls hP hS hl => va_get K.1.1 K.1.2.1 (fun w hw => K.word hw) hin K.1.2.2.2.1 K.2.1 (hP.one he) 0 rfl hc k hk (K.word hlink) (fun _ h9 => h9) hv d (kk H locs ls hP hS hl)
theorem v_put (K : KX p m c cc nL s args cw own D cA) {ref C : String} {T : u_T} {N ci index k r a : Nat} {fs : List Value} {v : Value} {ty : FieldType} (ty0 : Nat → FieldType) (hty : ∀ k, k < N → parseFieldDescriptor (T k).2.2.1 = some (ty0 k)) (hnm : ∀ a, a < N → ∀ b, b < N → a ≠ b → (T a).2.1 ≠ (T b).2.1) (hc : vwCl[ci]? = some (C, T, N)) (hin : ∀ w ∈ u_ws C T N, w ∈ G) (hk : k < N) (hlink : Cond.fieldLink own index ref (T k).2.1 (T k).2.2.1 ∈ G) (hsame : (T k).1 = ref) (hfin : (T k).2.2.2 = false) (hd : parseFieldDescriptor (T k).2.2.1 = some ty) (d : decode cc pc = .ok (.putfield index, 3)) (he : pic r = some (a, .inr (ci, fs))) (hn : narrow ty v = v) (hfit : fits ty v = true) (hl9 : k < fs.length) (kk : ∀ pic1 : PIC, pic1 r = some (a, .inr (ci, fs.set k v)) → (∀ q, q ≠ r → pic1 q = pic q) → V p l e R s m args below meth c Q D base nL pic1 lv (pc + 3) (st) cells slots) : V p l e R s m args below meth c Q D base nL pic lv (pc) (v :: .ref a :: st) cells slots := by
  subst hsame
  intro H locs ls hP hS hl
  have hts : ∀ w ∈ G, w.before args s = true := fun w hw => K.word hw
  have hap := va_apart (own := own) hts hin ty0 hty hnm K.2.1 hc
  obtain ⟨rr, h1, cell, q1, q2, q3, q4⟩ := (hP.2.1 r a _ he).1
  have hba := (hP.2.1 r a _ he).2
  have hr : rr = (C, T, N) := Option.some.inj (h1.symm.trans hc)
  subst hr
  obtain ⟨hSl, hfc, kC, hkC, hkind⟩ := K.2.1.1 ci _ hc
  obtain ⟨cf, kf, fi, f, hi, hsl⟩ := hSl k hk
  have hlay := hts _ (hin _ (u_in_lay hk))
  unfold u_lay at hlay
  have hst := (u_facts hfc hkC (u_lays hts hin hk) hi).1
  rw [if_neg (by rw [hfin]; decide)] at hlay
  refine W.putK K.1.1 K.1.2.1 (f := f) ⟨K.1.2.2.2.1, K.word hlink, ⟨_, _, _, hi⟩, hst⟩ (by rw [q2]; exact u_store hfc hkC hkind hlay hi hd hn hfit) q1 q3 (by rw [hsl]; exact k2_hasslot (q4 k hk)) rfl rfl d fun H1 e1 e2 e3 => ?_
  rw [hsl] at e1 ⊢
  exact kk _ (va_up_self _ _ _) (fun q hq => va_up_ne _ _ hq) H1 _ ls (hP.put he ⟨_, hc, t_OB.to (V := updV (vp_V fs) k v) ⟨_, e1, q2, q3, t_set q4 hap hk v⟩ (fun j _ => vp_updV_set hl9 v j)⟩ e2 e3) (hS.put e2 e3 hba) hl
theorem v_putF (K : KX p m c cc nL s args cw own D cA) {ref C : String} {T : u_T} {N ci index k r a : Nat} {fs : List Value} {v : Value} {ty : FieldType} (ty0 : Nat → FieldType) (hty : ∀ k, k < N → parseFieldDescriptor (T k).2.2.1 = some (ty0 k)) (hnm : ∀ a, a < N → ∀ b, b < N → a ≠ b → (T a).2.1 ≠ (T b).2.1) (hc : vwCl[ci]? = some (C, T, N)) (hin : ∀ w ∈ u_ws C T N, w ∈ G) (hk : k < N) (hlink : Cond.fieldLink own index ref (T k).2.1 (T k).2.2.1 ∈ G) (hsame : (T k).1 = ref) (hfin : (T k).2.2.2 = true) (hin2 : meth.name = "<init>") (hdecl : (T k).1 = own) (hd : parseFieldDescriptor (T k).2.2.1 = some ty) (d : decode cc pc = .ok (.putfield index, 3)) (he : pic r = some (a, .inr (ci, fs))) (hn : narrow ty v = v) (hfit : fits ty v = true) (hl9 : k < fs.length) (kk : ∀ pic1 : PIC, pic1 r = some (a, .inr (ci, fs.set k v)) → (∀ q, q ≠ r → pic1 q = pic q) → V p l e R s m args below meth c Q D base nL pic1 lv (pc + 3) (st) cells slots) : V p l e R s m args below meth c Q D base nL pic lv (pc) (v :: .ref a :: st) cells slots := by
  subst hsame
  intro H locs ls hP hS hl
  have hts : ∀ w ∈ G, w.before args s = true := fun w hw => K.word hw
  have hap := va_apart (own := own) hts hin ty0 hty hnm K.2.1 hc
  obtain ⟨rr, h1, cell, q1, q2, q3, q4⟩ := (hP.2.1 r a _ he).1
  have hba := (hP.2.1 r a _ he).2
  have hr : rr = (C, T, N) := Option.some.inj (h1.symm.trans hc)
  subst hr
  obtain ⟨hSl, hfc, kC, hkC, hkind⟩ := K.2.1.1 ci _ hc
  obtain ⟨cf, kf, fi, f, hi, hsl⟩ := hSl k hk
  have hlay := hts _ (hin _ (u_in_lay hk))
  unfold u_lay at hlay
  have hst := (u_facts hfc hkC (u_lays hts hin hk) hi).1
  rw [if_pos hfin] at hlay
  have hcf : m.cls = cf := by
    obtain ⟨_, _, c9, _, _, _, -, -, hf9, -, -, -, hown9, -⟩ := Cond.laysFinal_spec hlay
    have e1 : c9 = cf := by have := hi.symm.trans hf9; simp at this; exact this.1.symm
    rw [hdecl] at hown9
    rw [← e1]; exact Option.some.inj (K.1.2.2.2.1.symm.trans hown9)
  refine W.putFinK K.1.1 K.1.2.1 K.1.2.2.2.1 (K.word hlink) hi hst hcf hin2 (by rw [q2]; exact u_fits hfc hkC hkind (Or.inr hlay) hi hd hn hfit) q1 q3 (by rw [hsl]; exact k2_hasslot (q4 k hk)) rfl rfl d fun H1 e1 e2 e3 => ?_
  rw [hsl] at e1 ⊢
  exact kk _ (va_up_self _ _ _) (fun q hq => va_up_ne _ _ hq) H1 _ ls (hP.put he ⟨_, hc, t_OB.to (V := updV (vp_V fs) k v) ⟨_, e1, q2, q3, t_set q4 hap hk v⟩ (fun j _ => vp_updV_set hl9 v j)⟩ e2 e3) (hS.put e2 e3 hba) hl
theorem v_iald (K : KX p m c cc nL s args cw own D cA) {r a n i : Nat} {f : Nat → Int32} (d : decode cc pc = .ok (.iaload, 1)) (he : pic r = some (a, .inl (cA 0, n, .inl f))) (hi : i < n) (hn : n < 2 ^ 31) (k : V p l e R s m args below meth c Q D base nL pic lv (pc + 1) (.int (f i) :: st) cells slots) : V p l e R s m args below meth c Q D base nL pic lv (pc) (.int (nI i) :: .ref a :: st) cells slots := by
  intro H locs ls hP hS hl
  refine va_iald K.1.1 K.1.2.1 K.2.1 (hP.one he) 0 0 rfl rfl (vp_in_nI hi hn) d ?_
  rw [nI_clamp (Nat.lt_trans hi hn)]
  exact k H locs ls hP hS hl
theorem v_lald (K : KX p m c cc nL s args cw own D cA) {r a n i : Nat} {f : Nat → Int64} (d : decode cc pc = .ok (.laload, 1)) (he : pic r = some (a, .inl (cA 1, n, .inr (.inl f)))) (hi : i < n) (hn : n < 2 ^ 31) (k : V p l e R s m args below meth c Q D base nL pic lv (pc + 1) (.long (f i) :: st) cells slots) : V p l e R s m args below meth c Q D base nL pic lv (pc) (.int (nI i) :: .ref a :: st) cells slots := by
  intro H locs ls hP hS hl
  refine va_lald K.1.1 K.1.2.1 K.2.1 (hP.one he) 0 1 rfl rfl (vp_in_nI hi hn) d ?_
  rw [nI_clamp (Nat.lt_trans hi hn)]
  exact k H locs ls hP hS hl
theorem v_zald (K : KX p m c cc nL s args cw own D cA) {r a n i : Nat} {f : Nat → Int32} (d : decode cc pc = .ok (.baload, 1)) (he : pic r = some (a, .inl (cA 2, n, .inl f))) (hi : i < n) (hn : n < 2 ^ 31) (k : V p l e R s m args below meth c Q D base nL pic lv (pc + 1) (.int (f i) :: st) cells slots) : V p l e R s m args below meth c Q D base nL pic lv (pc) (.int (nI i) :: .ref a :: st) cells slots := by
  intro H locs ls hP hS hl
  refine va_zald K.1.1 K.1.2.1 K.2.1 (hP.one he) 0 2 rfl rfl (vp_in_nI hi hn) d ?_
  rw [nI_clamp (Nat.lt_trans hi hn)]
  exact k H locs ls hP hS hl
theorem v_aaldB (K : KX p m c cc nL s args cw own D cA) {r a n i : Nat} {f : Nat → Option Nat} (d : decode cc pc = .ok (.aaload, 1)) (he : pic r = some (a, .inl (cA 3, n, .inr (.inr (.inr (.inr f)))))) (hi : i < n) (hn : n < 2 ^ 31) (k : V p l e R s m args below meth c Q D base nL pic lv (pc + 1) (va_rf (f i) :: st) cells slots) : V p l e R s m args below meth c Q D base nL pic lv (pc) (.int (nI i) :: .ref a :: st) cells slots := by
  intro H locs ls hP hS hl
  refine va_aldq K.1.1 K.1.2.1 K.2.1 (hP.one he) 0 3 rfl rfl (vp_in_nI hi hn) d ?_
  rw [nI_clamp (Nat.lt_trans hi hn)]
  exact k H locs ls hP hS hl
theorem v_aaldS (K : KX p m c cc nL s args cw own D cA) {r a n i : Nat} {f : Nat → Option Nat} (d : decode cc pc = .ok (.aaload, 1)) (he : pic r = some (a, .inl (cA 4, n, .inr (.inr (.inr (.inr f)))))) (hi : i < n) (hn : n < 2 ^ 31) (k : V p l e R s m args below meth c Q D base nL pic lv (pc + 1) (va_rf (f i) :: st) cells slots) : V p l e R s m args below meth c Q D base nL pic lv (pc) (.int (nI i) :: .ref a :: st) cells slots := by
  intro H locs ls hP hS hl
  refine va_aldq K.1.1 K.1.2.1 K.2.1 (hP.one he) 0 4 rfl rfl (vp_in_nI hi hn) d ?_
  rw [nI_clamp (Nat.lt_trans hi hn)]
  exact k H locs ls hP hS hl
theorem v_iast (K : KX p m c cc nL s args cw own D cA) {r a n i : Nat} {f : Nat → Int32} {x : Int32} (d : decode cc pc = .ok (.iastore, 1)) (he : pic r = some (a, .inl (cA 0, n, .inl f))) (hi : i < n) (hn : n < 2 ^ 31) (kk : ∀ pic1 : PIC, pic1 r = some (a, .inl (cA 0, n, .inl (upd f i x))) → (∀ q, q ≠ r → pic1 q = pic q) → V p l e R s m args below meth c Q D base nL pic1 lv (pc + 1) (st) cells slots) : V p l e R s m args below meth c Q D base nL pic lv (pc) (.int x :: .int (nI i) :: .ref a :: st) cells slots := by
  intro H locs ls hP hS hl
  have hba := (hP.2.1 r a _ he).2
  refine W.iast K.1.1 K.1.2.1 (hP.2.1 r a _ he).1 ((K.2.1.2 0 _ rfl).1 n (fun j => .int (f j))) (fun q => by cases q) (by show ¬ (nI i < 0 ∨ (arrV _ _ _).slots.size ≤ _); rw [arrV_size]; exact vp_in_nI hi hn) rfl rfl d fun H1 e1 z oq => ?_
  rw [nI_clamp (Nat.lt_trans hi hn)] at e1 ⊢
  refine kk _ (va_up_self _ _ _) (fun q hq => va_up_ne _ _ hq) H1 _ ls (hP.put he ?_ z oq) (hS.put z oq hba) hl
  show H1[a]? = some (vp_cell _ _)
  rw [e1, vp_cell_i, vp_cell_i, arrV_store]
  congr 2
  funext q
  by_cases hq : q = i
  · subst hq; simp [updV, upd, vp_updL]
  · simp [updV, upd, vp_updL, hq]
theorem v_last (K : KX p m c cc nL s args cw own D cA) {r a n i : Nat} {f : Nat → Int64} {x : Int64} (d : decode cc pc = .ok (.lastore, 1)) (he : pic r = some (a, .inl (cA 1, n, .inr (.inl f)))) (hi : i < n) (hn : n < 2 ^ 31) (kk : ∀ pic1 : PIC, pic1 r = some (a, .inl (cA 1, n, .inr (.inl (vp_updL f i x)))) → (∀ q, q ≠ r → pic1 q = pic q) → V p l e R s m args below meth c Q D base nL pic1 lv (pc + 1) (st) cells slots) : V p l e R s m args below meth c Q D base nL pic lv (pc) (.long x :: .int (nI i) :: .ref a :: st) cells slots := by
  intro H locs ls hP hS hl
  have hba := (hP.2.1 r a _ he).2
  refine W.last K.1.1 K.1.2.1 (hP.2.1 r a _ he).1 ((K.2.1.2 1 _ rfl).1 n (fun j => .long (f j))) (fun q => by cases q) (by show ¬ (nI i < 0 ∨ (arrV _ _ _).slots.size ≤ _); rw [arrV_size]; exact vp_in_nI hi hn) rfl rfl d fun H1 e1 z oq => ?_
  rw [nI_clamp (Nat.lt_trans hi hn)] at e1 ⊢
  refine kk _ (va_up_self _ _ _) (fun q hq => va_up_ne _ _ hq) H1 _ ls (hP.put he ?_ z oq) (hS.put z oq hba) hl
  show H1[a]? = some (vp_cell _ _)
  rw [e1, vp_cell_l, vp_cell_l, arrV_store]
  congr 2
  funext q
  by_cases hq : q = i
  · subst hq; simp [updV, upd, vp_updL]
  · simp [updV, upd, vp_updL, hq]
theorem v_zast (K : KX p m c cc nL s args cw own D cA) {r a n i : Nat} {f : Nat → Int32} {x : Int32} (d : decode cc pc = .ok (.bastore, 1)) (he : pic r = some (a, .inl (cA 2, n, .inl f))) (hi : i < n) (hn : n < 2 ^ 31) (hx9 : narrow .boolean (.int x) = .int x) (kk : ∀ pic1 : PIC, pic1 r = some (a, .inl (cA 2, n, .inl (upd f i x))) → (∀ q, q ≠ r → pic1 q = pic q) → V p l e R s m args below meth c Q D base nL pic1 lv (pc + 1) (st) cells slots) : V p l e R s m args below meth c Q D base nL pic lv (pc) (.int x :: .int (nI i) :: .ref a :: st) cells slots := by
  intro H locs ls hP hS hl
  have hba := (hP.2.1 r a _ he).2
  refine W.zast K.1.1 K.1.2.1 (hP.2.1 r a _ he).1 ((K.2.1.2 2 _ rfl).1 n (fun j => .int (f j))) (fun q => by cases q) (by show ¬ (nI i < 0 ∨ (arrV _ _ _).slots.size ≤ _); rw [arrV_size]; exact vp_in_nI hi hn) rfl rfl d fun H1 e1 z oq => ?_
  rw [nI_clamp (Nat.lt_trans hi hn)] at e1 ⊢
  refine kk _ (va_up_self _ _ _) (fun q hq => va_up_ne _ _ hq) H1 _ ls (hP.put he ?_ z oq) (hS.put z oq hba) hl
  show H1[a]? = some (vp_cell _ _)
  rw [e1, hx9, vp_cell_i, vp_cell_i, arrV_store]
  congr 2
  funext q
  by_cases hq : q = i
  · subst hq; simp [updV, upd, vp_updL]
  · simp [updV, upd, vp_updL, hq]
theorem v_aastB (K : KX p m c cc nL s args cw own D cA) {r a n i r2 v ci : Nat} {vs : List Value} {f : Nat → Option Nat} {T : u_T} {N : Nat} (d : decode cc pc = .ok (.aastore, 1)) (he : pic r = some (a, .inl (cA 3, n, .inr (.inr (.inr (.inr f)))))) (hv : pic r2 = some (v, .inr (ci, vs))) (hc : vwCl[ci]? = some (RX0, T, N)) (hi : i < n) (hn : n < 2 ^ 31) (kk : ∀ pic1 : PIC, pic1 r = some (a, .inl (cA 3, n, .inr (.inr (.inr (.inr (va_up f i (some v))))))) → (∀ q, q ≠ r → pic1 q = pic q) → V p l e R s m args below meth c Q D base nL pic1 lv (pc + 1) (st) cells slots) : V p l e R s m args below meth c Q D base nL pic lv (pc) (.ref v :: .int (nI i) :: .ref a :: st) cells slots := by
  intro H locs ls hP hS hl
  have hba := (hP.2.1 r a _ he).2
  have hlt : (nI i).toNatClampNeg < n := by rw [nI_clamp (Nat.lt_trans hi hn)]; exact hi
  have h0 : ¬ nI i < 0 := nI_pos (Nat.lt_trans hi hn)
  obtain ⟨r9, hr9, cellV, g1, g2, g3, -⟩ := (hP.2.1 r2 v _ hv).1
  have hcls := (K.2.1.1 ci _ hc).2
  obtain ⟨kA, comp, k1, k2, k3, -⟩ := (K.2.1.2 3 _ rfl).2
  have hcomp : comp = D.1 ci := Option.some.inj (k3.symm.trans hcls.1)
  subst hcomp
  obtain ⟨kC, hkC, -⟩ := hcls.2
  refine W.aast K.1.1 K.1.2.1 (hP.2.1 r a _ he).1 (fun q h => by cases h) (fun h => by cases h) k1 k2 rfl hkC ⟨h0, by show _ < (arrV _ _ _).slots.size; rw [arrV_size]; exact hlt⟩ g1 (fun q h => by rw [g3] at h; cases h) (by rw [g2]; exact hkC) (by rw [g2]; exact va_assign hcls) rfl rfl d fun H1 e1 z oq => ?_
  rw [nI_clamp (Nat.lt_trans hi hn)] at e1 ⊢
  refine kk _ (va_up_self _ _ _) (fun q hq => va_up_ne _ _ hq) H1 _ ls (hP.put he ?_ z oq) (hS.put z oq hba) hl
  show H1[a]? = some (vp_cell _ _)
  rw [e1, vp_cell_q, vp_cell_q, arrV_store]
  congr 2
  funext q
  by_cases hq : q = i
  · subst hq; simp [updV, va_up, va_rf]
  · simp [updV, va_up, hq]
theorem v_aastS (K : KX p m c cc nL s args cw own D cA) {r a n i r2 v ci : Nat} {vs : List Value} {f : Nat → Option Nat} {T : u_T} {N : Nat} (d : decode cc pc = .ok (.aastore, 1)) (he : pic r = some (a, .inl (cA 4, n, .inr (.inr (.inr (.inr f)))))) (hv : pic r2 = some (v, .inr (ci, vs))) (hc : vwCl[ci]? = some (RX3, T, N)) (hi : i < n) (hn : n < 2 ^ 31) (kk : ∀ pic1 : PIC, pic1 r = some (a, .inl (cA 4, n, .inr (.inr (.inr (.inr (va_up f i (some v))))))) → (∀ q, q ≠ r → pic1 q = pic q) → V p l e R s m args below meth c Q D base nL pic1 lv (pc + 1) (st) cells slots) : V p l e R s m args below meth c Q D base nL pic lv (pc) (.ref v :: .int (nI i) :: .ref a :: st) cells slots := by
  intro H locs ls hP hS hl
  have hba := (hP.2.1 r a _ he).2
  have hlt : (nI i).toNatClampNeg < n := by rw [nI_clamp (Nat.lt_trans hi hn)]; exact hi
  have h0 : ¬ nI i < 0 := nI_pos (Nat.lt_trans hi hn)
  obtain ⟨r9, hr9, cellV, g1, g2, g3, -⟩ := (hP.2.1 r2 v _ hv).1
  have hcls := (K.2.1.1 ci _ hc).2
  obtain ⟨kA, comp, k1, k2, k3, -⟩ := (K.2.1.2 4 _ rfl).2
  have hcomp : comp = D.1 ci := Option.some.inj (k3.symm.trans hcls.1)
  subst hcomp
  obtain ⟨kC, hkC, -⟩ := hcls.2
  refine W.aast K.1.1 K.1.2.1 (hP.2.1 r a _ he).1 (fun q h => by cases h) (fun h => by cases h) k1 k2 rfl hkC ⟨h0, by show _ < (arrV _ _ _).slots.size; rw [arrV_size]; exact hlt⟩ g1 (fun q h => by rw [g3] at h; cases h) (by rw [g2]; exact hkC) (by rw [g2]; exact va_assign hcls) rfl rfl d fun H1 e1 z oq => ?_
  rw [nI_clamp (Nat.lt_trans hi hn)] at e1 ⊢
  refine kk _ (va_up_self _ _ _) (fun q hq => va_up_ne _ _ hq) H1 _ ls (hP.put he ?_ z oq) (hS.put z oq hba) hl
  show H1[a]? = some (vp_cell _ _)
  rw [e1, vp_cell_q, vp_cell_q, arrV_store]
  congr 2
  funext q
  by_cases hq : q = i
  · subst hq; simp [updV, va_up, va_rf]
  · simp [updV, va_up, hq]
theorem v_newI (K : KX p m c cc nL s args cw own D cA) (r : Nat) {N : Nat} (hw : Cond.arrayClass .int ∈ G) (d : decode cc pc = .ok (.newarray .int, 2)) (hr : pic r = none) (hN : N < 2 ^ 20) (hcells : cells + 1 ≤ R.cells) (hslots : slots + N ≤ R.slots) (kk : ∀ (q : Nat) (pic1 : PIC), pic1 r = some (q, .inl (cA 0, N, .inl (fun _ => 0))) → (∀ z, z ≠ r → pic1 z = pic z) → V p l e R s m args below meth c Q D base nL pic1 lv (pc + 2) (.ref q :: st) (cells + 1) (slots + N)) : V p l e R s m args below meth c Q D base nL pic lv (pc) (.int (nI N) :: st) cells slots := by
  intro H locs ls hP hS hl
  have hN31 : N < 2 ^ 31 := Nat.lt_trans hN (by decide)
  refine va_newaK K.1.1 K.1.2.1 (atype := .int) (K.word hw) rfl d rfl (nI_pos hN31) (nI_clamp hN31) (by show N * componentBytes .int ≤ _; simp only [componentBytes]; omega) hcells hslots rfl fun H1 cX e1 z1 o1 hAr hNm => ?_
  have hcX : cX = cA 0 := Option.some.inj (hNm.symm.trans (K.2.1.2 0 _ rfl).2)
  subst hcX
  exact kk H.size _ (va_up_self _ _ _) (fun z hz => va_up_ne _ _ hz) H1 locs ls (hP.new r hr (by show H1[H.size]? = some (vp_cell _ _); exact e1) z1 o1) ⟨Nat.le_trans hS.1 (by omega), fun x h1 h2 => (o1 x (Nat.lt_of_lt_of_le h1 hS.1)).trans (hS.2.1 x h1 h2), hS.2.2⟩ hl
theorem v_newL (K : KX p m c cc nL s args cw own D cA) (r : Nat) {N : Nat} (hw : Cond.arrayClass .long ∈ G) (d : decode cc pc = .ok (.newarray .long, 2)) (hr : pic r = none) (hN : N < 2 ^ 20) (hcells : cells + 1 ≤ R.cells) (hslots : slots + N ≤ R.slots) (kk : ∀ (q : Nat) (pic1 : PIC), pic1 r = some (q, .inl (cA 1, N, .inr (.inl (fun _ => 0)))) → (∀ z, z ≠ r → pic1 z = pic z) → V p l e R s m args below meth c Q D base nL pic1 lv (pc + 2) (.ref q :: st) (cells + 1) (slots + N)) : V p l e R s m args below meth c Q D base nL pic lv (pc) (.int (nI N) :: st) cells slots := by
  intro H locs ls hP hS hl
  have hN31 : N < 2 ^ 31 := Nat.lt_trans hN (by decide)
  refine va_newaK K.1.1 K.1.2.1 (atype := .long) (K.word hw) rfl d rfl (nI_pos hN31) (nI_clamp hN31) (by show N * componentBytes .long ≤ _; simp only [componentBytes]; omega) hcells hslots rfl fun H1 cX e1 z1 o1 hAr hNm => ?_
  have hcX : cX = cA 1 := Option.some.inj (hNm.symm.trans (K.2.1.2 1 _ rfl).2)
  subst hcX
  exact kk H.size _ (va_up_self _ _ _) (fun z hz => va_up_ne _ _ hz) H1 locs ls (hP.new r hr (by show H1[H.size]? = some (vp_cell _ _); exact e1) z1 o1) ⟨Nat.le_trans hS.1 (by omega), fun x h1 h2 => (o1 x (Nat.lt_of_lt_of_le h1 hS.1)).trans (hS.2.1 x h1 h2), hS.2.2⟩ hl
theorem v_newZ (K : KX p m c cc nL s args cw own D cA) (r : Nat) {N : Nat} (hw : Cond.arrayClass .boolean ∈ G) (d : decode cc pc = .ok (.newarray .boolean, 2)) (hr : pic r = none) (hN : N < 2 ^ 20) (hcells : cells + 1 ≤ R.cells) (hslots : slots + N ≤ R.slots) (kk : ∀ (q : Nat) (pic1 : PIC), pic1 r = some (q, .inl (cA 2, N, .inl (fun _ => 0))) → (∀ z, z ≠ r → pic1 z = pic z) → V p l e R s m args below meth c Q D base nL pic1 lv (pc + 2) (.ref q :: st) (cells + 1) (slots + N)) : V p l e R s m args below meth c Q D base nL pic lv (pc) (.int (nI N) :: st) cells slots := by
  intro H locs ls hP hS hl
  have hN31 : N < 2 ^ 31 := Nat.lt_trans hN (by decide)
  refine va_newaK K.1.1 K.1.2.1 (atype := .boolean) (K.word hw) rfl d rfl (nI_pos hN31) (nI_clamp hN31) (by show N * componentBytes .boolean ≤ _; simp only [componentBytes]; omega) hcells hslots rfl fun H1 cX e1 z1 o1 hAr hNm => ?_
  have hcX : cX = cA 2 := Option.some.inj (hNm.symm.trans (K.2.1.2 2 _ rfl).2)
  subst hcX
  exact kk H.size _ (va_up_self _ _ _) (fun z hz => va_up_ne _ _ hz) H1 locs ls (hP.new r hr (by show H1[H.size]? = some (vp_cell _ _); exact e1) z1 o1) ⟨Nat.le_trans hS.1 (by omega), fun x h1 h2 => (o1 x (Nat.lt_of_lt_of_le h1 hS.1)).trans (hS.2.1 x h1 h2), hS.2.2⟩ hl
theorem v_newB (K : KX p m c cc nL s args cw own D cA) (r : Nat) {N index : Nat} (hcl : Cond.classLink own index RX0 ∈ G) (d : decode cc pc = .ok (.anewarray index, 3)) (hr : pic r = none) (hN : N < 2 ^ 20) (hcells : cells + 1 ≤ R.cells) (hslots : slots + N ≤ R.slots) (kk : ∀ (q : Nat) (pic1 : PIC), pic1 r = some (q, .inl (cA 3, N, .inr (.inr (.inr (.inr (fun _ => none)))))) → (∀ z, z ≠ r → pic1 z = pic z) → V p l e R s m args below meth c Q D base nL pic1 lv (pc + 3) (.ref q :: st) (cells + 1) (slots + N)) : V p l e R s m args below meth c Q D base nL pic lv (pc) (.int (nI N) :: st) cells slots := by
  intro H locs ls hP hS hl
  have hN31 : N < 2 ^ 31 := Nat.lt_trans hN (by decide)
  refine W.anew K.1.1 K.1.2.1 K.1.2.2.2.1 (K.word hcl) (va_AO.use K.2.2.1) rfl d rfl (nI_pos hN31) (by rw [nI_clamp hN31]; omega) hcells (by rw [nI_clamp hN31]; exact hslots) fun cX kA comp f1 f2 f3 f4 => ?_
  rw [nI_clamp hN31]
  obtain ⟨kA9, comp9, k1, k2, k3, k4⟩ := (K.2.1.2 3 _ rfl).2
  have hcX : cX = cA 3 := Option.some.inj (f1.symm.trans k4)
  subst hcX
  generalize hH1 : H.push ({ cls := cA 3, slots := Array.replicate N .null, vm := .none } : Cell) = H1
  have z1 : H1.size = H.size + 1 := by rw [← hH1, Array.size_push]
  have e1 : H1[H.size]? = some (arrV (cA 3) N (fun _ => .null)) := by rw [← hH1, Array.getElem?_push_size, ← arrV_new]
  have o1 : ∀ q : Nat, q < H.size → H1[q]? = H[q]? := fun q hq => by rw [← hH1, Array.getElem?_push, if_neg (Nat.ne_of_lt hq)]
  exact kk H.size _ (va_up_self _ _ _) (fun z hz => va_up_ne _ _ hz) H1 locs ls (hP.new r hr (by show H1[H.size]? = some (vp_cell _ _); rw [vp_cell_q]; exact e1) z1 o1) ⟨Nat.le_trans hS.1 (by omega), fun x h1 h2 => (o1 x (Nat.lt_of_lt_of_le h1 hS.1)).trans (hS.2.1 x h1 h2), hS.2.2⟩ hl
theorem v_newS (K : KX p m c cc nL s args cw own D cA) (r : Nat) {N index : Nat} (hcl : Cond.classLink own index RX3 ∈ G) (d : decode cc pc = .ok (.anewarray index, 3)) (hr : pic r = none) (hN : N < 2 ^ 20) (hcells : cells + 1 ≤ R.cells) (hslots : slots + N ≤ R.slots) (kk : ∀ (q : Nat) (pic1 : PIC), pic1 r = some (q, .inl (cA 4, N, .inr (.inr (.inr (.inr (fun _ => none)))))) → (∀ z, z ≠ r → pic1 z = pic z) → V p l e R s m args below meth c Q D base nL pic1 lv (pc + 3) (.ref q :: st) (cells + 1) (slots + N)) : V p l e R s m args below meth c Q D base nL pic lv (pc) (.int (nI N) :: st) cells slots := by
  intro H locs ls hP hS hl
  have hN31 : N < 2 ^ 31 := Nat.lt_trans hN (by decide)
  refine W.anew K.1.1 K.1.2.1 K.1.2.2.2.1 (K.word hcl) (va_AO.use K.2.2.2.1) rfl d rfl (nI_pos hN31) (by rw [nI_clamp hN31]; omega) hcells (by rw [nI_clamp hN31]; exact hslots) fun cX kA comp f1 f2 f3 f4 => ?_
  rw [nI_clamp hN31]
  obtain ⟨kA9, comp9, k1, k2, k3, k4⟩ := (K.2.1.2 4 _ rfl).2
  have hcX : cX = cA 4 := Option.some.inj (f1.symm.trans k4)
  subst hcX
  generalize hH1 : H.push ({ cls := cA 4, slots := Array.replicate N .null, vm := .none } : Cell) = H1
  have z1 : H1.size = H.size + 1 := by rw [← hH1, Array.size_push]
  have e1 : H1[H.size]? = some (arrV (cA 4) N (fun _ => .null)) := by rw [← hH1, Array.getElem?_push_size, ← arrV_new]
  have o1 : ∀ q : Nat, q < H.size → H1[q]? = H[q]? := fun q hq => by rw [← hH1, Array.getElem?_push, if_neg (Nat.ne_of_lt hq)]
  exact kk H.size _ (va_up_self _ _ _) (fun z hz => va_up_ne _ _ hz) H1 locs ls (hP.new r hr (by show H1[H.size]? = some (vp_cell _ _); rw [vp_cell_q]; exact e1) z1 o1) ⟨Nat.le_trans hS.1 (by omega), fun x h1 h2 => (o1 x (Nat.lt_of_lt_of_le h1 hS.1)).trans (hS.2.1 x h1 h2), hS.2.2⟩ hl
theorem v_new (K : KX p m c cc nL s args cw own D cA) (r : Nat) {C : String} {T : u_T} {N ci index : Nat} {fs : List Value} (ty : Nat → FieldType) (hty : ∀ k, k < N → parseFieldDescriptor (T k).2.2.1 = some (ty k)) (hc : vwCl[ci]? = some (C, T, N)) (hin : ∀ w ∈ u_ws C T N, w ∈ G) (hcl : Cond.classLink own index C ∈ G) (hinst : Cond.instantiable C N ∈ G) (hini : Cond.initialized C ∈ G) (hfs : ∀ j, j < N → defaultValue (ty j) = vp_V fs j) (d : decode cc pc = .ok (.new index, 3)) (hr : pic r = none) (hcells : cells + 1 ≤ R.cells) (hslots : slots + N ≤ R.slots) (kk : ∀ (q : Nat) (pic1 : PIC), pic1 r = some (q, .inr (ci, fs)) → (∀ z, z ≠ r → pic1 z = pic z) → V p l e R s m args below meth c Q D base nL pic1 lv (pc + 3) (.ref q :: st) (cells + 1) (slots + N)) : V p l e R s m args below meth c Q D base nL pic lv (pc) (st) cells slots := by
  intro H locs ls hP hS hl
  have hKn := K.2.1.1 ci _ hc
  refine W.newcK K.1.1 K.1.2.1 K.1.2.2.2.1 (K.word hcl) (K.word hinst) (K.word hini) rfl d hcells hslots hKn.2.1 rfl fun H1 kC hkC e1 z1 o1 => ?_
  exact kk H.size _ (va_up_self _ _ _) (fun z hz => va_up_ne _ _ hz) H1 locs ls (hP.new r hr ⟨_, hc, (u_born ty (fun w hw => K.word (hin w hw)) (fun _ h => h) hKn hkC e1 hty).to hfs⟩ z1 o1) ⟨Nat.le_trans hS.1 (by omega), fun x h1 h2 => (o1 x (Nat.lt_of_lt_of_le h1 hS.1)).trans (hS.2.1 x h1 h2), hS.2.2⟩ hl
theorem v_objInit (K : KX p m c cc nL s args cw own D cA) {a idx : Nat} (h1 : Cond.methodLink own idx Lib.objectInit ∈ G) (h2 : Cond.instanceMethod Lib.objectInit ∈ G) (h3 : Cond.code Lib.objectInit ⟨#[0xb1]⟩ 1 none ∈ G) (d : decode cc pc = .ok (.invokespecial idx, 3)) (hf : 1 ≤ R.frames) (hl9 : (st.map fun v => v.category).sum + 12 ≤ R.locals) (k : V p l e R s m args below meth c Q D base nL pic lv (pc + 3) (st) cells slots) : V p l e R s m args below meth c Q D base nL pic lv (pc) (.ref a :: st) cells slots := fun H locs ls hP hS hl => W.objInit K.1.1 K.1.2.1 K.1.2.2.2.1 (K.word h1) (K.word h2) (K.word h3) rfl (by rw [K.1.2.2.1]; exact hl.1) rfl d hf (by show 2 * 0 + _ + 12 ≤ _; omega) (k H locs ls hP hS hl)
theorem v_min (K : KX p m c cc nL s args cw own D cA) {x y : Int32} {idx : Nat} (h1 : Cond.methodLink own idx Lib.Math.min.name ∈ G) (h2 : Cond.static Lib.Math.min.name ∈ G) (h3 : Cond.initialized "java/lang/Math" ∈ G) (h4 : Cond.code Lib.Math.min.name Lib.Math.min.code 2 (some .int) ∈ G) (d : decode cc pc = .ok (.invokestatic idx, 3)) (hf : 1 ≤ R.frames) (hl9 : (st.map fun v => v.category).sum + 13 ≤ R.locals) (hc : cells ≤ R.cells) (hs : slots ≤ R.slots) (k : V p l e R s m args below meth c Q D base nL pic lv (pc + 3) (.int (if y < x then y else x) :: st) cells slots) : V p l e R s m args below meth c Q D base nL pic lv (pc) (.int y :: .int x :: st) cells slots := fun H locs ls hP hS hl => va_mmin K.1.1 K.1.2.1 (by rw [K.1.2.2.1]; exact hl.1.symm) K.1.2.2.2.1 (K.word h1) (K.word h2) (K.word h3) (K.word h4) hf hl9 hc hs d (k H locs ls hP hS hl)
abbrev FA (base : Nat) : Nat → Prop := fun q => base ≤ q
def PreC (D : va_G) (cA : Nat → ClassId) (base : Nat) (pic : PIC) (As : List Value) : Array Value → State → Prop := va_Pc As (fun U => KK D cA U ∧ WO D base pic U.heap)
theorem PreC.blind (As : List Value) : FrameBlind (PreC D cA base pic As) := fun a U g mk h => ⟨h.1, KK.calling g mk a h.2.1, h.2.2⟩
def CI (l : Launch) (y : MethodName) (cd : ByteArray) (n : Nat) (ret : Option FieldType) (rm : Room) (mc ms : Nat) (D : va_G) (cA : Nat → ClassId) (base : Nat) (pic : PIC) (As : List Value) (post : Int32 → PIC → Prop) : Prop := Met l y (.code y cd n ret :: G) rm (PreC D cA base pic As) (va_Qi post (fun pic1 t => WO D base pic1 t.heap) (FA base)) mc ms (FA base)
def CL (l : Launch) (y : MethodName) (cd : ByteArray) (n : Nat) (ret : Option FieldType) (rm : Room) (mc ms : Nat) (D : va_G) (cA : Nat → ClassId) (base : Nat) (pic : PIC) (As : List Value) (post : Int64 → PIC → Prop) : Prop := Met l y (.code y cd n ret :: G) rm (PreC D cA base pic As) (va_Ql post (fun pic1 t => WO D base pic1 t.heap) (FA base)) mc ms (FA base)
def CQ (l : Launch) (y : MethodName) (cd : ByteArray) (n : Nat) (ret : Option FieldType) (rm : Room) (mc ms : Nat) (D : va_G) (cA : Nat → ClassId) (base : Nat) (pic : PIC) (As : List Value) (post : Option Nat → PIC → Prop) : Prop := Met l y (.code y cd n ret :: G) rm (PreC D cA base pic As) (va_Qq post (fun pic1 t => WO D base pic1 t.heap) (FA base)) mc ms (FA base)
def CV (l : Launch) (y : MethodName) (cd : ByteArray) (n : Nat) (ret : Option FieldType) (rm : Room) (mc ms : Nat) (D : va_G) (cA : Nat → ClassId) (base : Nat) (pic : PIC) (As : List Value) (post : PIC → Prop) : Prop := Met l y (.code y cd n ret :: G) rm (PreC D cA base pic As) (va_Qv post (fun pic1 t => WO D base pic1 t.heap) (FA base)) mc ms (FA base)
theorem G_sub {y : MethodName} {cd : ByteArray} {n : Nat} {ret : Option FieldType} (h : Cond.code y cd n ret ∈ G) : GoodIn (cw :: G) (.code y cd n ret :: G) := fun w hw => by
  rcases List.mem_cons.mp hw with rfl | hw
  · exact ⟨List.mem_cons_of_mem _ h, G_good _ h⟩
  · exact ⟨List.mem_cons_of_mem _ hw, G_good _ hw⟩
theorem G_V {index : Nat} {C : String} {y : MethodName} {cd : ByteArray} {n : Nat} {ret : Option FieldType} (h1 : Cond.methodLink own index y ∈ G) (h2 : Cond.instanceMethod y ∈ G) (h3 : Cond.selects C y y ∈ G) (h4 : Cond.initialized C ∈ G) (h : Cond.code y cd n ret ∈ G) : GoodIn (cw :: G) (wsV own index C y (.code y cd n ret :: G)) := fun w hw => by
  unfold wsV at hw
  rcases List.mem_append.mp hw with hw | hw
  · simp only [List.mem_cons, List.not_mem_nil, or_false] at hw
    rcases hw with rfl | rfl | rfl | rfl
    · exact ⟨List.mem_cons_of_mem _ h1, G_good _ h1⟩
    · exact ⟨List.mem_cons_of_mem _ h2, G_good _ h2⟩
    · exact ⟨List.mem_cons_of_mem _ h3, G_good _ h3⟩
    · exact ⟨List.mem_cons_of_mem _ h4, G_good _ h4⟩
  · exact G_sub h w hw
theorem G_S {index : Nat} {y : MethodName} {cd : ByteArray} {n : Nat} {ret : Option FieldType} (h1 : Cond.methodLink own index y ∈ G) (h2 : Cond.static y ∈ G) (h4 : Cond.initialized y.cls ∈ G) (h : Cond.code y cd n ret ∈ G) : GoodIn (cw :: G) (va_wsS own index y (.code y cd n ret :: G)) := fun w hw => by
  unfold va_wsS at hw
  rcases List.mem_append.mp hw with hw | hw
  · simp only [List.mem_cons, List.not_mem_nil, or_false] at hw
    rcases hw with rfl | rfl | rfl
    · exact ⟨List.mem_cons_of_mem _ h1, G_good _ h1⟩
    · exact ⟨List.mem_cons_of_mem _ h2, G_good _ h2⟩
    · exact ⟨List.mem_cons_of_mem _ h4, G_good _ h4⟩
  · exact G_sub h w hw
theorem v_callVI (K : KX p m c cc nL s args cw own D cA) {index n mc ms : Nat} {y : MethodName} {cd : ByteArray} {ret : Option FieldType} {rm : Room} {As st0 : List Value} {post : Int32 → PIC → Prop} {C : String} {T : u_T} {N ci r b : Nat} {fs : List Value} (h1 : Cond.methodLink own index y ∈ G) (h2 : Cond.instanceMethod y ∈ G) (h3 : Cond.selects C y y ∈ G) (h4 : Cond.initialized C ∈ G) (h5 : Cond.code y cd n ret ∈ G) (hc : vwCl[ci]? = some (C, T, N)) (hd : y.cls = C ∧ y.cls ≠ "java/lang/invoke/MethodHandle" ∧ y.cls ≠ "java/lang/invoke/VarHandle" ∧ (parseMethodDescriptor y.desc).map (fun d => d.parameters.length) = some As.length) (d : decode cc pc = .ok (.invokevirtual index, 3)) (he : pic r = some (b, .inr (ci, fs))) (hM : CI l y cd n ret rm mc ms D cA base pic (.ref b :: As) post) (hrc : rm.cells = mc) (hrs : rm.slots = ms) (hrm : rm.frames + 1 ≤ R.frames ∧ 8 + (n + 11) + rm.locals ≤ R.locals) (hst : st0 = As.reverse ++ .ref b :: st) (hcat : (st.map fun v => v.category).sum ≤ 8) (hcs : cells + mc ≤ R.cells ∧ slots + ms ≤ R.slots) (kk : ∀ (x : Int32) (pic1 : PIC), post x pic1 → V p l e R s m args below meth c Q D base nL pic1 lv (pc + 3) (.int x :: st) (cells + mc) (slots + ms)) : V p l e R s m args below meth c Q D base nL pic lv (pc) (st0) cells slots :=
  fun H locs ls hP hS hl => va_calli (va_runV (As := As) (rest := st) K.1 hM (cwV As.length K.1.2.2.2.2 (G_V h1 h2 h3 h4 h5) rfl hrc hrs hd hrm) ⟨PreC.blind _, va_recv K.2.1 (hP.one he) (q0 := 0) hc rfl, fun U hU hW => ⟨rfl, K.2.moved hW, by rw [hU]; exact hP⟩⟩ rfl rfl hl.1 hst (lv_room hcat) d hcs) hS (fun q _ h => h) (fun q h => h) (fun x pic1 t H1 locs1 ht hvm hw hB hz1 hk1 hS1 => kk x pic1 hw H1 locs1 ls (ht ▸ hB) hS1 hl)
theorem v_callSI (K : KX p m c cc nL s args cw own D cA) {index n mc ms : Nat} {y : MethodName} {cd : ByteArray} {ret : Option FieldType} {rm : Room} {As st0 : List Value} {post : Int32 → PIC → Prop}  (h1 : Cond.methodLink own index y ∈ G) (h2 : Cond.static y ∈ G) (h4 : Cond.initialized y.cls ∈ G) (h5 : Cond.code y cd n ret ∈ G) (hd : y.cls ≠ "java/lang/invoke/MethodHandle" ∧ y.cls ≠ "java/lang/invoke/VarHandle" ∧ (parseMethodDescriptor y.desc).map (fun d => d.parameters.length) = some As.length) (d : decode cc pc = .ok (.invokestatic index, 3)) (hM : CI l y cd n ret rm mc ms D cA base pic (As) post) (hrc : rm.cells = mc) (hrs : rm.slots = ms) (hrm : rm.frames + 1 ≤ R.frames ∧ 8 + (n + 11) + rm.locals ≤ R.locals) (hst : st0 = As.reverse ++ st) (hcat : (st.map fun v => v.category).sum ≤ 8) (hcs : cells + mc ≤ R.cells ∧ slots + ms ≤ R.slots) (kk : ∀ (x : Int32) (pic1 : PIC), post x pic1 → V p l e R s m args below meth c Q D base nL pic1 lv (pc + 3) (.int x :: st) (cells + mc) (slots + ms)) : V p l e R s m args below meth c Q D base nL pic lv (pc) (st0) cells slots :=
  fun H locs ls hP hS hl => va_calli (va_runS (As := As) (rest := st) K.1 hM (va_cwS As.length K.1.2.2.2.2 (G_S h1 h2 h4 h5) rfl hrc hrs hd hrm) ⟨PreC.blind _, fun U hU hW => ⟨rfl, K.2.moved hW, by rw [hU]; exact hP⟩⟩ rfl rfl hl.1 hst (lv_room hcat) d hcs) hS (fun q _ h => h) (fun q h => h) (fun x pic1 t H1 locs1 ht hvm hw hB hz1 hk1 hS1 => kk x pic1 hw H1 locs1 ls (ht ▸ hB) hS1 hl)
theorem v_callSNI (K : KX p m c cc nL s args cw own D cA) {index n mc ms : Nat} {y : MethodName} {cd : ByteArray} {ret : Option FieldType} {rm : Room} {As st0 : List Value} {post : Int32 → PIC → Prop} {host : String} (h1 : Cond.methodLinkNest own index y host ∈ nestW) (h2 : Cond.static y ∈ G) (h4 : Cond.initialized y.cls ∈ G) (h5 : Cond.code y cd n ret ∈ G) (hd : y.cls ≠ "java/lang/invoke/MethodHandle" ∧ y.cls ≠ "java/lang/invoke/VarHandle" ∧ (parseMethodDescriptor y.desc).map (fun d => d.parameters.length) = some As.length) (d : decode cc pc = .ok (.invokestatic index, 3)) (hM : CI l y cd n ret rm mc ms D cA base pic (As) post) (hrc : rm.cells = mc) (hrs : rm.slots = ms) (hrm : rm.frames + 1 ≤ R.frames ∧ 8 + (n + 11) + rm.locals ≤ R.locals) (hst : st0 = As.reverse ++ st) (hcat : (st.map fun v => v.category).sum ≤ 8) (hcs : cells + mc ≤ R.cells ∧ slots + ms ≤ R.slots) (kk : ∀ (x : Int32) (pic1 : PIC), post x pic1 → V p l e R s m args below meth c Q D base nL pic1 lv (pc + 3) (.int x :: st) (cells + mc) (slots + ms)) : V p l e R s m args below meth c Q D base nL pic lv (pc) (st0) cells slots :=
  fun H locs ls hP hS hl => va_calli (va_runSN (As := As) (rest := st) K.1 hM ⟨va_cnB As.length K.1.2.2.2.2 (G_sub h5) rfl hrc hrs (K.2.2.2.2 _ h1) (K.word h4) hd hrm, K.word h2, trivial⟩ ⟨PreC.blind _, fun U hU hW => ⟨rfl, K.2.moved hW, by rw [hU]; exact hP⟩⟩ rfl rfl hl.1 hst (lv_room hcat) d hcs) hS (fun q _ h => h) (fun q h => h) (fun x pic1 t H1 locs1 ht hvm hw hB hz1 hk1 hS1 => kk x pic1 hw H1 locs1 ls (ht ▸ hB) hS1 hl)
theorem v_callVL (K : KX p m c cc nL s args cw own D cA) {index n mc ms : Nat} {y : MethodName} {cd : ByteArray} {ret : Option FieldType} {rm : Room} {As st0 : List Value} {post : Int64 → PIC → Prop} {C : String} {T : u_T} {N ci r b : Nat} {fs : List Value} (h1 : Cond.methodLink own index y ∈ G) (h2 : Cond.instanceMethod y ∈ G) (h3 : Cond.selects C y y ∈ G) (h4 : Cond.initialized C ∈ G) (h5 : Cond.code y cd n ret ∈ G) (hc : vwCl[ci]? = some (C, T, N)) (hd : y.cls = C ∧ y.cls ≠ "java/lang/invoke/MethodHandle" ∧ y.cls ≠ "java/lang/invoke/VarHandle" ∧ (parseMethodDescriptor y.desc).map (fun d => d.parameters.length) = some As.length) (d : decode cc pc = .ok (.invokevirtual index, 3)) (he : pic r = some (b, .inr (ci, fs))) (hM : CL l y cd n ret rm mc ms D cA base pic (.ref b :: As) post) (hrc : rm.cells = mc) (hrs : rm.slots = ms) (hrm : rm.frames + 1 ≤ R.frames ∧ 8 + (n + 11) + rm.locals ≤ R.locals) (hst : st0 = As.reverse ++ .ref b :: st) (hcat : (st.map fun v => v.category).sum ≤ 8) (hcs : cells + mc ≤ R.cells ∧ slots + ms ≤ R.slots) (kk : ∀ (x : Int64) (pic1 : PIC), post x pic1 → V p l e R s m args below meth c Q D base nL pic1 lv (pc + 3) (.long x :: st) (cells + mc) (slots + ms)) : V p l e R s m args below meth c Q D base nL pic lv (pc) (st0) cells slots :=
  fun H locs ls hP hS hl => va_calll (va_runV (As := As) (rest := st) K.1 hM (cwV As.length K.1.2.2.2.2 (G_V h1 h2 h3 h4 h5) rfl hrc hrs hd hrm) ⟨PreC.blind _, va_recv K.2.1 (hP.one he) (q0 := 0) hc rfl, fun U hU hW => ⟨rfl, K.2.moved hW, by rw [hU]; exact hP⟩⟩ rfl rfl hl.1 hst (lv_room hcat) d hcs) hS (fun q _ h => h) (fun q h => h) (fun x pic1 t H1 locs1 ht hvm hw hB hz1 hk1 hS1 => kk x pic1 hw H1 locs1 ls (ht ▸ hB) hS1 hl)
theorem v_callSL (K : KX p m c cc nL s args cw own D cA) {index n mc ms : Nat} {y : MethodName} {cd : ByteArray} {ret : Option FieldType} {rm : Room} {As st0 : List Value} {post : Int64 → PIC → Prop}  (h1 : Cond.methodLink own index y ∈ G) (h2 : Cond.static y ∈ G) (h4 : Cond.initialized y.cls ∈ G) (h5 : Cond.code y cd n ret ∈ G) (hd : y.cls ≠ "java/lang/invoke/MethodHandle" ∧ y.cls ≠ "java/lang/invoke/VarHandle" ∧ (parseMethodDescriptor y.desc).map (fun d => d.parameters.length) = some As.length) (d : decode cc pc = .ok (.invokestatic index, 3)) (hM : CL l y cd n ret rm mc ms D cA base pic (As) post) (hrc : rm.cells = mc) (hrs : rm.slots = ms) (hrm : rm.frames + 1 ≤ R.frames ∧ 8 + (n + 11) + rm.locals ≤ R.locals) (hst : st0 = As.reverse ++ st) (hcat : (st.map fun v => v.category).sum ≤ 8) (hcs : cells + mc ≤ R.cells ∧ slots + ms ≤ R.slots) (kk : ∀ (x : Int64) (pic1 : PIC), post x pic1 → V p l e R s m args below meth c Q D base nL pic1 lv (pc + 3) (.long x :: st) (cells + mc) (slots + ms)) : V p l e R s m args below meth c Q D base nL pic lv (pc) (st0) cells slots :=
  fun H locs ls hP hS hl => va_calll (va_runS (As := As) (rest := st) K.1 hM (va_cwS As.length K.1.2.2.2.2 (G_S h1 h2 h4 h5) rfl hrc hrs hd hrm) ⟨PreC.blind _, fun U hU hW => ⟨rfl, K.2.moved hW, by rw [hU]; exact hP⟩⟩ rfl rfl hl.1 hst (lv_room hcat) d hcs) hS (fun q _ h => h) (fun q h => h) (fun x pic1 t H1 locs1 ht hvm hw hB hz1 hk1 hS1 => kk x pic1 hw H1 locs1 ls (ht ▸ hB) hS1 hl)
theorem v_callSNL (K : KX p m c cc nL s args cw own D cA) {index n mc ms : Nat} {y : MethodName} {cd : ByteArray} {ret : Option FieldType} {rm : Room} {As st0 : List Value} {post : Int64 → PIC → Prop} {host : String} (h1 : Cond.methodLinkNest own index y host ∈ nestW) (h2 : Cond.static y ∈ G) (h4 : Cond.initialized y.cls ∈ G) (h5 : Cond.code y cd n ret ∈ G) (hd : y.cls ≠ "java/lang/invoke/MethodHandle" ∧ y.cls ≠ "java/lang/invoke/VarHandle" ∧ (parseMethodDescriptor y.desc).map (fun d => d.parameters.length) = some As.length) (d : decode cc pc = .ok (.invokestatic index, 3)) (hM : CL l y cd n ret rm mc ms D cA base pic (As) post) (hrc : rm.cells = mc) (hrs : rm.slots = ms) (hrm : rm.frames + 1 ≤ R.frames ∧ 8 + (n + 11) + rm.locals ≤ R.locals) (hst : st0 = As.reverse ++ st) (hcat : (st.map fun v => v.category).sum ≤ 8) (hcs : cells + mc ≤ R.cells ∧ slots + ms ≤ R.slots) (kk : ∀ (x : Int64) (pic1 : PIC), post x pic1 → V p l e R s m args below meth c Q D base nL pic1 lv (pc + 3) (.long x :: st) (cells + mc) (slots + ms)) : V p l e R s m args below meth c Q D base nL pic lv (pc) (st0) cells slots :=
  fun H locs ls hP hS hl => va_calll (va_runSN (As := As) (rest := st) K.1 hM ⟨va_cnB As.length K.1.2.2.2.2 (G_sub h5) rfl hrc hrs (K.2.2.2.2 _ h1) (K.word h4) hd hrm, K.word h2, trivial⟩ ⟨PreC.blind _, fun U hU hW => ⟨rfl, K.2.moved hW, by rw [hU]; exact hP⟩⟩ rfl rfl hl.1 hst (lv_room hcat) d hcs) hS (fun q _ h => h) (fun q h => h) (fun x pic1 t H1 locs1 ht hvm hw hB hz1 hk1 hS1 => kk x pic1 hw H1 locs1 ls (ht ▸ hB) hS1 hl)
theorem v_callVV (K : KX p m c cc nL s args cw own D cA) {index n mc ms : Nat} {y : MethodName} {cd : ByteArray} {ret : Option FieldType} {rm : Room} {As st0 : List Value} {post : PIC → Prop} {C : String} {T : u_T} {N ci r b : Nat} {fs : List Value} (h1 : Cond.methodLink own index y ∈ G) (h2 : Cond.instanceMethod y ∈ G) (h3 : Cond.selects C y y ∈ G) (h4 : Cond.initialized C ∈ G) (h5 : Cond.code y cd n ret ∈ G) (hc : vwCl[ci]? = some (C, T, N)) (hd : y.cls = C ∧ y.cls ≠ "java/lang/invoke/MethodHandle" ∧ y.cls ≠ "java/lang/invoke/VarHandle" ∧ (parseMethodDescriptor y.desc).map (fun d => d.parameters.length) = some As.length) (d : decode cc pc = .ok (.invokevirtual index, 3)) (he : pic r = some (b, .inr (ci, fs))) (hM : CV l y cd n ret rm mc ms D cA base pic (.ref b :: As) post) (hrc : rm.cells = mc) (hrs : rm.slots = ms) (hrm : rm.frames + 1 ≤ R.frames ∧ 8 + (n + 11) + rm.locals ≤ R.locals) (hst : st0 = As.reverse ++ .ref b :: st) (hcat : (st.map fun v => v.category).sum ≤ 8) (hcs : cells + mc ≤ R.cells ∧ slots + ms ≤ R.slots) (kk : ∀ pic1 : PIC, post pic1 → V p l e R s m args below meth c Q D base nL pic1 lv (pc + 3) (st) (cells + mc) (slots + ms)) : V p l e R s m args below meth c Q D base nL pic lv (pc) (st0) cells slots :=
  fun H locs ls hP hS hl => va_callv (va_runV (As := As) (rest := st) K.1 hM (cwV As.length K.1.2.2.2.2 (G_V h1 h2 h3 h4 h5) rfl hrc hrs hd hrm) ⟨PreC.blind _, va_recv K.2.1 (hP.one he) (q0 := 0) hc rfl, fun U hU hW => ⟨rfl, K.2.moved hW, by rw [hU]; exact hP⟩⟩ rfl rfl hl.1 hst (lv_room hcat) d hcs) hS (fun q _ h => h) (fun q h => h) (fun pic1 t H1 locs1 ht hvm hw hB hz1 hk1 hS1 => kk pic1 hw H1 locs1 ls (ht ▸ hB) hS1 hl)
theorem v_callSV (K : KX p m c cc nL s args cw own D cA) {index n mc ms : Nat} {y : MethodName} {cd : ByteArray} {ret : Option FieldType} {rm : Room} {As st0 : List Value} {post : PIC → Prop}  (h1 : Cond.methodLink own index y ∈ G) (h2 : Cond.static y ∈ G) (h4 : Cond.initialized y.cls ∈ G) (h5 : Cond.code y cd n ret ∈ G) (hd : y.cls ≠ "java/lang/invoke/MethodHandle" ∧ y.cls ≠ "java/lang/invoke/VarHandle" ∧ (parseMethodDescriptor y.desc).map (fun d => d.parameters.length) = some As.length) (d : decode cc pc = .ok (.invokestatic index, 3)) (hM : CV l y cd n ret rm mc ms D cA base pic (As) post) (hrc : rm.cells = mc) (hrs : rm.slots = ms) (hrm : rm.frames + 1 ≤ R.frames ∧ 8 + (n + 11) + rm.locals ≤ R.locals) (hst : st0 = As.reverse ++ st) (hcat : (st.map fun v => v.category).sum ≤ 8) (hcs : cells + mc ≤ R.cells ∧ slots + ms ≤ R.slots) (kk : ∀ pic1 : PIC, post pic1 → V p l e R s m args below meth c Q D base nL pic1 lv (pc + 3) (st) (cells + mc) (slots + ms)) : V p l e R s m args below meth c Q D base nL pic lv (pc) (st0) cells slots :=
  fun H locs ls hP hS hl => va_callv (va_runS (As := As) (rest := st) K.1 hM (va_cwS As.length K.1.2.2.2.2 (G_S h1 h2 h4 h5) rfl hrc hrs hd hrm) ⟨PreC.blind _, fun U hU hW => ⟨rfl, K.2.moved hW, by rw [hU]; exact hP⟩⟩ rfl rfl hl.1 hst (lv_room hcat) d hcs) hS (fun q _ h => h) (fun q h => h) (fun pic1 t H1 locs1 ht hvm hw hB hz1 hk1 hS1 => kk pic1 hw H1 locs1 ls (ht ▸ hB) hS1 hl)
theorem v_callSNV (K : KX p m c cc nL s args cw own D cA) {index n mc ms : Nat} {y : MethodName} {cd : ByteArray} {ret : Option FieldType} {rm : Room} {As st0 : List Value} {post : PIC → Prop} {host : String} (h1 : Cond.methodLinkNest own index y host ∈ nestW) (h2 : Cond.static y ∈ G) (h4 : Cond.initialized y.cls ∈ G) (h5 : Cond.code y cd n ret ∈ G) (hd : y.cls ≠ "java/lang/invoke/MethodHandle" ∧ y.cls ≠ "java/lang/invoke/VarHandle" ∧ (parseMethodDescriptor y.desc).map (fun d => d.parameters.length) = some As.length) (d : decode cc pc = .ok (.invokestatic index, 3)) (hM : CV l y cd n ret rm mc ms D cA base pic (As) post) (hrc : rm.cells = mc) (hrs : rm.slots = ms) (hrm : rm.frames + 1 ≤ R.frames ∧ 8 + (n + 11) + rm.locals ≤ R.locals) (hst : st0 = As.reverse ++ st) (hcat : (st.map fun v => v.category).sum ≤ 8) (hcs : cells + mc ≤ R.cells ∧ slots + ms ≤ R.slots) (kk : ∀ pic1 : PIC, post pic1 → V p l e R s m args below meth c Q D base nL pic1 lv (pc + 3) (st) (cells + mc) (slots + ms)) : V p l e R s m args below meth c Q D base nL pic lv (pc) (st0) cells slots :=
  fun H locs ls hP hS hl => va_callv (va_runSN (As := As) (rest := st) K.1 hM ⟨va_cnB As.length K.1.2.2.2.2 (G_sub h5) rfl hrc hrs (K.2.2.2.2 _ h1) (K.word h4) hd hrm, K.word h2, trivial⟩ ⟨PreC.blind _, fun U hU hW => ⟨rfl, K.2.moved hW, by rw [hU]; exact hP⟩⟩ rfl rfl hl.1 hst (lv_room hcat) d hcs) hS (fun q _ h => h) (fun q h => h) (fun pic1 t H1 locs1 ht hvm hw hB hz1 hk1 hS1 => kk pic1 hw H1 locs1 ls (ht ▸ hB) hS1 hl)
theorem v_callVQ (K : KX p m c cc nL s args cw own D cA) {index n mc ms : Nat} {y : MethodName} {cd : ByteArray} {ret : Option FieldType} {rm : Room} {As st0 : List Value} {post : Option Nat → PIC → Prop} {C : String} {T : u_T} {N ci r b : Nat} {fs : List Value} (h1 : Cond.methodLink own index y ∈ G) (h2 : Cond.instanceMethod y ∈ G) (h3 : Cond.selects C y y ∈ G) (h4 : Cond.initialized C ∈ G) (h5 : Cond.code y cd n ret ∈ G) (hc : vwCl[ci]? = some (C, T, N)) (hd : y.cls = C ∧ y.cls ≠ "java/lang/invoke/MethodHandle" ∧ y.cls ≠ "java/lang/invoke/VarHandle" ∧ (parseMethodDescriptor y.desc).map (fun d => d.parameters.length) = some As.length) (d : decode cc pc = .ok (.invokevirtual index, 3)) (he : pic r = some (b, .inr (ci, fs))) (hM : CQ l y cd n ret rm mc ms D cA base pic (.ref b :: As) post) (hrc : rm.cells = mc) (hrs : rm.slots = ms) (hrm : rm.frames + 1 ≤ R.frames ∧ 8 + (n + 11) + rm.locals ≤ R.locals) (hst : st0 = As.reverse ++ .ref b :: st) (hcat : (st.map fun v => v.category).sum ≤ 8) (hcs : cells + mc ≤ R.cells ∧ slots + ms ≤ R.slots) (kk : ∀ (x : Option Nat) (pic1 : PIC), post x pic1 → V p l e R s m args below meth c Q D base nL pic1 lv (pc + 3) (va_rf x :: st) (cells + mc) (slots + ms)) : V p l e R s m args below meth c Q D base nL pic lv (pc) (st0) cells slots :=
  fun H locs ls hP hS hl => va_callq (va_runV (As := As) (rest := st) K.1 hM (cwV As.length K.1.2.2.2.2 (G_V h1 h2 h3 h4 h5) rfl hrc hrs hd hrm) ⟨PreC.blind _, va_recv K.2.1 (hP.one he) (q0 := 0) hc rfl, fun U hU hW => ⟨rfl, K.2.moved hW, by rw [hU]; exact hP⟩⟩ rfl rfl hl.1 hst (lv_room hcat) d hcs) hS (fun q _ h => h) (fun q h => h) (fun x pic1 t H1 locs1 ht hvm hw hB hz1 hk1 hS1 => kk x pic1 hw H1 locs1 ls (ht ▸ hB) hS1 hl)
theorem v_callSQ (K : KX p m c cc nL s args cw own D cA) {index n mc ms : Nat} {y : MethodName} {cd : ByteArray} {ret : Option FieldType} {rm : Room} {As st0 : List Value} {post : Option Nat → PIC → Prop}  (h1 : Cond.methodLink own index y ∈ G) (h2 : Cond.static y ∈ G) (h4 : Cond.initialized y.cls ∈ G) (h5 : Cond.code y cd n ret ∈ G) (hd : y.cls ≠ "java/lang/invoke/MethodHandle" ∧ y.cls ≠ "java/lang/invoke/VarHandle" ∧ (parseMethodDescriptor y.desc).map (fun d => d.parameters.length) = some As.length) (d : decode cc pc = .ok (.invokestatic index, 3)) (hM : CQ l y cd n ret rm mc ms D cA base pic (As) post) (hrc : rm.cells = mc) (hrs : rm.slots = ms) (hrm : rm.frames + 1 ≤ R.frames ∧ 8 + (n + 11) + rm.locals ≤ R.locals) (hst : st0 = As.reverse ++ st) (hcat : (st.map fun v => v.category).sum ≤ 8) (hcs : cells + mc ≤ R.cells ∧ slots + ms ≤ R.slots) (kk : ∀ (x : Option Nat) (pic1 : PIC), post x pic1 → V p l e R s m args below meth c Q D base nL pic1 lv (pc + 3) (va_rf x :: st) (cells + mc) (slots + ms)) : V p l e R s m args below meth c Q D base nL pic lv (pc) (st0) cells slots :=
  fun H locs ls hP hS hl => va_callq (va_runS (As := As) (rest := st) K.1 hM (va_cwS As.length K.1.2.2.2.2 (G_S h1 h2 h4 h5) rfl hrc hrs hd hrm) ⟨PreC.blind _, fun U hU hW => ⟨rfl, K.2.moved hW, by rw [hU]; exact hP⟩⟩ rfl rfl hl.1 hst (lv_room hcat) d hcs) hS (fun q _ h => h) (fun q h => h) (fun x pic1 t H1 locs1 ht hvm hw hB hz1 hk1 hS1 => kk x pic1 hw H1 locs1 ls (ht ▸ hB) hS1 hl)
theorem v_callIV (K : KX p m c cc nL s args cw own D cA) {index n mc ms : Nat} {y : MethodName} {cd : ByteArray} {ret : Option FieldType} {rm : Room} {As st0 : List Value} {post : PIC → Prop} {b : Nat} (h1 : Cond.methodLink own index y ∈ G) (h2 : Cond.instanceMethod y ∈ G) (h4 : Cond.initialized y.cls ∈ G) (h5 : Cond.code y cd n none ∈ G) (hret : ret = none) (hy : y.name = "<init>") (hd : y.cls ≠ "java/lang/invoke/MethodHandle" ∧ y.cls ≠ "java/lang/invoke/VarHandle" ∧ (parseMethodDescriptor y.desc).map (fun d => d.parameters.length) = some As.length) (d : decode cc pc = .ok (.invokespecial index, 3)) (hM : CV l y cd n ret rm mc ms D cA base pic (.ref b :: As) post) (hrc : rm.cells = mc) (hrs : rm.slots = ms) (hrm : rm.frames + 1 ≤ R.frames ∧ 8 + (n + 11) + rm.locals ≤ R.locals) (hst : st0 = As.reverse ++ .ref b :: st) (hcat : (st.map fun v => v.category).sum ≤ 8) (hcs : cells + mc ≤ R.cells ∧ slots + ms ≤ R.slots) (kk : ∀ pic1 : PIC, post pic1 → V p l e R s m args below meth c Q D base nL pic1 lv (pc + 3) (st) (cells + mc) (slots + ms)) : V p l e R s m args below meth c Q D base nL pic lv (pc) (st0) cells slots :=
  fun H locs ls hP hS hl => va_callv (va_runI (As := As) (rest := st) K.1 (hret ▸ hM : CV l y cd n none rm mc ms D cA base pic (.ref b :: As) post) (cwI As.length K.1.2.2.2.2 (G_sub h5) rfl hrc hrs (K.word h4) (K.word h1) (K.word h2) hy hd hrm) ⟨PreC.blind _, fun U hU hW => ⟨rfl, K.2.moved hW, by rw [hU]; exact hP⟩⟩ rfl rfl hl.1 hst (lv_room hcat) d hcs) hS (fun q _ h => h) (fun q h => h) (fun pic1 t H1 locs1 ht hvm hw hB hz1 hk1 hS1 => kk pic1 hw H1 locs1 ls (ht ▸ hB) hS1 hl)
theorem v_callINV (K : KX p m c cc nL s args cw own D cA) {index n mc ms : Nat} {y : MethodName} {cd : ByteArray} {ret : Option FieldType} {rm : Room} {As st0 : List Value} {post : PIC → Prop} {b : Nat} {host : String} (h1 : Cond.methodLinkNest own index y host ∈ nestW) (h2 : Cond.instanceMethod y ∈ G) (h4 : Cond.initialized y.cls ∈ G) (h5 : Cond.code y cd n none ∈ G) (hret : ret = none) (hy : y.name = "<init>") (hd : y.cls ≠ "java/lang/invoke/MethodHandle" ∧ y.cls ≠ "java/lang/invoke/VarHandle" ∧ (parseMethodDescriptor y.desc).map (fun d => d.parameters.length) = some As.length) (d : decode cc pc = .ok (.invokespecial index, 3)) (hM : CV l y cd n ret rm mc ms D cA base pic (.ref b :: As) post) (hrc : rm.cells = mc) (hrs : rm.slots = ms) (hrm : rm.frames + 1 ≤ R.frames ∧ 8 + (n + 11) + rm.locals ≤ R.locals) (hst : st0 = As.reverse ++ .ref b :: st) (hcat : (st.map fun v => v.category).sum ≤ 8) (hcs : cells + mc ≤ R.cells ∧ slots + ms ≤ R.slots) (kk : ∀ pic1 : PIC, post pic1 → V p l e R s m args below meth c Q D base nL pic1 lv (pc + 3) (st) (cells + mc) (slots + ms)) : V p l e R s m args below meth c Q D base nL pic lv (pc) (st0) cells slots :=
  fun H locs ls hP hS hl => va_callv (va_runIN (As := As) (rest := st) K.1 (hret ▸ hM : CV l y cd n none rm mc ms D cA base pic (.ref b :: As) post) ⟨va_cnB As.length K.1.2.2.2.2 (G_sub h5) rfl hrc hrs (K.2.2.2.2 _ h1) (K.word h4) hd hrm, hy, K.word h2⟩ ⟨PreC.blind _, fun U hU hW => ⟨rfl, K.2.moved hW, by rw [hU]; exact hP⟩⟩ rfl rfl hl.1 hst (lv_room hcat) d hcs) hS (fun q _ h => h) (fun q h => h) (fun pic1 t H1 locs1 ht hvm hw hB hz1 hk1 hS1 => kk pic1 hw H1 locs1 ls (ht ▸ hB) hS1 hl)
theorem v_iret (K : KX p m c cc nL s args cw own D cA) {v : Int32} {mc ms : Nat} {post : Int32 → PIC → Prop} (d : decode cc pc = .ok (.ireturn, 1)) (hr : meth.sig.returnType = some .int) (hlk : meth.locks = false) (hcm : cells ≤ mc) (hsm : slots ≤ ms) (hp : post v pic) : V p l e R s m args below meth c (MQ below (va_Qi post (fun pic1 t => WO D base pic1 t.heap) (FA base)) args s mc ms (FA base)) D base nL pic lv pc [.int v] cells slots :=
  fun H locs ls hP hS hl => W.widen hcm hsm (W.iret K.1.1 K.1.2.1 hr (fun t ht hW => ⟨⟨v, pic, rfl, hp, by show WO D base pic t.heap; rw [ht]; exact hP⟩, hS.F ht⟩) hS.2.2 d hlk)
theorem v_lret (K : KX p m c cc nL s args cw own D cA) {v : Int64} {mc ms : Nat} {post : Int64 → PIC → Prop} (d : decode cc pc = .ok (.lreturn, 1)) (hr : meth.sig.returnType = some .long) (hlk : meth.locks = false) (hcm : cells ≤ mc) (hsm : slots ≤ ms) (hp : post v pic) : V p l e R s m args below meth c (MQ below (va_Ql post (fun pic1 t => WO D base pic1 t.heap) (FA base)) args s mc ms (FA base)) D base nL pic lv pc [.long v] cells slots :=
  fun H locs ls hP hS hl => W.widen hcm hsm (W.lret K.1.1 K.1.2.1 hr (fun t ht hW => ⟨⟨v, pic, rfl, hp, by show WO D base pic t.heap; rw [ht]; exact hP⟩, hS.F ht⟩) hS.2.2 d hlk)
theorem v_zret (K : KX p m c cc nL s args cw own D cA) {v : Int32} {mc ms : Nat} {post : Int32 → PIC → Prop} (d : decode cc pc = .ok (.ireturn, 1)) (hr : meth.sig.returnType = some .boolean) (hn : narrow .boolean (.int v) = .int v) (hlk : meth.locks = false) (hcm : cells ≤ mc) (hsm : slots ≤ ms) (hp : post v pic) : V p l e R s m args below meth c (MQ below (va_Qi post (fun pic1 t => WO D base pic1 t.heap) (FA base)) args s mc ms (FA base)) D base nL pic lv pc [.int v] cells slots :=
  fun H locs ls hP hS hl => W.widen hcm hsm (W.zret K.1.1 K.1.2.1 hr hn (fun t ht hW => ⟨⟨v, pic, rfl, hp, by show WO D base pic t.heap; rw [ht]; exact hP⟩, hS.F ht⟩) hS.2.2 d hlk)
theorem v_vret (K : KX p m c cc nL s args cw own D cA) {mc ms : Nat} {post : PIC → Prop} (d : decode cc pc = .ok (.return_, 1)) (hr : meth.sig.returnType = none) (hlk : meth.locks = false) (hcm : cells ≤ mc) (hsm : slots ≤ ms) (hp : post pic) : V p l e R s m args below meth c (MQ below (va_Qv post (fun pic1 t => WO D base pic1 t.heap) (FA base)) args s mc ms (FA base)) D base nL pic lv pc [] cells slots :=
  fun H locs ls hP hS hl => W.widen hcm hsm (W.vret K.1.1 K.1.2.1 hr (fun t ht hW => ⟨⟨pic, rfl, hp, by show WO D base pic t.heap; rw [ht]; exact hP⟩, hS.F ht⟩) hS.2.2 d hlk)
theorem v_aret (K : KX p m c cc nL s args cw own D cA) {v : Option Nat} {mc ms : Nat} {n : String} {post : Option Nat → PIC → Prop} (d : decode cc pc = .ok (.areturn, 1)) (hr : meth.sig.returnType = some (.object n)) (hlk : meth.locks = false) (hcm : cells ≤ mc) (hsm : slots ≤ ms) (hp : post v pic) : V p l e R s m args below meth c (MQ below (va_Qq post (fun pic1 t => WO D base pic1 t.heap) (FA base)) args s mc ms (FA base)) D base nL pic lv pc [va_rf v] cells slots :=
  fun H locs ls hP hS hl => W.widen hcm hsm (W.aret K.1.1 K.1.2.1 hr (Or.inl ⟨_, rfl⟩) (va_rf_or v) (fun t ht hW => ⟨⟨v, pic, rfl, hp, by show WO D base pic t.heap; rw [ht]; exact hP⟩, hS.F ht⟩) hS.2.2 d hlk)
end RR
theorem ofI {l : Launch} {y : MethodName} {cd : ByteArray} {n : Nat} {ret : Option FieldType} {rm : Room} {mc ms : Nat} {D : va_G} {cA : Nat → ClassId} {base : Nat} {pic : PIC} {As : List Value} {post : Int32 → PIC → Prop} (hy : plainName y.cls = true) (hn : (lg_sl As).length ≤ n) (body : ∀ p e s m below meth c, KX p m c cd n s As.toArray (.code y cd n ret) y.cls D cA → meth.sig.returnType = ret → meth.locks = false → meth.name = y.name → V p l e rm s m As.toArray below meth c (MQ below (va_Qi post (fun pic1 t => WO D base pic1 t.heap) (FA base)) As.toArray s mc ms (FA base)) D base n pic (lvOf (lv_args 0 As)) 0 [] 0 0) : CI l y cd n ret rm mc ms D cA base pic As post := by
  refine Met.ofW (cc := cd) (maxL := n) (ret := ret) hy rfl ?_
  intro p e s m args below meth c s1 B hml hv
  obtain ⟨rfl, hK, hP⟩ := hv
  have hts := atoms_spec (ws := .code y cd n ret :: G) B.pre
  have hl := lv_entry As hn
  rw [lg_entry_eq]
  exact body p e s m below meth c ⟨⟨B.exec, B.bytes, hml, findClass_of_methodNamed B.named, hts⟩, hK⟩ B.returns B.notSynchronized (name_of_methodNamed B.named B.method).1 s.heap [] _ hP va_S.rf (LH.of hl)
theorem ofL {l : Launch} {y : MethodName} {cd : ByteArray} {n : Nat} {ret : Option FieldType} {rm : Room} {mc ms : Nat} {D : va_G} {cA : Nat → ClassId} {base : Nat} {pic : PIC} {As : List Value} {post : Int64 → PIC → Prop} (hy : plainName y.cls = true) (hn : (lg_sl As).length ≤ n) (body : ∀ p e s m below meth c, KX p m c cd n s As.toArray (.code y cd n ret) y.cls D cA → meth.sig.returnType = ret → meth.locks = false → meth.name = y.name → V p l e rm s m As.toArray below meth c (MQ below (va_Ql post (fun pic1 t => WO D base pic1 t.heap) (FA base)) As.toArray s mc ms (FA base)) D base n pic (lvOf (lv_args 0 As)) 0 [] 0 0) : CL l y cd n ret rm mc ms D cA base pic As post := by
  refine Met.ofW (cc := cd) (maxL := n) (ret := ret) hy rfl ?_
  intro p e s m args below meth c s1 B hml hv
  obtain ⟨rfl, hK, hP⟩ := hv
  have hts := atoms_spec (ws := .code y cd n ret :: G) B.pre
  have hl := lv_entry As hn
  rw [lg_entry_eq]
  exact body p e s m below meth c ⟨⟨B.exec, B.bytes, hml, findClass_of_methodNamed B.named, hts⟩, hK⟩ B.returns B.notSynchronized (name_of_methodNamed B.named B.method).1 s.heap [] _ hP va_S.rf (LH.of hl)
theorem ofQ {l : Launch} {y : MethodName} {cd : ByteArray} {n : Nat} {ret : Option FieldType} {rm : Room} {mc ms : Nat} {D : va_G} {cA : Nat → ClassId} {base : Nat} {pic : PIC} {As : List Value} {post : Option Nat → PIC → Prop} (hy : plainName y.cls = true) (hn : (lg_sl As).length ≤ n) (body : ∀ p e s m below meth c, KX p m c cd n s As.toArray (.code y cd n ret) y.cls D cA → meth.sig.returnType = ret → meth.locks = false → meth.name = y.name → V p l e rm s m As.toArray below meth c (MQ below (va_Qq post (fun pic1 t => WO D base pic1 t.heap) (FA base)) As.toArray s mc ms (FA base)) D base n pic (lvOf (lv_args 0 As)) 0 [] 0 0) : CQ l y cd n ret rm mc ms D cA base pic As post := by
  refine Met.ofW (cc := cd) (maxL := n) (ret := ret) hy rfl ?_
  intro p e s m args below meth c s1 B hml hv
  obtain ⟨rfl, hK, hP⟩ := hv
  have hts := atoms_spec (ws := .code y cd n ret :: G) B.pre
  have hl := lv_entry As hn
  rw [lg_entry_eq]
  exact body p e s m below meth c ⟨⟨B.exec, B.bytes, hml, findClass_of_methodNamed B.named, hts⟩, hK⟩ B.returns B.notSynchronized (name_of_methodNamed B.named B.method).1 s.heap [] _ hP va_S.rf (LH.of hl)
theorem ofV {l : Launch} {y : MethodName} {cd : ByteArray} {n : Nat} {ret : Option FieldType} {rm : Room} {mc ms : Nat} {D : va_G} {cA : Nat → ClassId} {base : Nat} {pic : PIC} {As : List Value} {post : PIC → Prop} (hy : plainName y.cls = true) (hn : (lg_sl As).length ≤ n) (body : ∀ p e s m below meth c, KX p m c cd n s As.toArray (.code y cd n ret) y.cls D cA → meth.sig.returnType = ret → meth.locks = false → meth.name = y.name → V p l e rm s m As.toArray below meth c (MQ below (va_Qv post (fun pic1 t => WO D base pic1 t.heap) (FA base)) As.toArray s mc ms (FA base)) D base n pic (lvOf (lv_args 0 As)) 0 [] 0 0) : CV l y cd n ret rm mc ms D cA base pic As post := by
  refine Met.ofW (cc := cd) (maxL := n) (ret := ret) hy rfl ?_
  intro p e s m args below meth c s1 B hml hv
  obtain ⟨rfl, hK, hP⟩ := hv
  have hts := atoms_spec (ws := .code y cd n ret :: G) B.pre
  have hl := lv_entry As hn
  rw [lg_entry_eq]
  exact body p e s m below meth c ⟨⟨B.exec, B.bytes, hml, findClass_of_methodNamed B.named, hts⟩, hK⟩ B.returns B.notSynchronized (name_of_methodNamed B.named B.method).1 s.heap [] _ hP va_S.rf (LH.of hl)
