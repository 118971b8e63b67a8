/-! THE CLAIM OUT OF ONE WALK OF THE LAW'S BODY. Your part is whole_start (and what it stands on); all else here is the same for every law, but numbers. -/
def R_law : String := "EventRowsLaw"
def lw_P (b : Addr) (xs : List Int32) (args : Array Value) (s : State) : Prop := args = #[.ref b] ∧ s.IntsAt b xs ∧ xs.length ≤ 4608 ∧ (Jvm.Cond.and given_1 narrow_1).before args s = true
def lw_Q (_ : Array Value) (s : State) (o : Outcome) (t : State) : Prop := o = .returned (some (.int 1)) ∧ Framed s o t [] 603072 7207018
def lw_Z (below : List Frame) (a : Array Value) (s : State) : State → Prop := fun t => ∃ o, t.status = .running ∧ Ended t below o ∧ lw_Q a s o t
/-- the law's own end, with 1 on the stack, nothing written that was there before, its room as the claim has it -/
theorem lw_ret {p : Program} {l : Launch} {e : Env} {s : State} {m : MethodId} {below : List Frame} {meth : Method} {c : Code} {b : Nat} (hx : p.tables.exec = Jvm.exec) (hb : c.code = code) (hr : meth.sig.returnType = ret) (hlocks : meth.locks = false) {pc : Nat} {H : Heap} {ls : Array Slot} (hdg : decode code pc = .ok (.ireturn, 1)) : W p l e room_1 s m #[Value.ref b] below meth c H [] 603072 7207018 (lw_Z below #[Value.ref b] s) (F0 m pc ls [.int 1]) := by
  intro T hT X
  obtain ⟨fs, hret, hrun, hended, hW, hframe⟩ := X.leave (v := some (.int 1)) (hlocks := hlocks) (fun h => by rw [hr] at h; cases h)
  have hmeth' : T.vm.method? m = some meth := X.method'
  refine ⟨T.setFrames fs, ?_, .returned (some (.int 1)), hrun, hended, rfl, ⟨_, rfl⟩, hW, hframe⟩
  jvm_step X.here [X.here.top, hx, hb, hdg, hmeth', hr, ret, narrow_b1]
  (try refine ⟨rfl, ?_⟩); (try refine ⟨rfl, ?_⟩)
  first | (intro acts; rw [hret _ acts rfl rfl rfl]) | rw [hret _ _ rfl rfl rfl]
  exact Steps.refl _
/-- what holds at the law's entry: the machine, the code, the tables' words (any of lw_tbl by 'hts w (by decide +kernel)'), the script of L ints xs at the cell b, what the Statement gives of the start (any of its parts by flat_of_before) -/
def lw_At (p : Program) (s : State) (m : MethodId) (meth : Method) (c : Code) (b L : Nat) (xs : Nat → Int32) : Prop :=
  p.tables.exec = Jvm.exec ∧ c.code = code ∧ meth.sig.returnType = ret ∧ c.maxLocals = 8 ∧ s.vm.findClass R_law = some m.cls ∧ (∀ w ∈ lw_tbl, w.before #[Value.ref b] s = true) ∧ va_X b L xs s s.heap ∧ b < s.heap.size ∧ meth.locks = false ∧ (Jvm.Cond.and given_1 narrow_1).before #[Value.ref b] s = true
theorem wq_mt {w : Cond} (i : Nat) (h : tables_1[i]? = some w) : w ∈ lw_tbl := List.mem_append_right _ (List.mem_of_getElem? h)
theorem wq_inT (ws : List Cond) (ps : List Nat) (hp : ws = ps.filterMap (fun i => tables_1[i]?)) : ∀ w ∈ ws, w ∈ lw_tbl := by
  intro w hw
  rw [hp] at hw
  obtain ⟨i, -, hi⟩ := List.mem_filterMap.mp hw
  exact wq_mt i hi
theorem isNest.ot {w : Cond} (h : isNest w = true) : w.onTables = true := by cases w <;> first | rfl | (simp [isNest] at h)
theorem v_str {own tx : String} {k : Nat} {A : Array Value} {U : State} (h1 : (Cond.stringRef own k tx).before A U = true) (h2 : (Cond.exactly (.string own k) "java/lang/String").before A U = true) : ∃ sa, vk_R own k tx sa U := by
  obtain ⟨a, c, cell, kk, ht, -⟩ := Cond.exactly_spec (show (Cond.exactly (.string own k) "java/lang/String").holds A U none U [] = true from h2)
  exact ⟨a, vk_R.of h1 ht⟩
set_option maxRecDepth 100000 in
theorem G1_in_wsJ00 : ∀ w ∈ wsJ00, w ∈ lw_tbl := wq_inT wsJ00 [504, 506] (by decide +kernel)
set_option maxRecDepth 100000 in
theorem nestW_in : ∀ w ∈ nestW, w ∈ lw_tbl := wq_inT nestW [26, 53, 67, 84, 235, 248, 257, 308, 359] (by decide +kernel)
set_option maxRecDepth 100000 in
theorem xW_in : ∀ w ∈ xW, w ∈ lw_tbl := wq_inT xW [500, 461, 463, 465, 498, 459, 474] (by decide +kernel)
set_option maxHeartbeats 4000000 in
set_option maxRecDepth 100000 in
theorem wq_KK {s : State} {A : Array Value} (hts : ∀ w ∈ lw_tbl, w.before A s = true) : ∃ (D : va_G) (cA : Nat → ClassId), KK D cA s := by
  obtain ⟨c0, i0, h0⟩ := u_known (C := RJ0) (T := TJ0) (N := 2) (n := 4) hts G1_in_wsJ00 (hts (.instantiable RJ0 4) (wq_mt 502 (by decide +kernel)))
  obtain ⟨c1, i1, h1⟩ := u_known (C := RJx00060) (T := TJx00060) (N := 6) (n := 6) hts G1_in_wsJx000600 (hts (.instantiable RJx00060 6) (wq_mt 476 (by decide +kernel)))
  obtain ⟨c2, i2, h2⟩ := u_known (C := RJx5d777) (T := TJx5d777) (N := 8) (n := 8) hts G1_in_wsJx5d7770 (hts (.instantiable RJx5d777 8) (wq_mt 398 (by decide +kernel)))
  obtain ⟨c3, i3, h3⟩ := u_known (C := RX0) (T := TX0) (N := 10) (n := 10) hts G1_in_wsX00 (hts (.instantiable RX0 10) (wq_mt 83 (by decide +kernel)))
  obtain ⟨c4, i4, h4⟩ := u_known (C := RX1) (T := TX1) (N := 5) (n := 5) hts G1_in_wsX10 (hts (.instantiable RX1 5) (wq_mt 25 (by decide +kernel)))
  obtain ⟨c5, i5, h5⟩ := u_known (C := RX2) (T := TX2) (N := 2) (n := 2) hts G1_in_wsX20 (hts (.instantiable RX2 2) (wq_mt 66 (by decide +kernel)))
  obtain ⟨c6, i6, h6⟩ := u_known (C := RX3) (T := TX3) (N := 3) (n := 3) hts G1_in_wsX30 (hts (.instantiable RX3 3) (wq_mt 364 (by decide +kernel)))
  obtain ⟨c7, i7, h7⟩ := u_known (C := RX4) (T := TX4) (N := 2) (n := 2) hts G1_in_wsX40 (hts (.instantiable RX4 2) (wq_mt 52 (by decide +kernel)))
  obtain ⟨c8, i8, h8⟩ := u_known (C := RX5) (T := TX5) (N := 9) (n := 9) hts G1_in_wsX50 (hts (.instantiable RX5 9) (wq_mt 17 (by decide +kernel)))
  obtain ⟨c9, i9, h9⟩ := u_known (C := RX6) (T := TX6) (N := 24) (n := 24) hts G1_in_wsX60 (hts (.instantiable RX6 24) (wq_mt 549 (by decide +kernel)))
  have hKc : ∀ (k : Nat) (q : vw_C), vwCl[k]? = some q → u_Kn s q.1 q.2.1 q.2.2 ((fun k => match k with | 0 => c0 | 1 => c1 | 2 => c2 | 3 => c3 | 4 => c4 | 5 => c5 | 6 => c6 | 7 => c7 | 8 => c8 | _ => c9 : Nat → ClassId) k) ((fun k => match k with | 0 => i0 | 1 => i1 | 2 => i2 | 3 => i3 | 4 => i4 | 5 => i5 | 6 => i6 | 7 => i7 | 8 => i8 | _ => i9 : Nat → Nat → Nat) k) := by
    intro k q hq
    match k, hq with
    | 0, hq => cases hq; exact h0
    | 1, hq => cases hq; exact h1
    | 2, hq => cases hq; exact h2
    | 3, hq => cases hq; exact h3
    | 4, hq => cases hq; exact h4
    | 5, hq => cases hq; exact h5
    | 6, hq => cases hq; exact h6
    | 7, hq => cases hq; exact h7
    | 8, hq => cases hq; exact h8
    | 9, hq => cases hq; exact h9
    | k + 10, hq => simp [vwCl] at hq
  obtain ⟨a0, k0, p0, f0, g0, e0⟩ := Cond.arrayClass_spec (hts (.arrayClass .int) (wq_mt 47 (by decide +kernel)))
  obtain ⟨a1, k1, p1, f1, g1, e1⟩ := Cond.arrayClass_spec (hts (.arrayClass .long) (wq_mt 64 (by decide +kernel)))
  obtain ⟨a2, k2, p2, f2, g2, e2⟩ := Cond.arrayClass_spec (hts (.arrayClass .boolean) (wq_mt 48 (by decide +kernel)))
  have w3 := hts (.arrayOver (.object RX0)) (wq_mt 50 (by decide +kernel))
  obtain ⟨p3, a3, k3, f3, -, g3, e3, j3⟩ := Cond.arrayOver_spec w3
  have w4 := hts (.arrayOver (.object RX3)) (wq_mt 82 (by decide +kernel))
  obtain ⟨p4, a4, k4, f4, -, g4, e4, j4⟩ := Cond.arrayOver_spec w4
  have hAr : ∀ (k : Nat) (q : ClassId × FieldType), (tysA (fun k => match k with | 0 => a0 | 1 => a1 | 2 => a2 | 3 => a3 | _ => a4))[k]? = some q → ArrOfT s q.1 q.2 ∧ va_RA s q.1 q.2 := by
    unfold tysA
    intro k q hq
    match k, hq with
    | 0, hq => cases hq; exact ⟨fun n z => ⟨(fun k h => by cases h), k0, g0, p0, e0⟩, f0⟩
    | 1, hq => cases hq; exact ⟨fun n z => ⟨(fun k h => by cases h), k1, g1, p1, e1⟩, f1⟩
    | 2, hq => cases hq; exact ⟨fun n z => ⟨(fun k h => by cases h), k2, g2, p2, e2⟩, f2⟩
    | 3, hq => cases hq; exact ⟨fun n z => ⟨(fun k h => by cases h), k3, g3, p3, e3⟩, k3, p3, g3, e3, f3, j3⟩
    | 4, hq => cases hq; exact ⟨fun n z => ⟨(fun k h => by cases h), k4, g4, p4, e4⟩, k4, p4, g4, e4, f4, j4⟩
    | k + 5, hq => simp at hq
  exact ⟨(_, _), _, ⟨hKc, hAr⟩, va_AO.of w3, va_AO.of w4, fun w hw => va_Nw.of (isNest.ot (List.all_eq_true.mp nestW_all w hw)) (hts w (nestW_in w hw))⟩
set_option maxHeartbeats 4000000 in
set_option maxRecDepth 100000 in
theorem wq_XE {s : State} {A : Array Value} (hts : ∀ w ∈ lw_tbl, w.before A s = true) (hgv : (Jvm.Cond.and given_1 narrow_1).before A s = true) : XE s.heap.size s s.heap := by
  have hf := flat_of_before _ hgv
  have hA : ∀ a : Nat, a < s.heap.size → ¬ FA s.heap.size a := fun a h => Nat.not_le.mpr h
  have hini : (Cond.initialized Bundle.tN).before A s = true := hts _ (wq_mt 8 (by decide +kernel))
  refine ⟨fun w hw => va_Nw.of (isDC.ot (List.all_eq_true.mp xW_dc w hw)) (hts w (xW_in w hw)), ?_, vx_Zqof (hts _ (wq_mt 412 (by decide +kernel))) hini (hf _ (by decide +kernel)) hA, vx_Zqof (hts _ (wq_mt 414 (by decide +kernel))) hini (hf _ (by decide +kernel)) hA, va_Nc.of (hf _ (by decide +kernel))⟩
  intro q hq
  simp only [xTx, List.mem_cons, List.not_mem_nil, or_false] at hq
  rcases hq with rfl | rfl | rfl | rfl
  · exact v_str (hts (.stringRef RX5 215 "there is no such block") (wq_mt 517 (by decide +kernel))) (hf (.exactly (.string RX5 215) "java/lang/String") (by decide +kernel))
  · exact v_str (hts (.stringRef RX5 133 "the events of this block are not kept") (wq_mt 520 (by decide +kernel))) (hf (.exactly (.string RX5 133) "java/lang/String") (by decide +kernel))
  · exact v_str (hts (.stringRef RX5 140 "there is no such event") (wq_mt 525 (by decide +kernel))) (hf (.exactly (.string RX5 140) "java/lang/String") (by decide +kernel))
  · exact v_str (hts (.stringRef RX5 169 "out has not so many") (wq_mt 547 (by decide +kernel))) (hf (.exactly (.string RX5 169) "java/lang/String") (by decide +kernel))
set_option maxHeartbeats 4000000 in
set_option maxRecDepth 100000 in
/-- the law, from its entry -/
theorem whole_start {p : Program} {e : Env} {s : State} {m : MethodId} {below : List Frame} {meth : Method} {c : Code} (l : Launch) (hl : l.stackTraces = false) {b L : Nat} {xs : Nat → Int32} (hL : L ≤ 4608) (C0 : lw_At p s m meth c b L xs) : W p l e room_1 s m #[Value.ref b] below meth c s.heap [] 0 0 (lw_Z below #[Value.ref b] s) (entryFrame m ([Value.ref b] : List Value).toArray 8) := by
  obtain ⟨hx, hb, hr, hml, hown, hts, hX, hbl, hlocks, hgv⟩ := C0
  obtain ⟨D, cA, hKK⟩ := wq_KK hts
  have hXE := wq_XE hts hgv
  have KE9 : KE p m c cL_law 8 s #[Value.ref b] (Cond.classLink RL 8 RX5) RL D cA s.heap.size := ⟨⟨hx, hb, hml, hown, fun w hw => by
    rcases List.mem_cons.mp hw with rfl | hw
    · exact hts _ (G_in _ gw_0)
    · exact hts _ (G2_in _ hw)⟩, hKK, hXE⟩
  have kr : ∀ (pic : PIC) (lv : LV) (c1 s1 : Nat), c1 ≤ 603072 → s1 ≤ 7207018 → V p l e room_1 s m #[Value.ref b] below meth c (lw_Z below #[Value.ref b] s) D s.heap.size 8 pic lv 1173 [.int (nI 1)] c1 s1 := by
    intro pic lv c1 s1 h1 h2 H locs ls hP hS hl9
    rw [show nI 1 = 1 by decide]
    refine va_forget (fun q hq => hS.2.2 q hq) ?_
    refine W.widen (k := 603072) (n := 7207018) h1 h2 ?_
    exact lw_ret hx hb hr hlocks dL_law_1173
  have hl9 := lv_entry ([.ref b]) (n := 8) (Nat.le_of_ble_eq_true rfl)
  rw [lg_entry_eq]
  generalize (lg_sl ([.ref b]) ++ List.replicate (8 - (lg_sl ([.ref b])).length) Slot.unset).toArray = ls at hl9 ⊢
  have hl9 : lv_has ls 8 [(0, .ref b)] := hl9
  have hV : V p l e room_1 s m #[Value.ref b] below meth c (lw_Z below #[Value.ref b] s) D s.heap.size 8 (fun _ => none) (lvOf [(0, .ref b)]) 0 [] 0 0 :=
    lw_begin KE9.kx (fun pic1 a0 aM aO hI => lw_loop KE9 hl hX hbl hbl hL kr (L + 1) 0 pic1 (by omega) (by omega) hI)
  exact hV s.heap [] ls ⟨Nat.le_refl _, (fun r a e h => by cases h), (fun r r' a e e' h => by cases h)⟩ va_S.rf (LH.of hl9)
