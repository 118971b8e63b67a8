theorem v_sald {p : Program} {l : Launch} {e : Env} {s : State} {m : MethodId} {args : Array Value} {below : List Frame} {meth : Method} {c : Code} {Q : State → Prop} {D : va_G} {cA : Nat → ClassId} {base : Nat} {cw : Cond} {R : Room} {cc : ByteArray} {nL : Nat} {own : String} {pic : PIC} {lv : LV} {pc : Nat} {st : List Value} {cells slots : Nat} (K : KX p m c cc nL s args cw own D cA) {b L i : Nat} {xs : Nat → Int32} (hX : va_X b L xs s s.heap) (hbl : b < s.heap.size) (hbb : b < base) (d : decode cc pc = .ok (.iaload, 1)) (hi : i < L) (hL : L < 2 ^ 31) (k : V p l e R s m args below meth c Q D base nL pic lv (pc + 1) (.int (xs i) :: st) cells slots) : V p l e R s m args below meth c Q D base nL pic lv pc (.int (nI i) :: .ref b :: st) cells slots :=
  fun H locs ls hP hS hl => va_sld K.1.1 K.1.2.1 hX hbl (Nat.not_le.mpr hbb) hS (vp_in_nI hi hL) d (by rw [nI_clamp (Nat.lt_trans hi hL)]; exact k H locs ls hP hS hl)
theorem v_slen {p : Program} {l : Launch} {e : Env} {s : State} {m : MethodId} {args : Array Value} {below : List Frame} {meth : Method} {c : Code} {Q : State → Prop} {D : va_G} {cA : Nat → ClassId} {base : Nat} {cw : Cond} {R : Room} {cc : ByteArray} {nL : Nat} {own : String} {pic : PIC} {lv : LV} {pc : Nat} {st : List Value} {cells slots : Nat} (K : KX p m c cc nL s args cw own D cA) {b L : Nat} {xs : Nat → Int32} (hX : va_X b L xs s s.heap) (hbl : b < s.heap.size) (hbb : b < base) (d : decode cc pc = .ok (.arraylength, 1)) (k : V p l e R s m args below meth c Q D base nL pic lv (pc + 1) (.int (nI L) :: st) cells slots) : V p l e R s m args below meth c Q D base nL pic lv pc (.ref b :: st) cells slots :=
  fun H locs ls hP hS hl => va_slen K.1.1 K.1.2.1 hX hbl (Nat.not_le.mpr hbb) hS d (k H locs ls hP hS hl)
theorem G2_SW {cw : Cond} {own : String} {index : Nat} {y : MethodName} {cd : ByteArray} {n : Nat} {ret : Option FieldType} {hh : List (Nat × Nat × Nat × Nat)} (h1 : Cond.methodLink own index y ∈ G) (h2 : Cond.static y ∈ G) (h4 : Cond.initialized y.cls ∈ G) (h : Cond.codeWith y cd n ret hh ∈ G) : GoodIn (cw :: G2) (va_wsS own index y (.codeWith y cd n ret hh :: G2)) := fun w hw => by
  unfold va_wsS at hw
  rcases List.mem_append.mp hw with hw | hw
  · simp only [List.mem_cons, List.not_mem_nil, or_false] at hw
    rcases hw with rfl | rfl | rfl
    · exact ⟨List.mem_cons_of_mem _ (List.mem_append_right _ h1), G_good _ h1⟩
    · exact ⟨List.mem_cons_of_mem _ (List.mem_append_right _ h2), G_good _ h2⟩
    · exact ⟨List.mem_cons_of_mem _ (List.mem_append_right _ h4), G_good _ h4⟩
  · rcases List.mem_cons.mp hw with rfl | hw
    · exact ⟨List.mem_cons_of_mem _ (List.mem_append_right _ h), G_good _ h⟩
    · exact ⟨List.mem_cons_of_mem _ hw, G2_good _ hw⟩
theorem v_callSW {p : Program} {l : Launch} {e : Env} {s : State} {m : MethodId} {args : Array Value} {below : List Frame} {meth : Method} {c : Code} {Q : State → Prop} {D : va_G} {cA : Nat → ClassId} {base : Nat} {cw : Cond} {R : Room} {cc : ByteArray} {nL : Nat} {own : String} {pic : PIC} {lv : LV} {pc : Nat} {st : List Value} {cells slots : Nat} (K : KE p m c cc nL s args cw own D cA base) {index n mc ms : Nat} {y : MethodName} {cd : ByteArray} {ret : Option FieldType} {hh : List (Nat × Nat × Nat × Nat)} {rm : Room} {As st0 : List Value} {post : Int32 → PIC → Prop} (h1 : Cond.methodLink own index y ∈ G) (h2 : Cond.static y ∈ G) (h4 : Cond.initialized y.cls ∈ G) (h5 : Cond.codeWith y cd n ret hh ∈ G) (hd : y.cls ≠ "java/lang/invoke/MethodHandle" ∧ y.cls ≠ "java/lang/invoke/VarHandle" ∧ (parseMethodDescriptor y.desc).map (fun d => d.parameters.length) = some As.length) (d : decode cc pc = .ok (.invokestatic index, 3)) (hM : LI l y cd n ret hh rm mc ms D cA base pic As post) (hrc : rm.cells = mc) (hrs : rm.slots = ms) (hrm : rm.frames + 1 ≤ R.frames ∧ 8 + (n + 11) + rm.locals ≤ R.locals) (hst : st0 = As.reverse ++ st) (hcat : (st.map fun v => v.category).sum ≤ 8) (hcs : cells + mc ≤ R.cells ∧ slots + ms ≤ R.slots) (kk : ∀ (x : Int32) (pic1 : PIC), post x pic1 → V p l e R s m args below meth c Q D base nL pic1 lv (pc + 3) (.int x :: st) (cells + mc) (slots + ms)) : V p l e R s m args below meth c Q D base nL pic lv pc st0 cells slots :=
  fun H locs ls hP hS hl => va_calli (vx_runSW (As := As) (rest := st) K.1 hM (vx_cwSW As.length K.1.2.2.2.2 (G2_SW h1 h2 h4 h5) rfl hrc hrs hd hrm) ⟨PreE.blind _, fun U hU hW => ⟨rfl, ⟨K.2.1.moved hW, by rw [hU]; exact XE.moved hW (K.2.2.kept hS.2.1)⟩, by rw [hU]; exact hP⟩⟩ rfl rfl hl.1 hst (lv_room hcat) d hcs) hS (fun q _ h => h) (fun q h => h) (fun x pic1 t H1 locs1 ht hvm hw hB hz1 hk1 hS1 => kk x pic1 hw H1 locs1 ls (ht ▸ hB) hS1 hl)
def fgP (pic : PIC) (ns : Nat) : PIC := fun q => if 20 + ns ≤ q ∧ q < 28 then none else pic q
theorem fgP_ne {pic : PIC} {ns q : Nat} (h : ¬ (20 + ns ≤ q ∧ q < 28)) : fgP pic ns q = pic q := if_neg h
theorem WO.forget {D : va_G} {base : Nat} {pic : PIC} {H : Heap} (ns : Nat) (h : WO D base pic H) : WO D base (fgP pic ns) H := by
  have key : ∀ r x, fgP pic ns r = some x → pic r = some x := fun r x hx => by
    unfold fgP at hx
    by_cases hq : 20 + ns ≤ r ∧ r < 28
    · rw [if_pos hq] at hx; cases hx
    · rw [if_neg hq] at hx; exact hx
  exact ⟨h.1, fun r a e hr => h.2.1 r a e (key r _ hr), fun r r' a e e' h1 h2 => h.2.2 r r' a e e' (key r _ h1) (key r' _ h2)⟩
def fgB (pic : PIC) (hw : Nat) : PIC := fun q => if 100 + 6 * hw ≤ q ∧ q < 340 then none else pic q
theorem fgB_ne {pic : PIC} {hw q : Nat} (h : ¬ (100 + 6 * hw ≤ q ∧ q < 340)) : fgB pic hw q = pic q := if_neg h
theorem WO.forgetB {D : va_G} {base : Nat} {pic : PIC} {H : Heap} (hw : Nat) (h : WO D base pic H) : WO D base (fgB pic hw) H := by
  have key : ∀ r x, fgB pic hw r = some x → pic r = some x := fun r x hx => by
    unfold fgB at hx
    by_cases hq : 100 + 6 * hw ≤ r ∧ r < 340
    · rw [if_pos hq] at hx; cases hx
    · rw [if_neg hq] at hx; exact hx
  exact ⟨h.1, fun r a e hr => h.2.1 r a e (key r _ hr), fun r r' a e e' h1 h2 => h.2.2 r r' a e e' (key r _ h1) (key r' _ h2)⟩
theorem v_forgetB {p : Program} {l : Launch} {e : Env} {s : State} {m : MethodId} {args : Array Value} {below : List Frame} {meth : Method} {c : Code} {Q : State → Prop} {D : va_G} {base : Nat} {R : Room} {nL : Nat} {pic : PIC} {lv : LV} {pc : Nat} {st : List Value} {cells slots : Nat} (hw : Nat) (k : V p l e R s m args below meth c Q D base nL (fgB pic hw) lv pc st cells slots) : V p l e R s m args below meth c Q D base nL pic lv pc st cells slots := fun H locs ls hP hS hl => k H locs ls (hP.forgetB hw) hS hl
theorem v_forget {p : Program} {l : Launch} {e : Env} {s : State} {m : MethodId} {args : Array Value} {below : List Frame} {meth : Method} {c : Code} {Q : State → Prop} {D : va_G} {base : Nat} {R : Room} {nL : Nat} {pic : PIC} {lv : LV} {pc : Nat} {st : List Value} {cells slots : Nat} (ns : Nat) (k : V p l e R s m args below meth c Q D base nL (fgP pic ns) lv pc st cells slots) : V p l e R s m args below meth c Q D base nL pic lv pc st cells slots := fun H locs ls hP hS hl => k H locs ls (hP.forget ns) hS hl
section LST2
variable {pic pic1 : PIC} {cA : Nat → ClassId} {ad ad1 : Nat → Nat} {nb ns hw d no : Nat} {cl : Int32} {lim use beg cau : Nat → Int32} {B : Nat → Bk} {O : Bk} {S : Nat → Sb} {dg : Nat → Int64}
theorem CS.fg (hh : hw ≤ 40) (h1 : EObj pic ad nb ns cl) (h2 : CallsA pic cA ad d lim use beg cau) (h3 : BlksP pic cA ad hw B) (h4 : BkP pic cA ad 94 O) (h5 : ∃ w g, TreeP pic cA (ad 7) (ad 8) w g) (h6 : OutP pic cA (ad 9) (ad 10) no dg) (h7 : SubsP pic cA ad ns S) (h8 : ∀ q, 100 + 6 * hw ≤ q → q < 340 → pic q = none) (h10 : ∃ og, pic 12 = some (ad 12, .inl (cA 1, 1, .inr (.inl og)))) : CS (fgP pic ns) cA ad nb ns hw d no cl lim use beg cau B O S dg := by
  obtain ⟨w, g, h5⟩ := h5
  obtain ⟨og, h10⟩ := h10
  exact ⟨(fgP_ne (by omega)).trans h1, h2.kept (fun q _ _ => fgP_ne (by omega)), h3.kept (fun q hq => fgP_ne (by omega)), h4.kept (fun q _ _ => fgP_ne (by omega)), ⟨w, g, h5.kept (fun q _ _ => fgP_ne (by omega))⟩, h6.kept (fun q _ _ => fgP_ne (by omega)), h7.kept (fun q hq => fgP_ne (by omega)), fun q a b => (fgP_ne (by omega)).trans (h8 q a b), fun j a b => if_pos (by omega), ⟨og, (fgP_ne (by omega)).trans h10⟩⟩
theorem CS.fgb (hh : hw ≤ 40) (h1 : EObj pic ad nb ns cl) (h2 : CallsA pic cA ad d lim use beg cau) (h3 : BlksP pic cA ad hw B) (h4 : BkP pic cA ad 94 O) (h5 : ∃ w g, TreeP pic cA (ad 7) (ad 8) w g) (h6 : OutP pic cA (ad 9) (ad 10) no dg) (h7 : SubsP pic cA ad ns S) (h8 : ∀ j, ns ≤ j → j < 8 → pic (20 + j) = none) (h10 : ∃ og, pic 12 = some (ad 12, .inl (cA 1, 1, .inr (.inl og)))) (hs : ns ≤ 8) : CS (fgB pic hw) cA ad nb ns hw d no cl lim use beg cau B O S dg := by
  obtain ⟨w, g, h5⟩ := h5
  obtain ⟨og, h10⟩ := h10
  exact ⟨(fgB_ne (by omega)).trans h1, h2.kept (fun q _ _ => fgB_ne (by omega)), h3.kept (fun q hq => fgB_ne (by omega)), h4.kept (fun q _ _ => fgB_ne (by omega)), ⟨w, g, h5.kept (fun q _ _ => fgB_ne (by omega))⟩, h6.kept (fun q _ _ => fgB_ne (by omega)), h7.kept (fun q hq => fgB_ne (by omega)), fun q a b => if_pos (by omega), fun j a b => (fgB_ne (by omega)).trans (h8 j a b), ⟨og, (fgB_ne (by omega)).trans h10⟩⟩
theorem MCalls.kept (h : MCalls pic cA ad lim use beg cau) (hk : ∀ q, 1013 ≤ q → q < 1017 → pic1 q = pic q) : MCalls pic1 cA ad lim use beg cau := ⟨(hk _ (by omega) (by omega)).trans h.1, (hk _ (by omega) (by omega)).trans h.2.1, (hk _ (by omega) (by omega)).trans h.2.2.1, (hk _ (by omega) (by omega)).trans h.2.2.2⟩
theorem MEv.kept {mac mtp : Nat → Int32} {mvl : Nat → Int64} {mse : Nat → Int32} (h : MEv pic cA ad mac mtp mvl mse) (hk : ∀ q, 1001 ≤ q → q < 1005 → pic1 q = pic q) : MEv pic1 cA ad mac mtp mvl mse := ⟨(hk _ (by omega) (by omega)).trans h.1, (hk _ (by omega) (by omega)).trans h.2.1, (hk _ (by omega) (by omega)).trans h.2.2.1, (hk _ (by omega) (by omega)).trans h.2.2.2⟩
theorem MBl.kept {msz mpr : Nat → Int32} {mro mfi : Nat → Int64} (h : MBl pic cA ad msz mpr mro mfi) (hk : ∀ q, 1005 ≤ q → q < 1009 → pic1 q = pic q) : MBl pic1 cA ad msz mpr mro mfi := ⟨(hk _ (by omega) (by omega)).trans h.1, (hk _ (by omega) (by omega)).trans h.2.1, (hk _ (by omega) (by omega)).trans h.2.2.1, (hk _ (by omega) (by omega)).trans h.2.2.2⟩
theorem MOut.kept (h : MOut pic cA ad dg) (hk : pic1 1017 = pic 1017) : MOut pic1 cA ad dg := hk.trans h
theorem MSub.kept {mto mpb mpa : Nat → Int32} (h : MSub pic cA ad mto mpb mpa) (hk : ∀ q, 1020 ≤ q → q < 1023 → pic1 q = pic q) : MSub pic1 cA ad mto mpb mpa := ⟨(hk _ (by omega) (by omega)).trans h.1, (hk _ (by omega) (by omega)).trans h.2.1, (hk _ (by omega) (by omega)).trans h.2.2⟩
theorem MLev.kept {mlv : Nat → Int64} (h : MLev pic cA ad mlv) (hk : pic1 1023 = pic 1023) : MLev pic1 cA ad mlv := hk.trans h
theorem relB_tell {f : Bool} {n : Nat} {ac a b c x : Int32} {v : Int64} {msz mpr : Nat → Int32} {mro mfi : Nat → Int64} {mac mtp : Nat → Int32} {mvl : Nat → Int64} {mse : Nat → Int32} (hnb : nb ≤ 40) (h : RelB nb B msz mpr mro mfi mac mtp mvl mse) : RelB nb B msz mpr mro mfi (cond f (upd mac (1280 + n) ac) mac) (cond f (tpU mtp (1280 + n) a b c) mtp) (cond f (vp_updL mvl (1280 + n) v) mvl) (cond f (upd mse (1280 + n) x) mse) := by
  cases f with
  | false => exact h
  | true =>
    intro j hj
    obtain ⟨a1, a2, a3, a4, a5, a6⟩ := h j hj
    refine ⟨a1, a2, a3, a4, a5, fun i hi => ?_⟩
    show (upd mac (1280 + n) ac (32 * j + i) = _ ∧ tpU mtp (1280 + n) a b c (3 * (32 * j + i)) = _ ∧ tpU mtp (1280 + n) a b c (3 * (32 * j + i) + 1) = _ ∧ tpU mtp (1280 + n) a b c (3 * (32 * j + i) + 2) = _ ∧ vp_updL mvl (1280 + n) v (32 * j + i) = _ ∧ upd mse (1280 + n) x (32 * j + i) = _) ∧ _
    unfold tpU
    rw [pk_un (by omega), pk_un (by omega), pk_un (by omega), pk_un (by omega), pk_un (by omega), pk_un (by omega), pk_un (by omega), pk_un (by omega), pk_un (by omega), pk_un (by omega), pk_uLn (by omega), pk_un (by omega)]
    exact a6 i hi
def lgV (a b : Int32) : Int64 := (a.toInt64 <<< ((nI 32).toInt64 &&& 63)) ||| (b.toInt64 &&& 4294967295)
end LST2
