/-! 'throw new NullPointerException("..")' by the program's own code, no stack traces kept: own rows over the library's parts (the fill of NullPointerException, the constructors that take a text) -/
abbrev ny_RF (e : Env) (u : State) (g : JFrame) (n : Nat) : Prop := e.platform.stackFull (((u.setTop g).threads[(u.setTop g).cur]?).getD { frames := [] }) (u.setTop g).frames n = false
set_option maxHeartbeats 1000000 in
theorem ny_rooms {e : Env} {X : State} {G : JFrame} {self : Addr} (htop : X.topJava?.isSome) (T : ThrowableC) (N : NpeC) (x : Cell) (t : ThreadId) {lim : Nat × Nat} (hlim : e.platform.stackLimits X.me = lim) (hframes : X.frames.length + 2 < lim.1) (hwords : (stackUse (.java G :: X.frames.tail)).2 + 45 ≤ lim.2) :
    ny_RF e X G (1 + 2) ∧ ny_RF e (npeInside X G N.toNpeT self x) (fillJ N.fill self 37 []) (1 + 2) ∧ ny_RF e (fillInside (npeInside X G N.toNpeT self x) (fillJ N.fill self 37 []) T.fill self (npeCell N.toNpeT x t)) (fillJ T.fill self 16 []) (nativeFrameWords "java/lang/Throwable" "fillInStackTrace" 2) := by
  obtain ⟨g₀, hg⟩ := Option.isSome_iff_exists.mp htop
  obtain ⟨tl, htl⟩ := State.topJava?_eq_some.mp hg
  have hlen : X.frames.length = (Frame.java G :: X.frames.tail).length := by rw [htl]; rfl
  have hfg : (X.setTop G).frames = .java G :: X.frames.tail := by rw [State.frames_setTop _ htl, htl]; rfl
  have hlimg : e.platform.stackLimits (X.setTop G).me = lim := by rw [State.stackLimits_setTop _ htop]; exact hlim
  have htopE : (X.setCell self (x.withEntry X.cur)).topJava?.isSome := htop
  have hfN : (npeInside X G N.toNpeT self x).frames = .java (entryFrameSync N.fill #[.ref self] 1 self) :: .java G :: X.frames.tail := by
    show (fillInside X G N.fill self x).frames = _
    exact frames_entered (g := G) htopE _
  have htopN : (npeInside X G N.toNpeT self x).topJava?.isSome := by rw [State.topJava?_of_frames hfN]; rfl
  have hlimN : e.platform.stackLimits (npeInside X G N.toNpeT self x).me = lim := by
    show e.platform.stackLimits (fillInside X G N.fill self x).me = lim
    rw [State.stackLimits_pushFrame, State.stackLimits_setTop _ htopE]; exact hlim
  have hw14 : ∀ (mm : MethodId) (pc : Nat), (stackUse [Frame.java (fillJ mm self pc [])]).2 = 14 := by
    intro mm pc
    rw [stackUse_java, stackUse_nil]
    simp [operandWords]
  have htopE2 : ((npeInside X G N.toNpeT self x).setCell self ((npeCell N.toNpeT x t).withEntry (npeInside X G N.toNpeT self x).cur)).topJava?.isSome := by rw [State.topJava?_setCell]; exact htopN
  have hfF2 : (fillInside (npeInside X G N.toNpeT self x) (fillJ N.fill self 37 []) T.fill self (npeCell N.toNpeT x t)).frames = .java (entryFrameSync T.fill #[.ref self] 1 self) :: .java (fillJ N.fill self 37 []) :: .java G :: X.frames.tail := by
    rw [show (fillInside (npeInside X G N.toNpeT self x) (fillJ N.fill self 37 []) T.fill self (npeCell N.toNpeT x t)).frames = _ from frames_entered (g := (fillJ N.fill self 37 [])) htopE2 _]
    show _ :: _ :: ((npeInside X G N.toNpeT self x).frames).tail = _
    rw [hfN]; rfl
  have htopF2 : (fillInside (npeInside X G N.toNpeT self x) (fillJ N.fill self 37 []) T.fill self (npeCell N.toNpeT x t)).topJava?.isSome := by rw [State.topJava?_of_frames hfF2]; rfl
  have hlimF2 : e.platform.stackLimits (fillInside (npeInside X G N.toNpeT self x) (fillJ N.fill self 37 []) T.fill self (npeCell N.toNpeT x t)).me = lim := by
    rw [State.stackLimits_pushFrame, State.stackLimits_setTop _ htopE2]; exact hlimN
  have hw28 : (stackUse [Frame.java (fillJ T.fill self 16 []), Frame.java (fillJ N.fill self 37 [])]).2 = 28 := by
    rw [stackUse_java, hw14]
    simp [operandWords]
  refine ⟨?_, ?_, ?_⟩
  · exact Jvm.roomAbove (pushed := []) (base := .java G :: X.frames.tail) (free := 45) (lim := lim) hfg hlimg (by rw [← hlen]; simp only [List.length_nil]; omega) hwords (by simp only [stackUse_nil]; omega)
  · exact Jvm.roomAbove (pushed := [.java (fillJ N.fill self 37 [])]) (base := .java G :: X.frames.tail) (free := 45) (lim := lim) (State.frames_setTop _ hfN) (by rw [State.stackLimits_setTop _ htopN]; exact hlimN)
      (by rw [← hlen]; simp only [List.length_cons, List.length_nil]; omega) hwords (by rw [hw14]; omega)
  · exact Jvm.roomAbove (pushed := [.java (fillJ T.fill self 16 []), .java (fillJ N.fill self 37 [])]) (base := .java G :: X.frames.tail) (free := 45) (lim := lim) (State.frames_setTop _ hfF2) (by rw [State.stackLimits_setTop _ htopF2]; exact hlimF2)
      (by rw [← hlen]; simp only [List.length_cons, List.length_nil]; omega) hwords (by rw [hw28]; decide)
set_option maxHeartbeats 1000000 in
/-- the fill of NullPointerException, called from any frame G of a state X -/
theorem ny_fill (p : Program) {e : Env} {below : List Frame} {s₀ X : State} {G : JFrame} {c : Code} {self : Addr} (h : At X G.method c below) (hexec : p.tables.exec = Jvm.exec) (htr : e.platform.stackTraces = false)
    (T : ThrowableC) (L : T.Links e.platform s₀) (N : NpeC) (LN : N.Links T e.platform s₀) (hW : s₀.WarmedH X.vm) {u0 : RefV} {x cellS : Cell} {kcell : Class} {ig : Instr} {len : Nat}
    (hx : X.heap[self]? = some x) (hobj : ∀ k, x.vm ≠ .statics k) (hknown : x.vm ≠ .unknown) (hfree : x.monitor.owner = none) (hkcell : s₀.vm.classes[x.cls]? = some kcell)
    (hsel0 : selectMethod e.platform s₀.vm x.cls T.fill0 = .method T.fill0) (hcellS : X.heap[T.aS]? = some cellS) (hneS : T.aS ≠ self) (hknownS : cellS.vm ≠ .unknown) (hvU : cellS.slots[T.fUnassigned.slot]? = some u0.v)
    (hv0 : x.slots[N.fState.slot]? = some (.int 0)) (hvS : x.slots[T.fStack.slot]? = some u0.v) (hneSt : T.fStack.slot ≠ N.fState.slot) (htS : Takes s₀ x T.fStack u0.v) (ht1 : Takes s₀ x N.fState (.int 1))
    (hskip : SkipFacts T e.platform s₀ (fun u => u) u0 ((npeCell N.toNpeT x X.cur).withEntry X.cur))
    {lim : Nat × Nat} (hlim : e.platform.stackLimits X.me = lim) (hframes : X.frames.length + 2 < lim.1) (hwords : (stackUse (.java G :: X.frames.tail)).2 + 45 ≤ lim.2) (hdg : decode c.code G.pc = .ok (ig, len)) :
    ∃ vm', s₀.WarmedH vm' ∧ ∀ target, Steps p.tables e below ((((X.setVm vm').setCell self (((npeCell N.toNpeT x X.cur).withEntry X.cur).setSlot T.fStack.slot u0.v).left).setCell self (((npeCell N.toNpeT x X.cur).withEntry X.cur).setSlot T.fStack.slot u0.v).left.left).setTop { G with pc := G.pc + len, stack := .ref self :: G.stack }) target →
      Steps p.tables e below (doInvoke e (X.setTop G) [] N.fill #[.ref self]).1 target := by
  have hlt : self < X.heap.size := (Array.getElem?_eq_some_iff.mp hx).1
  generalize hcI : (((npeCell N.toNpeT x X.cur).withEntry X.cur).setSlot T.fStack.slot u0.v).left = cI
  have hheld : ((npeCell N.toNpeT x X.cur).withEntry X.cur).left = npeCell N.toNpeT x X.cur := Cell.left_withEntry_held _ rfl (by show 0 < x.monitor.count + 1; omega)
  have hImon : cI.monitor = (npeCell N.toNpeT x X.cur).monitor := by
    rw [← hcI, Cell.left_monitor_congr (y := (npeCell N.toNpeT x X.cur).withEntry X.cur) (show (((npeCell N.toNpeT x X.cur).withEntry X.cur).setSlot T.fStack.slot u0.v).monitor = _ from rfl), hheld]
  refine Steps.npeFillColdBy p (V := X) (g := G) (c := c) (self := self) h hexec T L N LN hW (Fi := fun u => u.setCell self cI) (heapOnly_id.thenSetCell self _) (fun _ => rfl) (fun u a b => by rw [setCell_twice, setCell_twice, setCell_twice])
    (cell := x) (cFi := cI) (kcell := kcell) (ig := ig) (len := len) [] hx hobj hknown hfree hkcell hv0 ht1 (fun u hu => heapAt_setCell_self _ (Array.getElem?_eq_some_iff.mp hu).1) hImon hdg (fun vm1 hW1 hB => ?_) (ny_rooms (self := self) h.top T N x X.cur hlim hframes hwords).1
  have hc1 : (npeInside (X.setVm vm1) G N.toNpeT self x).heap[self]? = some (npeCell N.toNpeT x X.cur) := heapAt_setCell_self _ (by show self < (X.heap.setIfInBounds self _).size; simpa using hlt)
  have hc2 : (npeInside (X.setVm vm1) G N.toNpeT self x).heap[T.aS]? = some cellS := by
    show ((X.heap.setIfInBounds self _).setIfInBounds self _)[T.aS]? = _
    simp [Ne.symm hneS, hcellS]
  have hvSN : (npeCell N.toNpeT x X.cur).slots[T.fStack.slot]? = some u0.v := by
    have h1 : T.fStack.slot < x.slots.size := htS.1
    simp [npeCell, Cell.setSlot, Cell.withEntry, Ne.symm hneSt, hvS]
  have hrm := fun vm => ny_rooms (e := e) (X := X.setVm vm) (G := G) (self := self) h.top T N x X.cur hlim hframes hwords
  have hXvm : ∀ vm, (npeInside (X.setVm vm1) G N.toNpeT self x).setVm vm = npeInside (X.setVm vm) G N.toNpeT self x := fun vm => by rw [npeInside_setVm, State.setVm_twice]
  have hXcur : (npeInside (X.setVm vm1) G N.toNpeT self x).cur = X.cur := rfl
  have hXW : s₀.WarmedH (npeInside (X.setVm vm1) G N.toNpeT self x).vm := hW1
  have hr2 := (hrm vm1).2.1
  have hrN : ∀ vm, ny_RF e (fillInside ((npeInside (X.setVm vm1) G N.toNpeT self x).setVm vm) (fillJ N.fill self 37 []) T.fill self (npeCell N.toNpeT x X.cur)) (fillJ T.fill self 16 []) (nativeFrameWords "java/lang/Throwable" "fillInStackTrace" 2) := fun vm => by rw [hXvm]; exact (hrm vm).2.2
  generalize npeInside (X.setVm vm1) G N.toNpeT self x = Y at hB hc1 hc2 hXvm hXcur hXW hr2 hrN ⊢
  obtain ⟨vm2, hW2, st⟩ := Steps.fillColdAnyV p (V := Y) (g := (fillJ N.fill self 37 [])) (c := N.codeFill) (self := self) hB hexec T L hXW (Nn := fun u => u) heapOnly_id (fun _ _ => rfl) (fun _ => rfl) (fun u a b => setCell_twice _ _ _ _)
    (cell := npeCell N.toNpeT x X.cur) (cellS := cellS) (cN := (npeCell N.toNpeT x X.cur).withEntry X.cur) (u0 := u0) (ig := .invokespecial 24) (len := 3) [] hc1 hobj hknown (Or.inr (by rw [hXcur]; rfl)) hvSN hsel0 hc2 hneS hknownS hvU (by rw [hXcur]; exact fun _ hu => hu) (fun _ hu => hu) rfl rfl (by rw [hXcur]) rfl
    ⟨by simpa [npeCell, Cell.setSlot, Cell.withEntry] using htS.1, htS.2⟩ (by rw [LN.fillBytes]; exact LibCode.NullPointerException.Fill.at_37)
    (fun _ vm3 hW3 hA3 t' hs => L.nativeOff p htr hA3 hW3 (hrN vm3) hs) hr2 (by rw [hXcur]; exact hskip)
  refine ⟨vm2, hW2, fun t' hs => st t' ?_⟩
  rw [hcI, hXvm]
  exact hs
abbrev ny_D (T : ThrowableT) (N : NpeT) (cell : Cell) (self : Addr) (u0 sen : RefV) (msg : Value) : Cell := (npeBareV T N cell self u0 sen).setSlot T.fMsg.slot msg
set_option maxHeartbeats 1000000 in
theorem ny_initS (p : Program) {e : Env} {below : List Frame} {s₀ V : State} {g : JFrame} {c : Code} {self : Addr} (h : At V g.method c below) (hexec : p.tables.exec = Jvm.exec) (htr : e.platform.stackTraces = false)
    (T : ThrowableC) (L : T.Links e.platform s₀) (Z : Init0T) (LZ : Z.LaidS T.toThrowableT) (M : MsgC) (LM : M.Links T e.platform s₀) (N : NpeC) (LN : N.Links T e.platform s₀) (hW : s₀.WarmedH V.vm)
    {u0 sen : RefV} {msg : Value} (hmsg : msg.isRef = true) {cell cellS : Cell} {kcell : Class}
    (hcell : V.heap[self]? = some cell) (hobj : ∀ k, cell.vm ≠ .statics k) (hknown : cell.vm ≠ .unknown) (hfree : cell.monitor.owner = none) (hcount : cell.monitor.count = 0) (hkcell : s₀.vm.classes[cell.cls]? = some kcell)
    (hsel0 : selectMethod e.platform s₀.vm cell.cls T.fill0 = .method T.fill0) (hselF : selectMethod e.platform s₀.vm cell.cls T.fill = .method N.fill)
    (hcellS : V.heap[T.aS]? = some cellS) (hneS : T.aS ≠ self) (hknownS : cellS.vm ≠ .unknown) (hvU : cellS.slots[T.fUnassigned.slot]? = some u0.v) (hvSen : cellS.slots[T.fSentinel.slot]? = some sen.v)
    (hv0 : cell.slots[N.fState.slot]? = some (.int 0)) (hneC : T.fCause.slot ≠ N.fState.slot) (hneSt : T.fStack.slot ≠ N.fState.slot) (hneP : T.fSupp.slot ≠ N.fState.slot)
    (htC : Takes s₀ cell T.fCause (.ref self)) (htS : Takes s₀ cell T.fStack u0.v) (htP : Takes s₀ cell T.fSupp sen.v) (htM : Takes s₀ cell T.fMsg msg) (ht1 : Takes s₀ cell N.fState (.int 1)) (hobjLocals : T.codeObj.maxLocals = 1)
    (hskip : SkipFacts T e.platform s₀ (fun u => u) u0 ((npeCell N.toNpeT (preparedCellV T.toThrowableT cell self u0 sen) V.cur).withEntry V.cur))
    {ig : Instr} {len : Nat} (acts : List Action) {lim : Nat × Nat} (hlim : e.platform.stackLimits V.me = lim) (hframes : V.frames.length + 3 < lim.1) (hwords : (stackUse (.java g :: V.frames.tail)).2 + 58 ≤ lim.2) (hdg : decode c.code g.pc = .ok (ig, len)) :
    ∃ vm', s₀.WarmedH vm' ∧ ∀ target, Steps p.tables e below (((V.setVm vm').setCell self (ny_D T.toThrowableT N.toNpeT cell self u0 sen msg)).setTop { g with pc := g.pc + len }) target →
      Steps p.tables e below (doInvoke e (V.setTop g) acts (Z.m T.toThrowableT) #[.ref self, msg]).1 target := by
  obtain ⟨r1, r2, -, -⟩ := plainRoomsV (e := e) (g := g) (self := self) h.top T hobjLocals Z cell u0 sen msg hlim (by omega) (by omega)
  have hlt : self < V.heap.size := (Array.getElem?_eq_some_iff.mp hcell).1
  have hD := npeBareV_eq T.toThrowableT N.toNpeT (cell := cell) self u0 sen V.cur hfree hcount
  have hv0P : (preparedCellV T.toThrowableT cell self u0 sen).slots[N.fState.slot]? = some (.int 0) := by
    simp [preparedCellV, Cell.setSlot, hneC, hneSt, hneP, hv0]
  have hvSP : (preparedCellV T.toThrowableT cell self u0 sen).slots[T.fStack.slot]? = some u0.v := by
    have h1 : T.fStack.slot < cell.slots.size := htS.1
    simp [preparedCellV, Cell.setSlot, Ne.symm L.stackApartSupp, h1]
  have tk : ∀ {f : Field} {v : Value}, Takes s₀ cell f v → Takes s₀ (preparedCellV T.toThrowableT cell self u0 sen) f v := fun h' => ⟨by simpa [preparedCellV, Cell.setSlot] using h'.1, h'.2⟩
  have hfr : ∀ vm1, ((initSInside (V.setVm vm1) g T.toThrowableT Z self msg).setCell self (preparedCellV T.toThrowableT cell self u0 sen)).frames = .java (initSJ T.toThrowableT Z self msg 0 []) :: .java g :: V.frames.tail := fun vm1 => frames_entered (s := V.setVm vm1) (g := g) h.top _
  obtain ⟨g₀, hg⟩ := Option.isSome_iff_exists.mp h.top
  obtain ⟨tl, htl⟩ := State.topJava?_eq_some.mp hg
  have hlen : V.frames.length = (Frame.java g :: V.frames.tail).length := by rw [htl]; rfl
  have hfill : ∀ vm1, s₀.WarmedH vm1 → At ((initSInside (V.setVm vm1) g T.toThrowableT Z self msg).setCell self (preparedCellV T.toThrowableT cell self u0 sen)) (Z.m T.toThrowableT) Z.code below → ∃ vm2, s₀.WarmedH vm2 ∧ ∀ t' : State,
      Steps p.tables e below ((((initSInside (V.setVm vm2) g T.toThrowableT Z self msg).setCell self (preparedCellV T.toThrowableT cell self u0 sen)).setCell self (npeBareV T.toThrowableT N.toNpeT cell self u0 sen)).setTop (initSJ T.toThrowableT Z self msg 27 [.ref self])) t' →
      Steps p.tables e below (doInvoke e (((initSInside (V.setVm vm1) g T.toThrowableT Z self msg).setCell self (preparedCellV T.toThrowableT cell self u0 sen)).setTop (initSJ T.toThrowableT Z self msg 24 [])) [] N.fill #[.ref self]).1 t' := fun vm1 hW1 hA => by
    obtain ⟨vm2, hW2, st⟩ := ny_fill p (X := (initSInside (V.setVm vm1) g T.toThrowableT Z self msg).setCell self (preparedCellV T.toThrowableT cell self u0 sen)) (G := initSJ T.toThrowableT Z self msg 24 []) (c := Z.code) (self := self) hA hexec htr T L N LN hW1
      (u0 := u0) (x := preparedCellV T.toThrowableT cell self u0 sen) (cellS := cellS) (kcell := kcell) (ig := .invokevirtual 27) (len := 3) (heapAt_setCell_self (s := initSInside (V.setVm vm1) g T.toThrowableT Z self msg) _ hlt) hobj hknown hfree hkcell hsel0
      (by rw [heapAt_setCell_ne _ (Ne.symm hneS)]; exact hcellS) hneS hknownS hvU hv0P hvSP hneSt (tk htS) (tk ht1) hskip
      (lim := lim) (by show e.platform.stackLimits (initSInside (V.setVm vm1) g T.toThrowableT Z self msg).me = lim; rw [State.stackLimits_pushFrame, State.stackLimits_setTop _ (show (V.setVm vm1).topJava?.isSome from h.top)]; exact hlim)
      (by rw [hfr, List.length_cons, ← hlen]; omega) (by rw [hfr, List.tail_cons, stackUse_java]; simp [operandWords]; omega) (by rw [LZ.bytes]; exact LibCode.Throwable.InitS.at_24)
    refine ⟨vm2, hW2, fun t' hs => st t' ?_⟩
    rw [setCell_twice]
    show Steps p.tables e below (((((initSInside (V.setVm vm1) g T.toThrowableT Z self msg).setCell self (preparedCellV T.toThrowableT cell self u0 sen)).setVm vm2).setCell self ((((npeCell N.toNpeT (preparedCellV T.toThrowableT cell self u0 sen) V.cur).withEntry V.cur).setSlot T.fStack.slot u0.v).left).left).setTop (initSJ T.toThrowableT Z self msg 27 [.ref self])) t'
    rw [hD, State.setCell_setVm, initSInside_setVm, State.setVm_twice]
    exact hs
  obtain ⟨vm', hW', st⟩ := Steps.throwableInitSColdByV p h hexec T L Z LZ M LM hW (F := fun u => u.setCell self (npeBareV T.toThrowableT N.toNpeT cell self u0 sen)) (heapOnly_id.thenSetCell self _) (fun _ _ => rfl)
    hmsg (cF := npeBareV T.toThrowableT N.toNpeT cell self u0 sen) hcell hknown (fun u hu => heapAt_setCell_self _ (Array.getElem?_eq_some_iff.mp hu).1) rfl rfl
    (by simp [npeBareV, preparedCellV, Cell.setSlot]) htM hdg (mSel := N.fill) (methSel := N.methFill) (kSel := N.kN) hobj hselF LN.method LN.fillAbstract LN.cls LN.notInterface hfill acts
    hcellS hneS hknownS hvU hvSen htC htS htP r1 r2
  refine ⟨vm', hW', fun target hrest => st target ?_⟩
  show Steps p.tables e below (((((V.setVm vm').setCell self (preparedCellV T.toThrowableT cell self u0 sen)).setCell self (npeBareV T.toThrowableT N.toNpeT cell self u0 sen)).setCell self ((npeBareV T.toThrowableT N.toNpeT cell self u0 sen).setSlot T.fMsg.slot msg)).setTop { g with pc := g.pc + len }) target
  rw [setCell_twice, setCell_twice]
  exact hrest
set_option maxHeartbeats 1000000 in
theorem ny_chain (p : Program) {e : Env} {below : List Frame} {s₀ V : State} {g : JFrame} {c : Code} {self : Addr} (h : At V g.method c below) (hexec : p.tables.exec = Jvm.exec) (htr : e.platform.stackTraces = false)
    (T : ThrowableC) (L : T.Links e.platform s₀) (Z : Init0T) (LZ : Z.LaidS T.toThrowableT) (M : MsgC) (LM : M.Links T e.platform s₀) (N : NpeC) (LN : N.Links T e.platform s₀) (hW : s₀.WarmedH V.vm)
    {u0 sen : RefV} {msg : Value} (hmsg : msg.isRef = true) {cell cellS : Cell} {kcell : Class}
    (hcell : V.heap[self]? = some cell) (hobj : ∀ k, cell.vm ≠ .statics k) (hknown : cell.vm ≠ .unknown) (hfree : cell.monitor.owner = none) (hcount : cell.monitor.count = 0) (hkcell : s₀.vm.classes[cell.cls]? = some kcell)
    (hsel0 : selectMethod e.platform s₀.vm cell.cls T.fill0 = .method T.fill0) (hselF : selectMethod e.platform s₀.vm cell.cls T.fill = .method N.fill)
    (hcellS : V.heap[T.aS]? = some cellS) (hneS : T.aS ≠ self) (hknownS : cellS.vm ≠ .unknown) (hvU : cellS.slots[T.fUnassigned.slot]? = some u0.v) (hvSen : cellS.slots[T.fSentinel.slot]? = some sen.v)
    (hv0 : cell.slots[N.fState.slot]? = some (.int 0)) (hneC : T.fCause.slot ≠ N.fState.slot) (hneSt : T.fStack.slot ≠ N.fState.slot) (hneP : T.fSupp.slot ≠ N.fState.slot)
    (htC : Takes s₀ cell T.fCause (.ref self)) (htS : Takes s₀ cell T.fStack u0.v) (htP : Takes s₀ cell T.fSupp sen.v) (htM : Takes s₀ cell T.fMsg msg) (ht1 : Takes s₀ cell N.fState (.int 1)) (hobjLocals : T.codeObj.maxLocals = 1)
    (hskip : SkipFacts T e.platform s₀ (fun u => u) u0 ((npeCell N.toNpeT (preparedCellV T.toThrowableT cell self u0 sen) V.cur).withEntry V.cur))
    (Ps : List PassC) (hL : ∀ P, P ∈ Ps → P.LinksS e.platform s₀) (hlink : PassesOn (Z.m T.toThrowableT) (Ps.map (·.toPassT))) {ig : Instr} {len : Nat} (acts : List Action)
    {lim : Nat × Nat} (hlim : e.platform.stackLimits V.me = lim) (hframes : V.frames.length + Ps.length + 3 < lim.1) (hwords : (stackUse (.java g :: V.frames.tail)).2 + 13 * Ps.length + 58 ≤ lim.2) (hdg : decode c.code g.pc = .ok (ig, len)) :
    ∃ vm', s₀.WarmedH vm' ∧ ∀ target, Steps p.tables e below (((V.setVm vm').setCell self (ny_D T.toThrowableT N.toNpeT cell self u0 sen msg)).setTop { g with pc := g.pc + len }) target →
      Steps p.tables e below (doInvoke e (V.setTop g) acts (firstOf (Z.m T.toThrowableT) (Ps.map (·.toPassT))) #[.ref self, msg]).1 target := by
  obtain ⟨f1, -, -, f4, f5, f6⟩ := chainEnd_facts e.platform self msg (Ps.map (·.toPassT)) V g h.top
  have fc := chainEnd_cur self msg (Ps.map (·.toPassT)) V g
  rw [List.length_map] at f5 f6
  refine Steps.initChainSCold hexec (H := fun u => u.setCell self (ny_D T.toThrowableT N.toNpeT cell self u0 sen msg)) (heapOnly_id.thenSetCell self _) (Z.m T.toThrowableT) hmsg lim Ps V g c ig len acts h hW hL hlink hdg hlim (by omega) (by omega) (fun vm1 hW1 c' ig' len' hA' hdg' => ?_)
  simp only [chainEnd_setVm] at hA' hdg' ⊢
  generalize chainEnd self msg V g (Ps.map (·.toPassT)) = E at f1 f4 f5 f6 fc hA' hdg' ⊢
  obtain ⟨vm2, hW2, st⟩ := ny_initS p (V := E.1.setVm vm1) (g := E.2) (self := self) hA' hexec htr T L Z LZ M LM N LN hW1 hmsg (cell := cell) (cellS := cellS) (kcell := kcell) (u0 := u0) (sen := sen)
    (by show E.1.heap[self]? = _; rw [f1]; exact hcell) hobj hknown hfree hcount hkcell hsel0 hselF (by show E.1.heap[T.aS]? = _; rw [f1]; exact hcellS) hneS hknownS hvU hvSen hv0 hneC hneSt hneP htC htS htP htM ht1 hobjLocals
    (by show SkipFacts T e.platform s₀ (fun u => u) u0 ((npeCell N.toNpeT (preparedCellV T.toThrowableT cell self u0 sen) E.1.cur).withEntry E.1.cur); rw [fc]; exact hskip)
    [] (lim := lim) (by show e.platform.stackLimits E.1.me = lim; rw [f4]; exact hlim) (by show E.1.frames.length + 3 < lim.1; rw [f5]; omega) (by show (stackUse (.java E.2 :: E.1.frames.tail)).2 + 58 ≤ lim.2; rw [f6]; omega) hdg'
  exact ⟨vm2, hW2, fun t' hs => st t' (by rw [State.setVm_twice]; exact hs)⟩
