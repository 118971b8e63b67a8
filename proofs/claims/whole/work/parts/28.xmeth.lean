set_option maxHeartbeats 4000000 in
set_option maxRecDepth 100000 in
theorem c_X5_neededBlock (l : Launch) (hl : l.stackTraces = false) (D : va_G) (cA : Nat → ClassId) (base : Nat) (pic : PIC) (ad : Nat → Nat) (nb ns hw : Nat) (cl : Int32) (B : Nat → Bk) (b : Int32) (hE : EObj pic ad nb ns cl) (hBs : BlksP pic cA ad hw B) (hnb : nb ≤ hw) (hhw : hw ≤ 40) (hBn : ∀ j, j < hw → bN (B j) ≤ 32)  : EQ l yX5_neededBlock cX5_neededBlock 3 (some (.object "EventRows$Block")) { frames := 7, cells := 1, slots := 6, locals := 100 } 1 6 D cA base pic [.ref (ad 0), .int b] (fun r pic1 => ∃ j, j < nb ∧ b = nI j ∧ r = some (ad (100 + 6 * j)) ∧ pic = pic1) (fun E pic1 => E = AIn ∧ pic = pic1 ∧ ¬ (0 ≤ b.toInt ∧ b.toInt < nb)) := by
  refine ofEQ (by decide) (Nat.le_of_ble_eq_true rfl) ?_
  intro p e s m below meth c KE9 hr hlk hout
  have K := KE9.kx
  have fE := hE
  unfold EObj at fE
  obtain ⟨f6, hBj⟩ := hBs
  refine v_aload_n K 0 dX5_neededBlock_0 rfl rfl ?_
  refine v_iload_n K 1 dX5_neededBlock_1 rfl rfl ?_
  refine cl_X5_114 K dX5_neededBlock_2 fE (c_X5_blockAt l D cA base pic ad nb ns hw cl B b fE ⟨f6, hBj⟩ hnb hhw hBn) rfl rfl ⟨by decide, by decide⟩ (Nat.le_of_ble_eq_true rfl) ⟨by decide, by decide⟩ (fun x2 pic1 hx2 => ?_)
  rcases hx2 with ⟨j, hj, rfl, rfl, rfl⟩ | ⟨rfl, hno, rfl⟩
  · refine v_top (v := .ref (ad (100 + 6 * j))) rfl ?_
    obtain ⟨fB, g1, g2, g3, g4, g5⟩ := hBj j (by omega)
    have hn := hBn j (by omega)
    have hbI := nI_toInt (n := j) (by omega)
    have hbx := bx_nI (j := j) (by omega)
    refine v_astore_n K 2 dX5_neededBlock_5 rfl (by decide) ?_
    refine v_aload_n K 2 dX5_neededBlock_6 rfl rfl ?_
    refine v_ifnonnull K 20 dX5_neededBlock_7 (by decide) ?_
    refine v_aload_n K 2 dX5_neededBlock_20 rfl rfl ?_
    exact v_retE (v_aret (v := some (ad (100 + 6 * j))) K dX5_neededBlock_21 hr hlk (by decide) (by decide) ⟨j, hj, rfl, rfl, rfl⟩)
  · refine v_top (v := .null) rfl ?_
    refine v_astoreN_n K 2 dX5_neededBlock_5 rfl (by decide) ?_
    refine v_aloadN_n K 2 dX5_neededBlock_6 rfl rfl ?_
    refine v_ifnonnullN K dX5_neededBlock_7 ?_
    exact v_throwA KE9 hl (is := 215) (text := "there is no such block") (by decide) dX5_neededBlock_10 dX5_neededBlock_13 dX5_neededBlock_14 dX5_neededBlock_16 dX5_neededBlock_19 hout hlk ⟨by decide, by decide, by decide, by decide⟩ ⟨by decide, by decide⟩ (⟨rfl, rfl, hno⟩)

set_option maxHeartbeats 4000000 in
set_option maxRecDepth 100000 in
theorem c_X5_value (l : Launch) (hl : l.stackTraces = false) (D : va_G) (cA : Nat → ClassId) (base : Nat) (pic : PIC) (ad : Nat → Nat) (nb ns hw : Nat) (cl : Int32) (B : Nat → Bk) (b i : Int32) (hE : EObj pic ad nb ns cl) (hBs : BlksP pic cA ad hw B) (hnb : nb ≤ hw) (hhw : hw ≤ 40) (hBn : ∀ j, j < hw → bN (B j) ≤ 32)  : EL l yX5_value cX5_value 4 (some .long) { frames := 8, cells := 2, slots := 14, locals := 122 } 2 14 D cA base pic [.ref (ad 0), .int b, .int i] (fun x pic1 => x = (valF nb B b i).2 ∧ (valF nb B b i).1 = nI 0 ∧ pic = pic1) (fun E pic1 => pic = pic1 ∧ ((E = AIn ∧ (valF nb B b i).1 = nI 2) ∨ (E = Bundle.nN ∧ (valF nb B b i).1 = nI 1))) := by
  refine ofEL (by decide) (Nat.le_of_ble_eq_true rfl) ?_
  intro p e s m below meth c KE9 hr hlk hout
  have K := KE9.kx
  have fE := hE
  unfold EObj at fE
  obtain ⟨f6, hBj⟩ := hBs
  refine v_aload_n K 0 dX5_value_0 rfl rfl ?_
  refine v_iload_n K 1 dX5_value_1 rfl rfl ?_
  refine v_callEQ KE9 (As := [.int b]) (C := RX5) (T := TX5) (N := 9) gw_362 gw_363 gw_364 gw_2 gw_365 rfl ⟨rfl, by decide, by decide, (by decide +kernel : (parseMethodDescriptor yX5_neededBlock.desc).map (fun d => d.parameters.length) = some 1)⟩ dX5_value_2 fE (c_X5_neededBlock l hl D cA base pic ad nb ns hw cl B b fE ⟨f6, hBj⟩ hnb hhw hBn) rfl rfl ⟨by decide, by decide⟩ rfl (Nat.le_of_ble_eq_true rfl) ⟨by decide, by decide⟩ (fun E9 pic9 hX => ?_) (fun x9 pic9 hx => ?_)
  · obtain ⟨rfl, rfl, hno⟩ := hX
    exact v_out hout hlk ⟨rfl, Or.inl ⟨rfl, by rw [valF_0 (by omega)]⟩⟩ (by decide) (by decide)
  obtain ⟨j, hj, rfl, rfl, rfl⟩ := hx
  refine v_top (v := .ref (ad (100 + 6 * j))) rfl ?_
  obtain ⟨fB, g1, g2, g3, g4, g5⟩ := hBj j (by omega)
  have hn := hBn j (by omega)
  have hbI := nI_toInt (n := j) (by omega)
  have hbx := bx_nI (j := j) (by omega)
  refine v_astore_n K 3 dX5_value_5 rfl (by decide) ?_
  refine v_aload_n K 3 dX5_value_6 rfl rfl ?_
  refine gf_X5_118 K dX5_value_7 fB rfl ?_
  refine v_if_ne K 23 dX5_value_10 (by decide) rfl (fun c10 => ?_) (fun c10 => ?_)
  · refine v_aload_n K 3 dX5_value_23 rfl rfl ?_
    refine v_iload_n K 2 dX5_value_24 rfl rfl ?_
    refine cl_X5_122 K dX5_value_25 fB (c_X0_hasEvent l D cA base pic (100 + 6 * j) (ad (100 + 6 * j)) _ _ _ _ _ (bN (B j)) _ _ _ _ _ _ _ _ _ i ⟨fB, g1, g2, g3, g4, g5⟩ hn) rfl rfl ⟨by decide, by decide⟩ (Nat.le_of_ble_eq_true rfl) ⟨by decide, by decide⟩ (fun x25 pic1 hx2 => ?_)
    rcases hx2 with ⟨rfl, rfl, hi⟩ | ⟨rfl, rfl, hi⟩
    · refine v_if_ne K 41 dX5_value_28 (by decide) rfl (fun _ => ?_) (fun c => absurd c (by decide))
      obtain ⟨i1, hi1, rfl⟩ := ixN i (bN (B j)) (by omega) (by omega) (by omega)
      have hiI := nI_toInt (n := i1) (by omega)
      have hix := bx_nI (j := i1) (by omega)
      refine v_aload_n K 3 dX5_value_41 rfl rfl ?_
      refine gf_X5_143 K dX5_value_42 fB rfl ?_
      refine v_iload_n K 2 dX5_value_45 rfl rfl ?_
      refine v_lald K dX5_value_46 g5 (by omega) (by decide) ?_
      exact v_retE (v_lret K dX5_value_47 hr hlk (by decide) (by decide) (by rw [valF_3 (by omega) (by rw [hbx]; omega) (by rw [hbx]; omega), hbx, hix]; exact ⟨rfl, rfl, rfl⟩))
    · refine v_if_ne K 41 dX5_value_28 (by decide) rfl (fun c => absurd c (by decide)) (fun _ => ?_)
      exact v_throwA KE9 hl (is := 140) (text := "there is no such event") (by decide) dX5_value_31 dX5_value_34 dX5_value_35 dX5_value_37 dX5_value_40 hout hlk ⟨by decide, by decide, by decide, by decide⟩ ⟨by decide, by decide⟩ (⟨rfl, Or.inl ⟨rfl, by rw [valF_2 (by omega) (by rw [hbx]; omega) (by rw [hbx]; omega)]⟩⟩)
  · exact v_throwN KE9 hl (is := 133) (text := "the events of this block are not kept") (by decide) dX5_value_13 dX5_value_16 dX5_value_17 dX5_value_19 dX5_value_22 hout hlk ⟨by decide, by decide, by decide, by decide⟩ ⟨by decide, by decide⟩ (⟨rfl, Or.inr ⟨rfl, by rw [valF_1 (by omega) (by rw [hbx]; omega)]⟩⟩)

set_option maxHeartbeats 4000000 in
set_option maxRecDepth 100000 in
theorem c_X5_root (l : Launch) (hl : l.stackTraces = false) (D : va_G) (cA : Nat → ClassId) (base : Nat) (pic : PIC) (ad : Nat → Nat) (nb ns hw : Nat) (cl : Int32) (B : Nat → Bk) (b : Int32) (hE : EObj pic ad nb ns cl) (hBs : BlksP pic cA ad hw B) (hnb : nb ≤ hw) (hhw : hw ≤ 40) (hBn : ∀ j, j < hw → bN (B j) ≤ 32)  : EL l yX5_root cX5_root 2 (some .long) { frames := 8, cells := 1, slots := 6, locals := 122 } 1 6 D cA base pic [.ref (ad 0), .int b] (fun x pic1 => x = (rooF nb B b).2 ∧ (rooF nb B b).1 = nI 0 ∧ pic = pic1) (fun E pic1 => pic = pic1 ∧ E = AIn ∧ (rooF nb B b).1 = nI 1) := by
  refine ofEL (by decide) (Nat.le_of_ble_eq_true rfl) ?_
  intro p e s m below meth c KE9 hr hlk hout
  have K := KE9.kx
  have fE := hE
  unfold EObj at fE
  obtain ⟨f6, hBj⟩ := hBs
  refine v_aload_n K 0 dX5_root_0 rfl rfl ?_
  refine v_iload_n K 1 dX5_root_1 rfl rfl ?_
  refine v_callEQ KE9 (As := [.int b]) (C := RX5) (T := TX5) (N := 9) gw_362 gw_363 gw_364 gw_2 gw_365 rfl ⟨rfl, by decide, by decide, (by decide +kernel : (parseMethodDescriptor yX5_neededBlock.desc).map (fun d => d.parameters.length) = some 1)⟩ dX5_root_2 fE (c_X5_neededBlock l hl D cA base pic ad nb ns hw cl B b fE ⟨f6, hBj⟩ hnb hhw hBn) rfl rfl ⟨by decide, by decide⟩ rfl (Nat.le_of_ble_eq_true rfl) ⟨by decide, by decide⟩ (fun E9 pic9 hX => ?_) (fun x9 pic9 hx => ?_)
  · obtain ⟨rfl, rfl, hno⟩ := hX
    exact v_out hout hlk ⟨rfl, rfl, by rw [rooF_0 (by omega)]⟩ (by decide) (by decide)
  obtain ⟨j, hj, rfl, rfl, rfl⟩ := hx
  refine v_top (v := .ref (ad (100 + 6 * j))) rfl ?_
  obtain ⟨fB, g1, g2, g3, g4, g5⟩ := hBj j (by omega)
  have hn := hBn j (by omega)
  have hbI := nI_toInt (n := j) (by omega)
  have hbx := bx_nI (j := j) (by omega)
  refine gf_X5_147 K dX5_root_5 fB rfl ?_
  exact v_retE (v_lret K dX5_root_8 hr hlk (by decide) (by decide) (by rw [rooF_1 (by omega), hbx]; exact ⟨rfl, rfl, rfl⟩))

set_option maxHeartbeats 4000000 in
set_option maxRecDepth 100000 in
theorem c_X5_filter (l : Launch) (hl : l.stackTraces = false) (D : va_G) (cA : Nat → ClassId) (base : Nat) (pic : PIC) (ad : Nat → Nat) (nb ns hw : Nat) (cl : Int32) (B : Nat → Bk) (b : Int32) (hE : EObj pic ad nb ns cl) (hBs : BlksP pic cA ad hw B) (hnb : nb ≤ hw) (hhw : hw ≤ 40) (hBn : ∀ j, j < hw → bN (B j) ≤ 32)  : EL l yX5_filter cX5_filter 2 (some .long) { frames := 8, cells := 1, slots := 6, locals := 122 } 1 6 D cA base pic [.ref (ad 0), .int b] (fun x pic1 => x = (filF nb B b).2 ∧ (filF nb B b).1 = nI 0 ∧ pic = pic1) (fun E pic1 => pic = pic1 ∧ E = AIn ∧ (filF nb B b).1 = nI 1) := by
  refine ofEL (by decide) (Nat.le_of_ble_eq_true rfl) ?_
  intro p e s m below meth c KE9 hr hlk hout
  have K := KE9.kx
  have fE := hE
  unfold EObj at fE
  obtain ⟨f6, hBj⟩ := hBs
  refine v_aload_n K 0 dX5_filter_0 rfl rfl ?_
  refine v_iload_n K 1 dX5_filter_1 rfl rfl ?_
  refine v_callEQ KE9 (As := [.int b]) (C := RX5) (T := TX5) (N := 9) gw_362 gw_363 gw_364 gw_2 gw_365 rfl ⟨rfl, by decide, by decide, (by decide +kernel : (parseMethodDescriptor yX5_neededBlock.desc).map (fun d => d.parameters.length) = some 1)⟩ dX5_filter_2 fE (c_X5_neededBlock l hl D cA base pic ad nb ns hw cl B b fE ⟨f6, hBj⟩ hnb hhw hBn) rfl rfl ⟨by decide, by decide⟩ rfl (Nat.le_of_ble_eq_true rfl) ⟨by decide, by decide⟩ (fun E9 pic9 hX => ?_) (fun x9 pic9 hx => ?_)
  · obtain ⟨rfl, rfl, hno⟩ := hX
    exact v_out hout hlk ⟨rfl, rfl, by rw [filF_0 (by omega)]⟩ (by decide) (by decide)
  obtain ⟨j, hj, rfl, rfl, rfl⟩ := hx
  refine v_top (v := .ref (ad (100 + 6 * j))) rfl ?_
  obtain ⟨fB, g1, g2, g3, g4, g5⟩ := hBj j (by omega)
  have hn := hBn j (by omega)
  have hbI := nI_toInt (n := j) (by omega)
  have hbx := bx_nI (j := j) (by omega)
  refine gf_X5_151 K dX5_filter_5 fB rfl ?_
  exact v_retE (v_lret K dX5_filter_8 hr hlk (by decide) (by decide) (by rw [filF_1 (by omega), hbx]; exact ⟨rfl, rfl, rfl⟩))

set_option maxHeartbeats 4000000 in
set_option maxRecDepth 100000 in
theorem c_X5_out (l : Launch) (hl : l.stackTraces = false) (D : va_G) (cA : Nat → ClassId) (base : Nat) (pic : PIC) (ad : Nat → Nat) (nb ns : Nat) (cl : Int32) (no : Nat) (dg : Nat → Int64) (k : Int32) (hE : EObj pic ad nb ns cl) (hO : OutP pic cA (ad 9) (ad 10) no dg) (hno5 : no ≤ 5)  : EL l yX5_out cX5_out 2 (some .long) { frames := 7, cells := 1, slots := 6, locals := 100 } 1 6 D cA base pic [.ref (ad 0), .int k] (fun x pic1 => x = (outF no dg k).2 ∧ (outF no dg k).1 = nI 0 ∧ pic = pic1) (fun E pic1 => pic = pic1 ∧ E = AIn ∧ (outF no dg k).1 = nI 1) := by
  refine ofEL (by decide) (Nat.le_of_ble_eq_true rfl) ?_
  intro p e s m below meth c KE9 hr hlk hout
  have K := KE9.kx
  have fE := hE
  unfold EObj at fE
  obtain ⟨o0, o1⟩ := hO
  refine v_iload_n K 1 dX5_out_0 rfl rfl ?_
  refine v_if_lt K 15 dX5_out_1 (by decide) rfl (fun c1 => ?_) (fun c1 => ?_)
  · exact v_throwA KE9 hl (is := 169) (text := "out has not so many") (by decide) dX5_out_15 dX5_out_18 dX5_out_19 dX5_out_21 dX5_out_24 hout hlk ⟨by decide, by decide, by decide, by decide⟩ ⟨by decide, by decide⟩ (⟨rfl, rfl, by rw [outF_0 (by omega)]⟩)
  · refine v_iload_n K 1 dX5_out_4 rfl rfl ?_
    refine v_aload_n K 0 dX5_out_5 rfl rfl ?_
    refine gf_X5_32 K dX5_out_6 fE rfl ?_
    refine gf_X5_168 K dX5_out_9 o0 rfl ?_
    refine v_icmp_lt K 25 dX5_out_12 (by decide) rfl (nI_toInt (by omega)) (fun c12 => ?_) (fun c12 => ?_)
    · obtain ⟨k1, hk1, rfl⟩ := ixN k no (by omega) (by omega) (by omega)
      have hkI := nI_toInt (n := k1) (by omega)
      have hkx := bx_nI (j := k1) (by omega)
      refine v_aload_n K 0 dX5_out_25 rfl rfl ?_
      refine gf_X5_32 K dX5_out_26 fE rfl ?_
      refine gf_X5_171 K dX5_out_29 o0 rfl ?_
      refine v_iload_n K 1 dX5_out_32 rfl rfl ?_
      refine v_lald K dX5_out_33 o1 (by omega) (by decide) ?_
      exact v_retE (v_lret K dX5_out_34 hr hlk (by decide) (by decide) (by rw [outF_1 (by omega), hkx]; exact ⟨rfl, rfl, rfl⟩))
    · exact v_throwA KE9 hl (is := 169) (text := "out has not so many") (by decide) dX5_out_15 dX5_out_18 dX5_out_19 dX5_out_21 dX5_out_24 hout hlk ⟨by decide, by decide, by decide, by decide⟩ ⟨by decide, by decide⟩ (⟨rfl, rfl, by rw [outF_0 (by omega)]⟩)

def LI (l : Launch) (y : MethodName) (cd : ByteArray) (n : Nat) (ret : Option FieldType) (hh : List (Nat × Nat × Nat × Nat)) (rm : Room) (mc ms : Nat) (D : va_G) (cA : Nat → ClassId) (base : Nat) (pic : PIC) (As : List Value) (post : Int32 → PIC → Prop) : Prop := Met l y (.codeWith y cd n ret hh :: G2) rm (PreE D cA base pic As) (va_Qi post (fun pic1 t => WO D base pic1 t.heap) (FA base)) mc ms (FA base)
theorem ofLI {l : Launch} {y : MethodName} {cd : ByteArray} {n : Nat} {ret : Option FieldType} {hh : List (Nat × Nat × Nat × Nat)} {rm : Room} {mc ms : Nat} {D : va_G} {cA : Nat → ClassId} {base : Nat} {pic : PIC} {As : List Value} {post : Int32 → PIC → Prop} (hy : plainName y.cls = true) (hn : (lg_sl As).length ≤ n) (body : ∀ p e s m below meth c, KE p m c cd n s As.toArray (.codeWith y cd n ret hh) y.cls D cA base → meth.sig.returnType = ret → meth.locks = false → c.exceptionTable.toList = tableOf hh → V p l e rm s m As.toArray below meth c (MQ below (va_Qi post (fun pic1 t => WO D base pic1 t.heap) (FA base)) As.toArray s mc ms (FA base)) D base n pic (lvOf (lv_args 0 As)) 0 [] 0 0) : LI l y cd n ret hh rm mc ms D cA base pic As post := by
  show Met l y (.codeWith y cd n ret hh :: G2) rm (PreE D cA base pic As) (va_Qi post (fun pic1 t => WO D base pic1 t.heap) (FA base)) mc ms (FA base)
  refine MetFree.of_bodyS (code := cd) (maxLocals := n) (ret := ret) hy ?_ ?_
  · intro args s m h hn
    obtain ⟨m9, meth, c, hn9, h1, h2, h3, h4, -, h5, h6, -⟩ := Cond.codeWith_spec (atoms_spec (ws := .codeWith y cd n ret hh :: G2) h _ List.mem_cons_self)
    cases hn.symm.trans hn9
    exact ⟨meth, c, h1, h2, h3, h4, h5, h6⟩
  · intro p e s m args below meth c s₁ B hml hv _
    obtain ⟨rfl, ⟨hK, hE⟩, hP⟩ := hv
    have hts := atoms_spec (ws := .codeWith y cd n ret hh :: G2) B.pre
    have hh0 : s₁.heap = s.heap := by rw [B.state]; rfl
    have hl := lv_entry As hn
    have htab := vx_table (x := y) B (hts _ List.mem_cons_self)
    have k := body p e s m below meth c ⟨⟨B.exec, B.bytes, hml, findClass_of_methodNamed B.named, hts⟩, hK, hE⟩ B.returns B.notSynchronized htab s.heap [] _ hP va_S.rf (LH.of hl)
    rw [← lg_entry_eq] at k
    obtain ⟨t, a1, o, b1, b2, b3, b4⟩ := k s₁ hh0 (Stand.of_body B)
    exact ⟨t, o, a1, b1, b2, b3, b4⟩
set_option maxHeartbeats 4000000 in
set_option maxRecDepth 100000 in
theorem c_L_value (l : Launch) (hl : l.stackTraces = false) (D : va_G) (cA : Nat → ClassId) (base : Nat) (pic : PIC) (ad : Nat → Nat) (nb ns hw : Nat) (cl : Int32) (B : Nat → Bk) (b i : Int32) (og : Nat → Int64) (hE : EObj pic ad nb ns cl) (hBs : BlksP pic cA ad hw B) (hnb : nb ≤ hw) (hhw : hw ≤ 40) (hBn : ∀ j, j < hw → bN (B j) ≤ 32) (f12 : pic 12 = some (ad 12, .inl (cA 1, 1, .inr (.inl og)))) : LI l yL_value cL_value 5 (some .int) [(0, 9, 12, 13), (0, 9, 16, 15)] { frames := 9, cells := 2, slots := 14, locals := 145 } 2 14 D cA base pic [.ref (ad 0), .int b, .int i, .ref (ad 12)] (fun x pic1 => x = (valF nb B b i).1 ∧ pic1 12 = some (ad 12, .inl (cA 1, 1, .inr (.inl (if (valF nb B b i).1 = nI 0 then vp_updL og 0 (valF nb B b i).2 else og)))) ∧ ∀ q, ¬ (q = 12) → pic1 q = pic q) := by
  refine ofLI (by decide) (Nat.le_of_ble_eq_true rfl) ?_
  intro p e s m below meth c KE9 hr hlk htab
  have K := KE9.kx
  have fE := hE
  unfold EObj at fE
  have FR : ∀ q, ¬ (q = 12) → pic q = pic q := fun _ _ => rfl
  refine v_aload_n K 3 dL_value_0 rfl rfl ?_
  refine v_iconst (v := nI 0) K dL_value_1 (by decide) ?_
  refine v_aload_n K 0 dL_value_2 rfl rfl ?_
  refine v_iload_n K 1 dL_value_3 rfl rfl ?_
  refine v_iload_n K 2 dL_value_4 rfl rfl ?_
  refine v_callEL KE9 (As := [.int b, .int i]) (C := RX5) (T := TX5) (N := 9) gw_351 gw_352 gw_353 gw_2 gw_354 rfl ⟨rfl, by decide, by decide, (by decide +kernel : (parseMethodDescriptor yX5_value.desc).map (fun d => d.parameters.length) = some 2)⟩ dL_value_5 fE (c_X5_value l hl D cA base pic ad nb ns hw cl B b i hE hBs hnb hhw hBn) rfl rfl ⟨by decide, by decide⟩ rfl (Nat.le_of_ble_eq_true rfl) ⟨by decide, by decide⟩ (fun E9 pic9 hX => ?_) (fun x9 pic9 hx => ?_)
  · obtain ⟨rfl, hX⟩ := hX
    rcases hX with ⟨rfl, hX⟩ | ⟨rfl, hX⟩
    · refine v_catch KE9 (name := AIn) [⟨0, 9, 12, 13⟩] ⟨0, 9, 16, 15⟩ [] htab (fun z hz => ?_) (by decide) (by decide) gw_350 (by decide) ?_
      · cases List.mem_singleton.mp hz
        exact Or.inr ⟨by decide, Bundle.nN, gw_349, KE9.2.2.2.2.2.2⟩
      · intro q9
        refine v_astore K dL_value_16 (by decide) ?_
        refine v_iconst (v := nI 2) K dL_value_18 (by decide) ?_
        exact v_iret K dL_value_19 hr hlk (by decide) (by decide) (by rw [if_neg (by rw [hX]; decide)]; exact ⟨hX.symm, f12, FR⟩)
    · refine v_catch KE9 (name := Bundle.nN) [] ⟨0, 9, 12, 13⟩ [⟨0, 9, 16, 15⟩] htab (fun z hz => nomatch hz) (by decide) (by decide) gw_349 (by decide) ?_
      intro q9
      refine v_astore K dL_value_12 (by decide) ?_
      refine v_iconst (v := nI 1) K dL_value_14 (by decide) ?_
      exact v_iret K dL_value_15 hr hlk (by decide) (by decide) (by rw [if_neg (by rw [hX]; decide)]; exact ⟨hX.symm, f12, FR⟩)
  obtain ⟨rfl, hz, rfl⟩ := hx
  refine v_last K dL_value_8 f12 (by omega) (by decide) (fun pic3 zg1 zf2 => ?_)
  replace fE := (zf2 _ (by omega)).trans fE
  replace f12 := zg1
  have FR : ∀ q, ¬ (q = 12) → pic3 q = pic q := fun q hq => (zf2 q (by omega)).trans (FR q hq)
  refine v_goto K 20 dL_value_9 (by decide) ?_
  refine v_iconst (v := nI 0) K dL_value_20 (by decide) ?_
  exact v_iret K dL_value_21 hr hlk (by decide) (by decide) (by rw [if_pos hz]; exact ⟨hz.symm, f12, FR⟩)

set_option maxHeartbeats 4000000 in
set_option maxRecDepth 100000 in
theorem c_L_root (l : Launch) (hl : l.stackTraces = false) (D : va_G) (cA : Nat → ClassId) (base : Nat) (pic : PIC) (ad : Nat → Nat) (nb ns hw : Nat) (cl : Int32) (B : Nat → Bk) (b : Int32) (og : Nat → Int64) (hE : EObj pic ad nb ns cl) (hBs : BlksP pic cA ad hw B) (hnb : nb ≤ hw) (hhw : hw ≤ 40) (hBn : ∀ j, j < hw → bN (B j) ≤ 32) (f12 : pic 12 = some (ad 12, .inl (cA 1, 1, .inr (.inl og)))) : LI l yL_root cL_root 4 (some .int) [(0, 8, 11, 15)] { frames := 9, cells := 1, slots := 6, locals := 143 } 1 6 D cA base pic [.ref (ad 0), .int b, .ref (ad 12)] (fun x pic1 => x = (rooF nb B b).1 ∧ pic1 12 = some (ad 12, .inl (cA 1, 1, .inr (.inl (if (rooF nb B b).1 = nI 0 then vp_updL og 0 (rooF nb B b).2 else og)))) ∧ ∀ q, ¬ (q = 12) → pic1 q = pic q) := by
  refine ofLI (by decide) (Nat.le_of_ble_eq_true rfl) ?_
  intro p e s m below meth c KE9 hr hlk htab
  have K := KE9.kx
  have fE := hE
  unfold EObj at fE
  have FR : ∀ q, ¬ (q = 12) → pic q = pic q := fun _ _ => rfl
  refine v_aload_n K 2 dL_root_0 rfl rfl ?_
  refine v_iconst (v := nI 0) K dL_root_1 (by decide) ?_
  refine v_aload_n K 0 dL_root_2 rfl rfl ?_
  refine v_iload_n K 1 dL_root_3 rfl rfl ?_
  refine v_callEL KE9 (As := [.int b]) (C := RX5) (T := TX5) (N := 9) gw_378 gw_379 gw_380 gw_2 gw_381 rfl ⟨rfl, by decide, by decide, (by decide +kernel : (parseMethodDescriptor yX5_root.desc).map (fun d => d.parameters.length) = some 1)⟩ dL_root_4 fE (c_X5_root l hl D cA base pic ad nb ns hw cl B b hE hBs hnb hhw hBn) rfl rfl ⟨by decide, by decide⟩ rfl (Nat.le_of_ble_eq_true rfl) ⟨by decide, by decide⟩ (fun E9 pic9 hX => ?_) (fun x9 pic9 hx => ?_)
  · obtain ⟨rfl, hX⟩ := hX
    obtain ⟨rfl, hX⟩ := hX
    refine v_catch KE9 (name := AIn) [] ⟨0, 8, 11, 15⟩ [] htab (fun z hz => nomatch hz) (by decide) (by decide) gw_350 (by decide) ?_
    intro q9
    refine v_astore_n K 3 dL_root_11 rfl (by decide) ?_
    refine v_iconst (v := nI 1) K dL_root_12 (by decide) ?_
    exact v_iret K dL_root_13 hr hlk (by decide) (by decide) (by rw [if_neg (by rw [hX]; decide)]; exact ⟨hX.symm, f12, FR⟩)
  obtain ⟨rfl, hz, rfl⟩ := hx
  refine v_last K dL_root_7 f12 (by omega) (by decide) (fun pic3 zg1 zf2 => ?_)
  replace fE := (zf2 _ (by omega)).trans fE
  replace f12 := zg1
  have FR : ∀ q, ¬ (q = 12) → pic3 q = pic q := fun q hq => (zf2 q (by omega)).trans (FR q hq)
  refine v_goto K 14 dL_root_8 (by decide) ?_
  refine v_iconst (v := nI 0) K dL_root_14 (by decide) ?_
  exact v_iret K dL_root_15 hr hlk (by decide) (by decide) (by rw [if_pos hz]; exact ⟨hz.symm, f12, FR⟩)

set_option maxHeartbeats 4000000 in
set_option maxRecDepth 100000 in
theorem c_L_filter (l : Launch) (hl : l.stackTraces = false) (D : va_G) (cA : Nat → ClassId) (base : Nat) (pic : PIC) (ad : Nat → Nat) (nb ns hw : Nat) (cl : Int32) (B : Nat → Bk) (b : Int32) (og : Nat → Int64) (hE : EObj pic ad nb ns cl) (hBs : BlksP pic cA ad hw B) (hnb : nb ≤ hw) (hhw : hw ≤ 40) (hBn : ∀ j, j < hw → bN (B j) ≤ 32) (f12 : pic 12 = some (ad 12, .inl (cA 1, 1, .inr (.inl og)))) : LI l yL_filter cL_filter 4 (some .int) [(0, 8, 11, 15)] { frames := 9, cells := 1, slots := 6, locals := 143 } 1 6 D cA base pic [.ref (ad 0), .int b, .ref (ad 12)] (fun x pic1 => x = (filF nb B b).1 ∧ pic1 12 = some (ad 12, .inl (cA 1, 1, .inr (.inl (if (filF nb B b).1 = nI 0 then vp_updL og 0 (filF nb B b).2 else og)))) ∧ ∀ q, ¬ (q = 12) → pic1 q = pic q) := by
  refine ofLI (by decide) (Nat.le_of_ble_eq_true rfl) ?_
  intro p e s m below meth c KE9 hr hlk htab
  have K := KE9.kx
  have fE := hE
  unfold EObj at fE
  have FR : ∀ q, ¬ (q = 12) → pic q = pic q := fun _ _ => rfl
  refine v_aload_n K 2 dL_filter_0 rfl rfl ?_
  refine v_iconst (v := nI 0) K dL_filter_1 (by decide) ?_
  refine v_aload_n K 0 dL_filter_2 rfl rfl ?_
  refine v_iload_n K 1 dL_filter_3 rfl rfl ?_
  refine v_callEL KE9 (As := [.int b]) (C := RX5) (T := TX5) (N := 9) gw_390 gw_391 gw_392 gw_2 gw_393 rfl ⟨rfl, by decide, by decide, (by decide +kernel : (parseMethodDescriptor yX5_filter.desc).map (fun d => d.parameters.length) = some 1)⟩ dL_filter_4 fE (c_X5_filter l hl D cA base pic ad nb ns hw cl B b hE hBs hnb hhw hBn) rfl rfl ⟨by decide, by decide⟩ rfl (Nat.le_of_ble_eq_true rfl) ⟨by decide, by decide⟩ (fun E9 pic9 hX => ?_) (fun x9 pic9 hx => ?_)
  · obtain ⟨rfl, hX⟩ := hX
    obtain ⟨rfl, hX⟩ := hX
    refine v_catch KE9 (name := AIn) [] ⟨0, 8, 11, 15⟩ [] htab (fun z hz => nomatch hz) (by decide) (by decide) gw_350 (by decide) ?_
    intro q9
    refine v_astore_n K 3 dL_filter_11 rfl (by decide) ?_
    refine v_iconst (v := nI 1) K dL_filter_12 (by decide) ?_
    exact v_iret K dL_filter_13 hr hlk (by decide) (by decide) (by rw [if_neg (by rw [hX]; decide)]; exact ⟨hX.symm, f12, FR⟩)
  obtain ⟨rfl, hz, rfl⟩ := hx
  refine v_last K dL_filter_7 f12 (by omega) (by decide) (fun pic3 zg1 zf2 => ?_)
  replace fE := (zf2 _ (by omega)).trans fE
  replace f12 := zg1
  have FR : ∀ q, ¬ (q = 12) → pic3 q = pic q := fun q hq => (zf2 q (by omega)).trans (FR q hq)
  refine v_goto K 14 dL_filter_8 (by decide) ?_
  refine v_iconst (v := nI 0) K dL_filter_14 (by decide) ?_
  exact v_iret K dL_filter_15 hr hlk (by decide) (by decide) (by rw [if_pos hz]; exact ⟨hz.symm, f12, FR⟩)

set_option maxHeartbeats 4000000 in
set_option maxRecDepth 100000 in
theorem c_L_out (l : Launch) (hl : l.stackTraces = false) (D : va_G) (cA : Nat → ClassId) (base : Nat) (pic : PIC) (ad : Nat → Nat) (nb ns : Nat) (cl : Int32) (no : Nat) (dg : Nat → Int64) (k : Int32) (og : Nat → Int64) (hE : EObj pic ad nb ns cl) (hO : OutP pic cA (ad 9) (ad 10) no dg) (hno5 : no ≤ 5) (f12 : pic 12 = some (ad 12, .inl (cA 1, 1, .inr (.inl og)))) : LI l yL_out cL_out 4 (some .int) [(0, 8, 11, 15)] { frames := 9, cells := 1, slots := 6, locals := 143 } 1 6 D cA base pic [.ref (ad 0), .int k, .ref (ad 12)] (fun x pic1 => x = (outF no dg k).1 ∧ pic1 12 = some (ad 12, .inl (cA 1, 1, .inr (.inl (if (outF no dg k).1 = nI 0 then vp_updL og 0 (outF no dg k).2 else og)))) ∧ ∀ q, ¬ (q = 12) → pic1 q = pic q) := by
  refine ofLI (by decide) (Nat.le_of_ble_eq_true rfl) ?_
  intro p e s m below meth c KE9 hr hlk htab
  have K := KE9.kx
  have fE := hE
  unfold EObj at fE
  have FR : ∀ q, ¬ (q = 12) → pic q = pic q := fun _ _ => rfl
  refine v_aload_n K 2 dL_out_0 rfl rfl ?_
  refine v_iconst (v := nI 0) K dL_out_1 (by decide) ?_
  refine v_aload_n K 0 dL_out_2 rfl rfl ?_
  refine v_iload_n K 1 dL_out_3 rfl rfl ?_
  refine v_callEL KE9 (As := [.int k]) (C := RX5) (T := TX5) (N := 9) gw_451 gw_452 gw_453 gw_2 gw_454 rfl ⟨rfl, by decide, by decide, (by decide +kernel : (parseMethodDescriptor yX5_out.desc).map (fun d => d.parameters.length) = some 1)⟩ dL_out_4 fE (c_X5_out l hl D cA base pic ad nb ns cl no dg k hE hO hno5) rfl rfl ⟨by decide, by decide⟩ rfl (Nat.le_of_ble_eq_true rfl) ⟨by decide, by decide⟩ (fun E9 pic9 hX => ?_) (fun x9 pic9 hx => ?_)
  · obtain ⟨rfl, hX⟩ := hX
    obtain ⟨rfl, hX⟩ := hX
    refine v_catch KE9 (name := AIn) [] ⟨0, 8, 11, 15⟩ [] htab (fun z hz => nomatch hz) (by decide) (by decide) gw_350 (by decide) ?_
    intro q9
    refine v_astore_n K 3 dL_out_11 rfl (by decide) ?_
    refine v_iconst (v := nI 1) K dL_out_12 (by decide) ?_
    exact v_iret K dL_out_13 hr hlk (by decide) (by decide) (by rw [if_neg (by rw [hX]; decide)]; exact ⟨hX.symm, f12, FR⟩)
  obtain ⟨rfl, hz, rfl⟩ := hx
  refine v_last K dL_out_7 f12 (by omega) (by decide) (fun pic3 zg1 zf2 => ?_)
  replace fE := (zf2 _ (by omega)).trans fE
  replace f12 := zg1
  have FR : ∀ q, ¬ (q = 12) → pic3 q = pic q := fun q hq => (zf2 q (by omega)).trans (FR q hq)
  refine v_goto K 14 dL_out_8 (by decide) ?_
  refine v_iconst (v := nI 0) K dL_out_14 (by decide) ?_
  exact v_iret K dL_out_15 hr hlk (by decide) (by decide) (by rw [if_pos hz]; exact ⟨hz.symm, f12, FR⟩)

