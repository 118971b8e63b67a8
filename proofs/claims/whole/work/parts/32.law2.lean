set_option maxHeartbeats 4000000 in
set_option maxRecDepth 100000 in
theorem lw_c9 {p : Program} {l : Launch} {e : Env} {s : State} {m : MethodId} {args : Array Value} {below : List Frame} {meth : Method} {c : Code} {Q : State → Prop} {D : va_G} {cA : Nat → ClassId} {base : Nat} {cw : Cond} (KE9 : KE p m c cL_law 8 s args cw RL D cA base) (hl : l.stackTraces = false) {bS L : Nat} {xs : Nat → Int32} (hX : va_X bS L xs s s.heap) (hbl : bS < s.heap.size) (hbb : bS < base) (hL9 : L ≤ 4608) {a0 aM aO : Nat} (i : Nat) (hi : i + 9 ≤ L) {pic : PIC} {cells slots : Nat} (hcc : cells + 6 ≤ 603072) (hss : slots + 170 ≤ 7207018) (hI : LInv pic cA a0 aM aO) (kx : ∀ pic1, LInv pic1 cA a0 aM aO → V p l e room_1 s m args below meth c Q D base 8 pic1 (lvOf [(0, .ref bS), (1, .ref a0), (2, .ref aM), (3, .ref aO), (4, .int (nI i))]) 1166 [] (cells + 6) (slots + 170)) : V p l e room_1 s m args below meth c Q D base 8 pic (lvOf [(0, .ref bS), (1, .ref a0), (2, .ref aM), (3, .ref aO), (4, .int (nI i))]) 519 [] cells slots := by
  have K := KE9.kx
  obtain ⟨ad, nb, ns, hw, d, no, cl, lim, use, beg, cau, B, O, S, dg, ⟨rfl, rfl, rfl⟩, hCS, hMS, hPU⟩ := hI
  have ⟨hE, hC, hBs, hOb, ⟨w0, g0, hT⟩, hO, hSs, hz1, hz2, ⟨og, f12⟩⟩ := hCS
  have ⟨hd, hnb, hhw, hns, hno5, hOn, hOk, hBn, hBg, hSb⟩ := hPU
  obtain ⟨th, mac, mtp, mvl, mse, msz, mpr, mro, mfi, mto, mpb, mpa, mlv, fM, mC, mV, mB, mO, mS, mL, rB, rE, rS⟩ := hMS
  have fE := hE
  unfold EObj at fE
  have hnb40 : nb ≤ 40 := Nat.le_trans hnb hhw
  refine v_aload_n K 1 dL_law_519 rfl rfl ?_
  refine v_aload_n K 0 dL_law_520 rfl rfl ?_
  refine v_iload K dL_law_521 rfl ?_
  refine v_iconst (v := nI 1) K dL_law_523 (by decide) ?_
  refine v_iaddN K dL_law_524 ?_
  refine v_sald K hX hbl hbb dL_law_525 (by omega) (by omega) ?_
  refine v_aload_n K 0 dL_law_526 rfl rfl ?_
  refine v_iload K dL_law_527 rfl ?_
  refine v_iconst (v := nI 2) K dL_law_529 (by decide) ?_
  refine v_iaddN K dL_law_530 ?_
  refine v_sald K hX hbl hbb dL_law_531 (by omega) (by omega) ?_
  refine v_aload_n K 3 dL_law_532 rfl rfl ?_
  refine v_callSW KE9 (As := [.ref (ad 0), .int (xs (i + 1)), .int (xs (i + 2)), .ref (ad 12)]) gw_345 gw_346 gw_347 gw_348 ⟨by decide, by decide, (by decide +kernel : (parseMethodDescriptor yL_value.desc).map (fun d => d.parameters.length) = some 4)⟩ dL_law_533 (c_L_value l hl D cA base pic ad nb ns hw cl B _ _ og hE hBs hnb hhw hBn f12) rfl rfl ⟨by decide, by decide⟩ rfl (Nat.le_of_ble_eq_true rfl) ⟨show _ ≤ 603072 from by omega, show _ ≤ 7207018 from by omega⟩ (fun x9 pic9 hx => ?_)
  obtain ⟨rfl, k12, kf⟩ := hx
  have hCS1 : CS pic9 cA ad nb ns hw d no cl lim use beg cau B O S dg := ⟨(kf 0 (by omega)).trans hE, hC.kept (fun q _ _ => kf q (by omega)), hBs.kept (fun q hq => kf q (by omega)), hOb.kept (fun q _ _ => kf q (by omega)), ⟨w0, g0, hT.kept (fun q _ _ => kf q (by omega))⟩, hO.kept (fun q _ _ => kf q (by omega)), hSs.kept (fun q hq => kf q (by omega)), fun q h1 h2 => (kf q (by omega)).trans (hz1 q h1 h2), fun j h1 h2 => (kf _ (by omega)).trans (hz2 j h1 h2), ⟨_, k12⟩⟩
  replace fM := (kf 1000 (by omega)).trans fM
  replace mC := mC.kept (fun q _ _ => kf q (by omega))
  replace mV := mV.kept (fun q _ _ => kf q (by omega))
  replace mB := mB.kept (fun q _ _ => kf q (by omega))
  replace mO := mO.kept (kf _ (by omega))
  replace mS := mS.kept (fun q _ _ => kf q (by omega))
  replace mL := mL.kept (kf _ (by omega))
  refine v_istore K dL_law_536 (by decide) ?_
  refine v_aload_n K 2 dL_law_538 rfl rfl ?_
  refine v_aload_n K 0 dL_law_539 rfl rfl ?_
  refine v_iload K dL_law_540 rfl ?_
  refine v_iconst (v := nI 1) K dL_law_542 (by decide) ?_
  refine v_iaddN K dL_law_543 ?_
  refine v_sald K hX hbl hbb dL_law_544 (by omega) (by omega) ?_
  refine v_aload_n K 0 dL_law_545 rfl rfl ?_
  refine v_iload K dL_law_546 rfl ?_
  refine v_iconst (v := nI 2) K dL_law_548 (by decide) ?_
  refine v_iaddN K dL_law_549 ?_
  refine v_sald K hX hbl hbb dL_law_550 (by omega) (by omega) ?_
  refine cl_L_81 K dL_law_551 fM (c_X6_value l D cA base pic9 ad th cl (nI (bN O)) nb d no ns mac mtp mvl mse msz mpr mro mfi B _ _ fM mV mB rB hnb40) rfl rfl ⟨by decide, by decide⟩ (Nat.le_of_ble_eq_true rfl) ⟨show _ ≤ 603072 from by omega, show _ ≤ 7207018 from by omega⟩ (fun x551 pic1 hx2 => ?_)
  obtain ⟨rfl, m1, mf⟩ := hx2
  replace k12 := (mf 12 (by omega)).trans k12
  refine v_lstore K dL_law_554 (by decide) ?_
  refine v_aload_n K 2 dL_law_556 rfl rfl ?_
  refine cl_L_82 K dL_law_557 m1 (c_X6_thrown l D cA base pic1 ad _ cl (nI (bN O)) nb d no ns m1) rfl rfl ⟨by decide, by decide⟩ (Nat.le_of_ble_eq_true rfl) ⟨show _ ≤ 603072 from by omega, show _ ≤ 7207018 from by omega⟩ (fun x557 pic3 hx4 => ?_)
  obtain ⟨rfl, rfl⟩ := hx4
  refine v_iload K dL_law_560 rfl ?_
  refine v_icmp_eq K 567 dL_law_562 (by decide) rfl rfl (fun c562 => ?_) (fun c562 => absurd c562 (by omega))
  refine v_iload K dL_law_567 rfl ?_
  refine v_if_ne K 583 dL_law_569 (by decide) rfl (fun c569 => ?_) (fun c569 => ?_)
  · refine v_goto K 1166 dL_law_583 (by decide) ?_
    refine V.widen (k := cells + 6) (n := slots + 170) (by omega) (by omega) ?_
    refine v_at [(0, .ref bS), (1, .ref (ad 0)), (2, .ref (ad 1000)), (3, .ref (ad 12)), (4, .int (nI i))] (lcons rfl (lcons rfl (lcons rfl (lcons rfl (lcons rfl (lnil)))))) ?_
    exact kx _ ⟨ad, nb, ns, hw, d, no, cl, lim, use, beg, cau, B, O, S, dg, ⟨rfl, rfl, rfl⟩, hCS1.kept hhw hns (fun q hq => mf q (by omega)), ⟨(valF nb B (xs (i + 1)) (xs (i + 2))).1, mac, mtp, mvl, mse, msz, mpr, mro, mfi, mto, mpb, mpa, mlv, m1, mC.kept (fun q _ _ => mf q (by omega)), mV.kept (fun q _ _ => mf q (by omega)), mB.kept (fun q _ _ => mf q (by omega)), mO.kept (mf _ (by omega)), mS.kept (fun q _ _ => mf q (by omega)), mL.kept (mf _ (by omega)), rB, rE, rS⟩, hPU⟩
  · refine v_aload_n K 3 dL_law_572 rfl rfl ?_
    refine v_iconst (v := nI 0) K dL_law_573 (by decide) ?_
    refine v_lald K dL_law_574 k12 (by omega) (by decide) ?_
    refine v_top (v := .long (valF nb B (xs (i + 1)) (xs (i + 2))).2) (by rw [if_pos (nI_lit (k := 0) (by decide) (by omega)), pk_uLs]) ?_
    refine v_lload K dL_law_575 rfl ?_
    refine v_lcmp K dL_law_577 ?_
    have hlc := lgc0.mpr (rfl : (valF nb B (xs (i + 1)) (xs (i + 2))).2 = (valF nb B (xs (i + 1)) (xs (i + 2))).2)
    refine v_if_eq K 583 dL_law_578 (by decide) rfl (fun c578 => ?_) (fun c578 => absurd c578 (by omega))
    refine v_goto K 1166 dL_law_583 (by decide) ?_
    refine V.widen (k := cells + 6) (n := slots + 170) (by omega) (by omega) ?_
    refine v_at [(0, .ref bS), (1, .ref (ad 0)), (2, .ref (ad 1000)), (3, .ref (ad 12)), (4, .int (nI i))] (lcons rfl (lcons rfl (lcons rfl (lcons rfl (lcons rfl (lnil)))))) ?_
    exact kx _ ⟨ad, nb, ns, hw, d, no, cl, lim, use, beg, cau, B, O, S, dg, ⟨rfl, rfl, rfl⟩, hCS1.kept hhw hns (fun q hq => mf q (by omega)), ⟨(valF nb B (xs (i + 1)) (xs (i + 2))).1, mac, mtp, mvl, mse, msz, mpr, mro, mfi, mto, mpb, mpa, mlv, m1, mC.kept (fun q _ _ => mf q (by omega)), mV.kept (fun q _ _ => mf q (by omega)), mB.kept (fun q _ _ => mf q (by omega)), mO.kept (mf _ (by omega)), mS.kept (fun q _ _ => mf q (by omega)), mL.kept (mf _ (by omega)), rB, rE, rS⟩, hPU⟩

set_option maxHeartbeats 4000000 in
set_option maxRecDepth 100000 in
theorem lw_c10 {p : Program} {l : Launch} {e : Env} {s : State} {m : MethodId} {args : Array Value} {below : List Frame} {meth : Method} {c : Code} {Q : State → Prop} {D : va_G} {cA : Nat → ClassId} {base : Nat} {cw : Cond} (KE9 : KE p m c cL_law 8 s args cw RL D cA base) (hl : l.stackTraces = false) {bS L : Nat} {xs : Nat → Int32} (hX : va_X bS L xs s s.heap) (hbl : bS < s.heap.size) (hbb : bS < base) (hL9 : L ≤ 4608) {a0 aM aO : Nat} (i : Nat) (hi : i + 9 ≤ L) {pic : PIC} {cells slots : Nat} (hcc : cells + 6 ≤ 603072) (hss : slots + 170 ≤ 7207018) (hI : LInv pic cA a0 aM aO) (kx : ∀ pic1, LInv pic1 cA a0 aM aO → V p l e room_1 s m args below meth c Q D base 8 pic1 (lvOf [(0, .ref bS), (1, .ref a0), (2, .ref aM), (3, .ref aO), (4, .int (nI i))]) 1166 [] (cells + 6) (slots + 170)) : V p l e room_1 s m args below meth c Q D base 8 pic (lvOf [(0, .ref bS), (1, .ref a0), (2, .ref aM), (3, .ref aO), (4, .int (nI i))]) 586 [] cells slots := by
  have K := KE9.kx
  obtain ⟨ad, nb, ns, hw, d, no, cl, lim, use, beg, cau, B, O, S, dg, ⟨rfl, rfl, rfl⟩, hCS, hMS, hPU⟩ := hI
  have ⟨hE, hC, hBs, hOb, ⟨w0, g0, hT⟩, hO, hSs, hz1, hz2, ⟨og, f12⟩⟩ := hCS
  have ⟨hd, hnb, hhw, hns, hno5, hOn, hOk, hBn, hBg, hSb⟩ := hPU
  obtain ⟨th, mac, mtp, mvl, mse, msz, mpr, mro, mfi, mto, mpb, mpa, mlv, fM, mC, mV, mB, mO, mS, mL, rB, rE, rS⟩ := hMS
  have fE := hE
  unfold EObj at fE
  have hnb40 : nb ≤ 40 := Nat.le_trans hnb hhw
  refine v_aload_n K 1 dL_law_586 rfl rfl ?_
  refine v_aload_n K 0 dL_law_587 rfl rfl ?_
  refine v_iload K dL_law_588 rfl ?_
  refine v_iconst (v := nI 1) K dL_law_590 (by decide) ?_
  refine v_iaddN K dL_law_591 ?_
  refine v_sald K hX hbl hbb dL_law_592 (by omega) (by omega) ?_
  refine v_aload_n K 3 dL_law_593 rfl rfl ?_
  refine v_callSW KE9 (As := [.ref (ad 0), .int (xs (i + 1)), .ref (ad 12)]) gw_375 gw_376 gw_347 gw_377 ⟨by decide, by decide, (by decide +kernel : (parseMethodDescriptor yL_root.desc).map (fun d => d.parameters.length) = some 3)⟩ dL_law_594 (c_L_root l hl D cA base pic ad nb ns hw cl B _ og hE hBs hnb hhw hBn f12) rfl rfl ⟨by decide, by decide⟩ rfl (Nat.le_of_ble_eq_true rfl) ⟨show _ ≤ 603072 from by omega, show _ ≤ 7207018 from by omega⟩ (fun x9 pic9 hx => ?_)
  obtain ⟨rfl, k12, kf⟩ := hx
  have hCS1 : CS pic9 cA ad nb ns hw d no cl lim use beg cau B O S dg := ⟨(kf 0 (by omega)).trans hE, hC.kept (fun q _ _ => kf q (by omega)), hBs.kept (fun q hq => kf q (by omega)), hOb.kept (fun q _ _ => kf q (by omega)), ⟨w0, g0, hT.kept (fun q _ _ => kf q (by omega))⟩, hO.kept (fun q _ _ => kf q (by omega)), hSs.kept (fun q hq => kf q (by omega)), fun q h1 h2 => (kf q (by omega)).trans (hz1 q h1 h2), fun j h1 h2 => (kf _ (by omega)).trans (hz2 j h1 h2), ⟨_, k12⟩⟩
  replace fM := (kf 1000 (by omega)).trans fM
  replace mC := mC.kept (fun q _ _ => kf q (by omega))
  replace mV := mV.kept (fun q _ _ => kf q (by omega))
  replace mB := mB.kept (fun q _ _ => kf q (by omega))
  replace mO := mO.kept (kf _ (by omega))
  replace mS := mS.kept (fun q _ _ => kf q (by omega))
  replace mL := mL.kept (kf _ (by omega))
  refine v_istore K dL_law_597 (by decide) ?_
  refine v_aload_n K 2 dL_law_599 rfl rfl ?_
  refine v_aload_n K 0 dL_law_600 rfl rfl ?_
  refine v_iload K dL_law_601 rfl ?_
  refine v_iconst (v := nI 1) K dL_law_603 (by decide) ?_
  refine v_iaddN K dL_law_604 ?_
  refine v_sald K hX hbl hbb dL_law_605 (by omega) (by omega) ?_
  refine cl_L_88 K dL_law_606 fM (c_X6_root l D cA base pic9 ad th cl (nI (bN O)) nb d no ns mac mtp mvl mse msz mpr mro mfi B _ fM mV mB rB hnb40) rfl rfl ⟨by decide, by decide⟩ (Nat.le_of_ble_eq_true rfl) ⟨show _ ≤ 603072 from by omega, show _ ≤ 7207018 from by omega⟩ (fun x606 pic1 hx2 => ?_)
  obtain ⟨rfl, m1, mf⟩ := hx2
  replace k12 := (mf 12 (by omega)).trans k12
  refine v_lstore K dL_law_609 (by decide) ?_
  refine v_aload_n K 2 dL_law_611 rfl rfl ?_
  refine cl_L_82 K dL_law_612 m1 (c_X6_thrown l D cA base pic1 ad _ cl (nI (bN O)) nb d no ns m1) rfl rfl ⟨by decide, by decide⟩ (Nat.le_of_ble_eq_true rfl) ⟨show _ ≤ 603072 from by omega, show _ ≤ 7207018 from by omega⟩ (fun x612 pic3 hx4 => ?_)
  obtain ⟨rfl, rfl⟩ := hx4
  refine v_iload K dL_law_615 rfl ?_
  refine v_icmp_eq K 622 dL_law_617 (by decide) rfl rfl (fun c617 => ?_) (fun c617 => absurd c617 (by omega))
  refine v_iload K dL_law_622 rfl ?_
  refine v_if_ne K 638 dL_law_624 (by decide) rfl (fun c624 => ?_) (fun c624 => ?_)
  · refine v_goto K 1166 dL_law_638 (by decide) ?_
    refine V.widen (k := cells + 6) (n := slots + 170) (by omega) (by omega) ?_
    refine v_at [(0, .ref bS), (1, .ref (ad 0)), (2, .ref (ad 1000)), (3, .ref (ad 12)), (4, .int (nI i))] (lcons rfl (lcons rfl (lcons rfl (lcons rfl (lcons rfl (lnil)))))) ?_
    exact kx _ ⟨ad, nb, ns, hw, d, no, cl, lim, use, beg, cau, B, O, S, dg, ⟨rfl, rfl, rfl⟩, hCS1.kept hhw hns (fun q hq => mf q (by omega)), ⟨(rooF nb B (xs (i + 1))).1, mac, mtp, mvl, mse, msz, mpr, mro, mfi, mto, mpb, mpa, mlv, m1, mC.kept (fun q _ _ => mf q (by omega)), mV.kept (fun q _ _ => mf q (by omega)), mB.kept (fun q _ _ => mf q (by omega)), mO.kept (mf _ (by omega)), mS.kept (fun q _ _ => mf q (by omega)), mL.kept (mf _ (by omega)), rB, rE, rS⟩, hPU⟩
  · refine v_aload_n K 3 dL_law_627 rfl rfl ?_
    refine v_iconst (v := nI 0) K dL_law_628 (by decide) ?_
    refine v_lald K dL_law_629 k12 (by omega) (by decide) ?_
    refine v_top (v := .long (rooF nb B (xs (i + 1))).2) (by rw [if_pos (nI_lit (k := 0) (by decide) (by omega)), pk_uLs]) ?_
    refine v_lload K dL_law_630 rfl ?_
    refine v_lcmp K dL_law_632 ?_
    have hlc := lgc0.mpr (rfl : (rooF nb B (xs (i + 1))).2 = (rooF nb B (xs (i + 1))).2)
    refine v_if_eq K 638 dL_law_633 (by decide) rfl (fun c633 => ?_) (fun c633 => absurd c633 (by omega))
    refine v_goto K 1166 dL_law_638 (by decide) ?_
    refine V.widen (k := cells + 6) (n := slots + 170) (by omega) (by omega) ?_
    refine v_at [(0, .ref bS), (1, .ref (ad 0)), (2, .ref (ad 1000)), (3, .ref (ad 12)), (4, .int (nI i))] (lcons rfl (lcons rfl (lcons rfl (lcons rfl (lcons rfl (lnil)))))) ?_
    exact kx _ ⟨ad, nb, ns, hw, d, no, cl, lim, use, beg, cau, B, O, S, dg, ⟨rfl, rfl, rfl⟩, hCS1.kept hhw hns (fun q hq => mf q (by omega)), ⟨(rooF nb B (xs (i + 1))).1, mac, mtp, mvl, mse, msz, mpr, mro, mfi, mto, mpb, mpa, mlv, m1, mC.kept (fun q _ _ => mf q (by omega)), mV.kept (fun q _ _ => mf q (by omega)), mB.kept (fun q _ _ => mf q (by omega)), mO.kept (mf _ (by omega)), mS.kept (fun q _ _ => mf q (by omega)), mL.kept (mf _ (by omega)), rB, rE, rS⟩, hPU⟩

set_option maxHeartbeats 4000000 in
set_option maxRecDepth 100000 in
theorem lw_c11 {p : Program} {l : Launch} {e : Env} {s : State} {m : MethodId} {args : Array Value} {below : List Frame} {meth : Method} {c : Code} {Q : State → Prop} {D : va_G} {cA : Nat → ClassId} {base : Nat} {cw : Cond} (KE9 : KE p m c cL_law 8 s args cw RL D cA base) (hl : l.stackTraces = false) {bS L : Nat} {xs : Nat → Int32} (hX : va_X bS L xs s s.heap) (hbl : bS < s.heap.size) (hbb : bS < base) (hL9 : L ≤ 4608) {a0 aM aO : Nat} (i : Nat) (hi : i + 9 ≤ L) {pic : PIC} {cells slots : Nat} (hcc : cells + 6 ≤ 603072) (hss : slots + 170 ≤ 7207018) (hI : LInv pic cA a0 aM aO) (kx : ∀ pic1, LInv pic1 cA a0 aM aO → V p l e room_1 s m args below meth c Q D base 8 pic1 (lvOf [(0, .ref bS), (1, .ref a0), (2, .ref aM), (3, .ref aO), (4, .int (nI i))]) 1166 [] (cells + 6) (slots + 170)) : V p l e room_1 s m args below meth c Q D base 8 pic (lvOf [(0, .ref bS), (1, .ref a0), (2, .ref aM), (3, .ref aO), (4, .int (nI i))]) 641 [] cells slots := by
  have K := KE9.kx
  obtain ⟨ad, nb, ns, hw, d, no, cl, lim, use, beg, cau, B, O, S, dg, ⟨rfl, rfl, rfl⟩, hCS, hMS, hPU⟩ := hI
  have ⟨hE, hC, hBs, hOb, ⟨w0, g0, hT⟩, hO, hSs, hz1, hz2, ⟨og, f12⟩⟩ := hCS
  have ⟨hd, hnb, hhw, hns, hno5, hOn, hOk, hBn, hBg, hSb⟩ := hPU
  obtain ⟨th, mac, mtp, mvl, mse, msz, mpr, mro, mfi, mto, mpb, mpa, mlv, fM, mC, mV, mB, mO, mS, mL, rB, rE, rS⟩ := hMS
  have fE := hE
  unfold EObj at fE
  have hnb40 : nb ≤ 40 := Nat.le_trans hnb hhw
  refine v_aload_n K 1 dL_law_641 rfl rfl ?_
  refine v_aload_n K 0 dL_law_642 rfl rfl ?_
  refine v_iload K dL_law_643 rfl ?_
  refine v_iconst (v := nI 1) K dL_law_645 (by decide) ?_
  refine v_iaddN K dL_law_646 ?_
  refine v_sald K hX hbl hbb dL_law_647 (by omega) (by omega) ?_
  refine v_aload_n K 3 dL_law_648 rfl rfl ?_
  refine v_callSW KE9 (As := [.ref (ad 0), .int (xs (i + 1)), .ref (ad 12)]) gw_387 gw_388 gw_347 gw_389 ⟨by decide, by decide, (by decide +kernel : (parseMethodDescriptor yL_filter.desc).map (fun d => d.parameters.length) = some 3)⟩ dL_law_649 (c_L_filter l hl D cA base pic ad nb ns hw cl B _ og hE hBs hnb hhw hBn f12) rfl rfl ⟨by decide, by decide⟩ rfl (Nat.le_of_ble_eq_true rfl) ⟨show _ ≤ 603072 from by omega, show _ ≤ 7207018 from by omega⟩ (fun x9 pic9 hx => ?_)
  obtain ⟨rfl, k12, kf⟩ := hx
  have hCS1 : CS pic9 cA ad nb ns hw d no cl lim use beg cau B O S dg := ⟨(kf 0 (by omega)).trans hE, hC.kept (fun q _ _ => kf q (by omega)), hBs.kept (fun q hq => kf q (by omega)), hOb.kept (fun q _ _ => kf q (by omega)), ⟨w0, g0, hT.kept (fun q _ _ => kf q (by omega))⟩, hO.kept (fun q _ _ => kf q (by omega)), hSs.kept (fun q hq => kf q (by omega)), fun q h1 h2 => (kf q (by omega)).trans (hz1 q h1 h2), fun j h1 h2 => (kf _ (by omega)).trans (hz2 j h1 h2), ⟨_, k12⟩⟩
  replace fM := (kf 1000 (by omega)).trans fM
  replace mC := mC.kept (fun q _ _ => kf q (by omega))
  replace mV := mV.kept (fun q _ _ => kf q (by omega))
  replace mB := mB.kept (fun q _ _ => kf q (by omega))
  replace mO := mO.kept (kf _ (by omega))
  replace mS := mS.kept (fun q _ _ => kf q (by omega))
  replace mL := mL.kept (kf _ (by omega))
  refine v_istore K dL_law_652 (by decide) ?_
  refine v_aload_n K 2 dL_law_654 rfl rfl ?_
  refine v_aload_n K 0 dL_law_655 rfl rfl ?_
  refine v_iload K dL_law_656 rfl ?_
  refine v_iconst (v := nI 1) K dL_law_658 (by decide) ?_
  refine v_iaddN K dL_law_659 ?_
  refine v_sald K hX hbl hbb dL_law_660 (by omega) (by omega) ?_
  refine cl_L_91 K dL_law_661 fM (c_X6_filter l D cA base pic9 ad th cl (nI (bN O)) nb d no ns mac mtp mvl mse msz mpr mro mfi B _ fM mV mB rB hnb40) rfl rfl ⟨by decide, by decide⟩ (Nat.le_of_ble_eq_true rfl) ⟨show _ ≤ 603072 from by omega, show _ ≤ 7207018 from by omega⟩ (fun x661 pic1 hx2 => ?_)
  obtain ⟨rfl, m1, mf⟩ := hx2
  replace k12 := (mf 12 (by omega)).trans k12
  refine v_lstore K dL_law_664 (by decide) ?_
  refine v_aload_n K 2 dL_law_666 rfl rfl ?_
  refine cl_L_82 K dL_law_667 m1 (c_X6_thrown l D cA base pic1 ad _ cl (nI (bN O)) nb d no ns m1) rfl rfl ⟨by decide, by decide⟩ (Nat.le_of_ble_eq_true rfl) ⟨show _ ≤ 603072 from by omega, show _ ≤ 7207018 from by omega⟩ (fun x667 pic3 hx4 => ?_)
  obtain ⟨rfl, rfl⟩ := hx4
  refine v_iload K dL_law_670 rfl ?_
  refine v_icmp_eq K 677 dL_law_672 (by decide) rfl rfl (fun c672 => ?_) (fun c672 => absurd c672 (by omega))
  refine v_iload K dL_law_677 rfl ?_
  refine v_if_ne K 693 dL_law_679 (by decide) rfl (fun c679 => ?_) (fun c679 => ?_)
  · refine v_goto K 1166 dL_law_693 (by decide) ?_
    refine V.widen (k := cells + 6) (n := slots + 170) (by omega) (by omega) ?_
    refine v_at [(0, .ref bS), (1, .ref (ad 0)), (2, .ref (ad 1000)), (3, .ref (ad 12)), (4, .int (nI i))] (lcons rfl (lcons rfl (lcons rfl (lcons rfl (lcons rfl (lnil)))))) ?_
    exact kx _ ⟨ad, nb, ns, hw, d, no, cl, lim, use, beg, cau, B, O, S, dg, ⟨rfl, rfl, rfl⟩, hCS1.kept hhw hns (fun q hq => mf q (by omega)), ⟨(filF nb B (xs (i + 1))).1, mac, mtp, mvl, mse, msz, mpr, mro, mfi, mto, mpb, mpa, mlv, m1, mC.kept (fun q _ _ => mf q (by omega)), mV.kept (fun q _ _ => mf q (by omega)), mB.kept (fun q _ _ => mf q (by omega)), mO.kept (mf _ (by omega)), mS.kept (fun q _ _ => mf q (by omega)), mL.kept (mf _ (by omega)), rB, rE, rS⟩, hPU⟩
  · refine v_aload_n K 3 dL_law_682 rfl rfl ?_
    refine v_iconst (v := nI 0) K dL_law_683 (by decide) ?_
    refine v_lald K dL_law_684 k12 (by omega) (by decide) ?_
    refine v_top (v := .long (filF nb B (xs (i + 1))).2) (by rw [if_pos (nI_lit (k := 0) (by decide) (by omega)), pk_uLs]) ?_
    refine v_lload K dL_law_685 rfl ?_
    refine v_lcmp K dL_law_687 ?_
    have hlc := lgc0.mpr (rfl : (filF nb B (xs (i + 1))).2 = (filF nb B (xs (i + 1))).2)
    refine v_if_eq K 693 dL_law_688 (by decide) rfl (fun c688 => ?_) (fun c688 => absurd c688 (by omega))
    refine v_goto K 1166 dL_law_693 (by decide) ?_
    refine V.widen (k := cells + 6) (n := slots + 170) (by omega) (by omega) ?_
    refine v_at [(0, .ref bS), (1, .ref (ad 0)), (2, .ref (ad 1000)), (3, .ref (ad 12)), (4, .int (nI i))] (lcons rfl (lcons rfl (lcons rfl (lcons rfl (lcons rfl (lnil)))))) ?_
    exact kx _ ⟨ad, nb, ns, hw, d, no, cl, lim, use, beg, cau, B, O, S, dg, ⟨rfl, rfl, rfl⟩, hCS1.kept hhw hns (fun q hq => mf q (by omega)), ⟨(filF nb B (xs (i + 1))).1, mac, mtp, mvl, mse, msz, mpr, mro, mfi, mto, mpb, mpa, mlv, m1, mC.kept (fun q _ _ => mf q (by omega)), mV.kept (fun q _ _ => mf q (by omega)), mB.kept (fun q _ _ => mf q (by omega)), mO.kept (mf _ (by omega)), mS.kept (fun q _ _ => mf q (by omega)), mL.kept (mf _ (by omega)), rB, rE, rS⟩, hPU⟩

set_option maxHeartbeats 4000000 in
set_option maxRecDepth 100000 in
theorem lw_c12 {p : Program} {l : Launch} {e : Env} {s : State} {m : MethodId} {args : Array Value} {below : List Frame} {meth : Method} {c : Code} {Q : State → Prop} {D : va_G} {cA : Nat → ClassId} {base : Nat} {cw : Cond} (KE9 : KE p m c cL_law 8 s args cw RL D cA base) (hl : l.stackTraces = false) {bS L : Nat} {xs : Nat → Int32} (hX : va_X bS L xs s s.heap) (hbl : bS < s.heap.size) (hbb : bS < base) (hL9 : L ≤ 4608) {a0 aM aO : Nat} (i : Nat) (hi : i + 9 ≤ L) {pic : PIC} {cells slots : Nat} (hcc : cells + 6 ≤ 603072) (hss : slots + 170 ≤ 7207018) (hI : LInv pic cA a0 aM aO) (kx : ∀ pic1, LInv pic1 cA a0 aM aO → V p l e room_1 s m args below meth c Q D base 8 pic1 (lvOf [(0, .ref bS), (1, .ref a0), (2, .ref aM), (3, .ref aO), (4, .int (nI i))]) 1166 [] (cells + 6) (slots + 170)) : V p l e room_1 s m args below meth c Q D base 8 pic (lvOf [(0, .ref bS), (1, .ref a0), (2, .ref aM), (3, .ref aO), (4, .int (nI i))]) 696 [] cells slots := by
  have K := KE9.kx
  obtain ⟨ad, nb, ns, hw, d, no, cl, lim, use, beg, cau, B, O, S, dg, ⟨rfl, rfl, rfl⟩, hCS, hMS, hPU⟩ := hI
  have ⟨hE, hC, hBs, hOb, ⟨w0, g0, hT⟩, hO, hSs, hz1, hz2, ⟨og, f12⟩⟩ := hCS
  have ⟨hd, hnb, hhw, hns, hno5, hOn, hOk, hBn, hBg, hSb⟩ := hPU
  obtain ⟨th, mac, mtp, mvl, mse, msz, mpr, mro, mfi, mto, mpb, mpa, mlv, fM, mC, mV, mB, mO, mS, mL, rB, rE, rS⟩ := hMS
  have fE := hE
  unfold EObj at fE
  have hnb40 : nb ≤ 40 := Nat.le_trans hnb hhw
  refine v_aload_n K 1 dL_law_696 rfl rfl ?_
  refine v_aload_n K 0 dL_law_697 rfl rfl ?_
  refine v_iload K dL_law_698 rfl ?_
  refine v_iconst (v := nI 1) K dL_law_700 (by decide) ?_
  refine v_iaddN K dL_law_701 ?_
  refine v_sald K hX hbl hbb dL_law_702 (by omega) (by omega) ?_
  refine v_aload_n K 0 dL_law_703 rfl rfl ?_
  refine v_iload K dL_law_704 rfl ?_
  refine v_iconst (v := nI 2) K dL_law_706 (by decide) ?_
  refine v_iaddN K dL_law_707 ?_
  refine v_sald K hX hbl hbb dL_law_708 (by omega) (by omega) ?_
  refine cl_L_92 K dL_law_709 fE (c_X5_may l D cA base pic ad nb ns hw cl B _ _ hE hBs hnb hhw hBn) rfl rfl ⟨by decide, by decide⟩ (Nat.le_of_ble_eq_true rfl) ⟨show _ ≤ 603072 from by omega, show _ ≤ 7207018 from by omega⟩ (fun x709 pic1 hx2 => ?_)
  obtain ⟨rfl, rfl⟩ := hx2
  refine v_aload_n K 2 dL_law_712 rfl rfl ?_
  refine v_aload_n K 0 dL_law_713 rfl rfl ?_
  refine v_iload K dL_law_714 rfl ?_
  refine v_iconst (v := nI 1) K dL_law_716 (by decide) ?_
  refine v_iaddN K dL_law_717 ?_
  refine v_sald K hX hbl hbb dL_law_718 (by omega) (by omega) ?_
  refine v_aload_n K 0 dL_law_719 rfl rfl ?_
  refine v_iload K dL_law_720 rfl ?_
  refine v_iconst (v := nI 2) K dL_law_722 (by decide) ?_
  refine v_iaddN K dL_law_723 ?_
  refine v_sald K hX hbl hbb dL_law_724 (by omega) (by omega) ?_
  refine cl_L_95 K dL_law_725 fM (c_X6_may l D cA base pic ad th cl (nI (bN O)) nb d no ns mac mtp mvl mse msz mpr mro mfi B _ _ fM mV mB rB hnb40) rfl rfl ⟨by decide, by decide⟩ (Nat.le_of_ble_eq_true rfl) ⟨show _ ≤ 603072 from by omega, show _ ≤ 7207018 from by omega⟩ (fun x725 pic3 hx4 => ?_)
  obtain ⟨rfl, rfl⟩ := hx4
  refine v_icmp_eq K 1166 dL_law_728 (by decide) rfl rfl (fun c728 => ?_) (fun c728 => absurd c728 (by omega))
  refine V.widen (k := cells + 6) (n := slots + 170) (by omega) (by omega) ?_
  refine v_at [(0, .ref bS), (1, .ref (ad 0)), (2, .ref (ad 1000)), (3, .ref (ad 12)), (4, .int (nI i))] (lcons rfl (lcons rfl (lcons rfl (lcons rfl (lcons rfl (lnil)))))) ?_
  exact kx _ ⟨ad, nb, ns, hw, d, no, cl, lim, use, beg, cau, B, O, S, dg, ⟨rfl, rfl, rfl⟩, hCS, ⟨th, mac, mtp, mvl, mse, msz, mpr, mro, mfi, mto, mpb, mpa, mlv, fM, mC, mV, mB, mO, mS, mL, rB, rE, rS⟩, hPU⟩

set_option maxHeartbeats 4000000 in
set_option maxRecDepth 100000 in
theorem lw_c13 {p : Program} {l : Launch} {e : Env} {s : State} {m : MethodId} {args : Array Value} {below : List Frame} {meth : Method} {c : Code} {Q : State → Prop} {D : va_G} {cA : Nat → ClassId} {base : Nat} {cw : Cond} (KE9 : KE p m c cL_law 8 s args cw RL D cA base) (hl : l.stackTraces = false) {bS L : Nat} {xs : Nat → Int32} (hX : va_X bS L xs s s.heap) (hbl : bS < s.heap.size) (hbb : bS < base) (hL9 : L ≤ 4608) {a0 aM aO : Nat} (i : Nat) (hi : i + 9 ≤ L) {pic : PIC} {cells slots : Nat} (hcc : cells + 6 ≤ 603072) (hss : slots + 170 ≤ 7207018) (hI : LInv pic cA a0 aM aO) (kx : ∀ pic1, LInv pic1 cA a0 aM aO → V p l e room_1 s m args below meth c Q D base 8 pic1 (lvOf [(0, .ref bS), (1, .ref a0), (2, .ref aM), (3, .ref aO), (4, .int (nI i))]) 1166 [] (cells + 6) (slots + 170)) : V p l e room_1 s m args below meth c Q D base 8 pic (lvOf [(0, .ref bS), (1, .ref a0), (2, .ref aM), (3, .ref aO), (4, .int (nI i))]) 733 [] cells slots := by
  have K := KE9.kx
  obtain ⟨ad, nb, ns, hw, d, no, cl, lim, use, beg, cau, B, O, S, dg, ⟨rfl, rfl, rfl⟩, hCS, hMS, hPU⟩ := hI
  have ⟨hE, hC, hBs, hOb, ⟨w0, g0, hT⟩, hO, hSs, hz1, hz2, ⟨og, f12⟩⟩ := hCS
  have ⟨hd, hnb, hhw, hns, hno5, hOn, hOk, hBn, hBg, hSb⟩ := hPU
  obtain ⟨th, mac, mtp, mvl, mse, msz, mpr, mro, mfi, mto, mpb, mpa, mlv, fM, mC, mV, mB, mO, mS, mL, rB, rE, rS⟩ := hMS
  have fE := hE
  unfold EObj at fE
  have hnb40 : nb ≤ 40 := Nat.le_trans hnb hhw
  refine v_aload_n K 1 dL_law_733 rfl rfl ?_
  refine v_aload_n K 0 dL_law_734 rfl rfl ?_
  refine v_iload K dL_law_735 rfl ?_
  refine v_iconst (v := nI 1) K dL_law_737 (by decide) ?_
  refine v_iaddN K dL_law_738 ?_
  refine v_sald K hX hbl hbb dL_law_739 (by omega) (by omega) ?_
  refine v_aload_n K 0 dL_law_740 rfl rfl ?_
  refine v_iload K dL_law_741 rfl ?_
  refine v_iconst (v := nI 2) K dL_law_743 (by decide) ?_
  refine v_iaddN K dL_law_744 ?_
  refine v_sald K hX hbl hbb dL_law_745 (by omega) (by omega) ?_
  refine v_aload_n K 0 dL_law_746 rfl rfl ?_
  refine v_iload K dL_law_747 rfl ?_
  refine v_iconst (v := nI 3) K dL_law_749 (by decide) ?_
  refine v_iaddN K dL_law_750 ?_
  refine v_sald K hX hbl hbb dL_law_751 (by omega) (by omega) ?_
  refine cl_L_96 K dL_law_752 fE (c_X5_find l D cA base pic ad nb ns hw cl B _ _ _ hE hBs hnb hhw hBn) rfl rfl ⟨by decide, by decide⟩ (Nat.le_of_ble_eq_true rfl) ⟨show _ ≤ 603072 from by omega, show _ ≤ 7207018 from by omega⟩ (fun x752 pic1 hx2 => ?_)
  obtain ⟨rfl, rfl⟩ := hx2
  refine v_aload_n K 2 dL_law_755 rfl rfl ?_
  refine v_aload_n K 0 dL_law_756 rfl rfl ?_
  refine v_iload K dL_law_757 rfl ?_
  refine v_iconst (v := nI 1) K dL_law_759 (by decide) ?_
  refine v_iaddN K dL_law_760 ?_
  refine v_sald K hX hbl hbb dL_law_761 (by omega) (by omega) ?_
  refine v_aload_n K 0 dL_law_762 rfl rfl ?_
  refine v_iload K dL_law_763 rfl ?_
  refine v_iconst (v := nI 2) K dL_law_765 (by decide) ?_
  refine v_iaddN K dL_law_766 ?_
  refine v_sald K hX hbl hbb dL_law_767 (by omega) (by omega) ?_
  refine v_aload_n K 0 dL_law_768 rfl rfl ?_
  refine v_iload K dL_law_769 rfl ?_
  refine v_iconst (v := nI 3) K dL_law_771 (by decide) ?_
  refine v_iaddN K dL_law_772 ?_
  refine v_sald K hX hbl hbb dL_law_773 (by omega) (by omega) ?_
  refine cl_L_99 K dL_law_774 fM (c_X6_find l D cA base pic ad th cl (nI (bN O)) nb d no ns mac mtp mvl mse msz mpr mro mfi B _ _ _ fM mV mB rB hnb40) rfl rfl ⟨by decide, by decide⟩ (Nat.le_of_ble_eq_true rfl) ⟨show _ ≤ 603072 from by omega, show _ ≤ 7207018 from by omega⟩ (fun x774 pic3 hx4 => ?_)
  obtain ⟨rfl, rfl⟩ := hx4
  refine v_icmp_eq K 1166 dL_law_777 (by decide) rfl rfl (fun c777 => ?_) (fun c777 => absurd c777 (by omega))
  refine V.widen (k := cells + 6) (n := slots + 170) (by omega) (by omega) ?_
  refine v_at [(0, .ref bS), (1, .ref (ad 0)), (2, .ref (ad 1000)), (3, .ref (ad 12)), (4, .int (nI i))] (lcons rfl (lcons rfl (lcons rfl (lcons rfl (lcons rfl (lnil)))))) ?_
  exact kx _ ⟨ad, nb, ns, hw, d, no, cl, lim, use, beg, cau, B, O, S, dg, ⟨rfl, rfl, rfl⟩, hCS, ⟨th, mac, mtp, mvl, mse, msz, mpr, mro, mfi, mto, mpb, mpa, mlv, fM, mC, mV, mB, mO, mS, mL, rB, rE, rS⟩, hPU⟩

