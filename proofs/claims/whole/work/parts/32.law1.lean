set_option maxHeartbeats 4000000 in
set_option maxRecDepth 100000 in
theorem lw_c4 {p : Program} {l : Launch} {e : Env} {s : State} {m : MethodId} {args : Array Value} {below : List Frame} {meth : Method} {c : Code} {Q : State → Prop} {D : va_G} {cA : Nat → ClassId} {base : Nat} {cw : Cond} (KE9 : KE p m c cL_law 8 s args cw RL D cA base) (hl : l.stackTraces = false) {bS L : Nat} {xs : Nat → Int32} (hX : va_X bS L xs s s.heap) (hbl : bS < s.heap.size) (hbb : bS < base) (hL9 : L ≤ 4608) {a0 aM aO : Nat} (i : Nat) (hi : i + 9 ≤ L) {pic : PIC} {cells slots : Nat} (hcc : cells + 6 ≤ 603072) (hss : slots + 170 ≤ 7207018) (hI : LInv pic cA a0 aM aO) (kx : ∀ pic1, LInv pic1 cA a0 aM aO → V p l e room_1 s m args below meth c Q D base 8 pic1 (lvOf [(0, .ref bS), (1, .ref a0), (2, .ref aM), (3, .ref aO), (4, .int (nI i))]) 1166 [] (cells + 6) (slots + 170)) : V p l e room_1 s m args below meth c Q D base 8 pic (lvOf [(0, .ref bS), (1, .ref a0), (2, .ref aM), (3, .ref aO), (4, .int (nI i))]) 370 [] cells slots := by
  have K := KE9.kx
  obtain ⟨ad, nb, ns, hw, d, no, cl, lim, use, beg, cau, B, O, S, dg, ⟨rfl, rfl, rfl⟩, hCS, hMS, hPU⟩ := hI
  have ⟨hE, hC, hBs, hOb, ⟨w0, g0, hT⟩, hO, hSs, hz1, hz2, ⟨og, f12⟩⟩ := hCS
  have ⟨hd, hnb, hhw, hns, hno5, hOn, hOk, hBn, hBg, hSb⟩ := hPU
  obtain ⟨th, mac, mtp, mvl, mse, msz, mpr, mro, mfi, mto, mpb, mpa, mlv, fM, mC, mV, mB, mO, mS, mL, rB, rE, rS⟩ := hMS
  have fE := hE
  unfold EObj at fE
  have hnb40 : nb ≤ 40 := Nat.le_trans hnb hhw
  refine v_aload_n K 1 dL_law_370 rfl rfl ?_
  refine cl_L_53 K dL_law_371 fE (c_X5_close l D cA base pic d lim use beg cau ad nb ns hw cl B w0 g0 O hE hC hd hBs hT hOb hnb hhw hBn hOn hz1) rfl rfl ⟨by decide, by decide⟩ (Nat.le_of_ble_eq_true rfl) ⟨show _ ≤ 603072 from by omega, show _ ≤ 7207018 from by omega⟩ (fun x371 pic1 hx2 => ?_)
  rcases hx2 with ⟨rfl, hg, rfl⟩ | ⟨rfl, hg, hf, rfl⟩ | ⟨hg, hf, rfl, hR⟩
  · refine v_aload_n K 2 dL_law_374 rfl rfl ?_
    refine cl_L_57 K dL_law_375 fM (c_X6_close l D cA base pic ad th cl nb d no ns mac mtp mvl mse msz mpr mro mfi B mlv O fM mV mB rB hnb40 mL hd hOn hOk rE) rfl rfl ⟨by decide, by decide⟩ (Nat.le_of_ble_eq_true rfl) ⟨show _ ≤ 603072 from by omega, show _ ≤ 7207018 from by omega⟩ (fun x375 pic3 hx4 => ?_)
    rcases hx4 with ⟨rfl, mg, rfl⟩ | ⟨rfl, mg, me, rfl⟩ | ⟨mg, me, rfl, m1, ⟨mac1, mtp1, mvl1, mse1, msz1, mpr1, mro1, mfi1, m2, m3, m4⟩, ⟨g2, m5⟩, mf⟩
    · refine v_icmp_eq K 1166 dL_law_378 (by decide) rfl rfl (fun c378 => ?_) (fun c378 => absurd c378 (by omega))
      refine V.widen (k := cells + 6) (n := slots + 170) (by omega) (by omega) ?_
      refine v_at [(0, .ref bS), (1, .ref (ad 0)), (2, .ref (ad 1000)), (3, .ref (ad 12)), (4, .int (nI i))] (lcons rfl (lcons rfl (lcons rfl (lcons rfl (lcons rfl (lnil)))))) ?_
      exact kx _ ⟨ad, nb, ns, hw, d, no, cl, lim, use, beg, cau, B, O, S, dg, ⟨rfl, rfl, rfl⟩, hCS, ⟨th, mac, mtp, mvl, mse, msz, mpr, mro, mfi, mto, mpb, mpa, mlv, fM, mC, mV, mB, mO, mS, mL, rB, rE, rS⟩, hPU⟩
    · exact absurd mg (by omega)
    · exact absurd mg (by omega)
  · refine v_aload_n K 2 dL_law_374 rfl rfl ?_
    refine cl_L_57 K dL_law_375 fM (c_X6_close l D cA base pic ad th cl nb d no ns mac mtp mvl mse msz mpr mro mfi B mlv O fM mV mB rB hnb40 mL hd hOn hOk rE) rfl rfl ⟨by decide, by decide⟩ (Nat.le_of_ble_eq_true rfl) ⟨show _ ≤ 603072 from by omega, show _ ≤ 7207018 from by omega⟩ (fun x375 pic5 hx6 => ?_)
    rcases hx6 with ⟨rfl, mg, rfl⟩ | ⟨rfl, mg, me, rfl⟩ | ⟨mg, me, rfl, m1, ⟨mac1, mtp1, mvl1, mse1, msz1, mpr1, mro1, mfi1, m2, m3, m4⟩, ⟨g2, m5⟩, mf⟩
    · exact absurd mg (by omega)
    · refine v_icmp_eq K 1166 dL_law_378 (by decide) rfl rfl (fun c378 => ?_) (fun c378 => absurd c378 (by omega))
      refine V.widen (k := cells + 6) (n := slots + 170) (by omega) (by omega) ?_
      refine v_at [(0, .ref bS), (1, .ref (ad 0)), (2, .ref (ad 1000)), (3, .ref (ad 12)), (4, .int (nI i))] (lcons rfl (lcons rfl (lcons rfl (lcons rfl (lcons rfl (lnil)))))) ?_
      exact kx _ ⟨ad, nb, ns, hw, d, no, cl, lim, use, beg, cau, B, O, S, dg, ⟨rfl, rfl, rfl⟩, hCS, ⟨th, mac, mtp, mvl, mse, msz, mpr, mro, mfi, mto, mpb, mpa, mlv, fM, mC, mV, mB, mO, mS, mL, rB, rE, rS⟩, hPU⟩
    · exact absurd me (by omega)
  · obtain ⟨ad1, hw1, O1, a1, a2, a3, a4, a5, a6, a7, a8, a9, a10, a11, kf⟩ := hR
    have hCS1 : CS pic1 cA ad1 (nb + 1) ns hw1 d no (cl + nI (bN O)) lim use beg cau (va_up B nb (newB O cl)) O1 S dg := ⟨a2, CallsA.atA (hC.kept (fun q _ _ => kf q (by omega))) (fun r hr => a1 r (by omega)), a3, a4, a10, (by rw [a1 9 (by omega), a1 10 (by omega)]; exact hO.kept (fun q _ _ => kf q (by omega))), (hSs.kept (fun q hq => kf q (by omega))).atA (fun r hr => a1 r (by omega)), a11, fun j h1 h2 => (kf _ (by omega)).trans (hz2 j h1 h2), ⟨og, by rw [a1 12 (by omega)]; exact (kf 12 (by omega)).trans f12⟩⟩
    replace fM := (kf 1000 (by omega)).trans fM
    replace mC := mC.kept (fun q _ _ => kf q (by omega))
    replace mV := mV.kept (fun q _ _ => kf q (by omega))
    replace mB := mB.kept (fun q _ _ => kf q (by omega))
    replace mO := mO.kept (kf _ (by omega))
    replace mS := mS.kept (fun q _ _ => kf q (by omega))
    replace mL := mL.kept (kf _ (by omega))
    refine v_aload_n K 2 dL_law_374 rfl rfl ?_
    refine cl_L_57 K dL_law_375 fM (c_X6_close l D cA base pic1 ad th cl nb d no ns mac mtp mvl mse msz mpr mro mfi B mlv O fM mV mB rB hnb40 mL hd hOn hOk rE) rfl rfl ⟨by decide, by decide⟩ (Nat.le_of_ble_eq_true rfl) ⟨show _ ≤ 603072 from by omega, show _ ≤ 7207018 from by omega⟩ (fun x375 pic7 hx8 => ?_)
    rcases hx8 with ⟨rfl, mg, rfl⟩ | ⟨rfl, mg, me, rfl⟩ | ⟨mg, me, rfl, m1, ⟨mac1, mtp1, mvl1, mse1, msz1, mpr1, mro1, mfi1, m2, m3, m4⟩, ⟨g2, m5⟩, mf⟩
    · exact absurd mg (by omega)
    · exact absurd me (by omega)
    · refine v_icmp_eq K 1166 dL_law_378 (by decide) rfl rfl (fun c378 => ?_) (fun c378 => absurd c378 (by omega))
      refine V.widen (k := cells + 6) (n := slots + 170) (by omega) (by omega) ?_
      refine v_at [(0, .ref bS), (1, .ref (ad 0)), (2, .ref (ad 1000)), (3, .ref (ad 12)), (4, .int (nI i))] (lcons rfl (lcons rfl (lcons rfl (lcons rfl (lcons rfl (lnil)))))) ?_
      exact kx _ ⟨ad1, nb + 1, ns, hw1, d, no, (cl + nI (bN O)), lim, use, beg, cau, (va_up B nb (newB O cl)), O1, S, dg, ⟨a1 0 (by omega), a1 1000 (by omega), a1 12 (by omega)⟩, hCS1.kept a8 hns (fun q hq => mf q (by omega)), MS.moved (ad := ad) ⟨th, mac1, mtp1, mvl1, mse1, msz1, mpr1, mro1, mfi1, mto, mpb, mpa, g2, (by rw [a5]; exact m1), mC.kept (fun q _ _ => mf q (by omega)), m2, m3, mO.kept (mf _ (by omega)), mS.kept (fun q _ _ => mf q (by omega)), m5, m4, (by rw [a5]; exact fun q hq => absurd hq (Nat.not_lt_zero q)), rS⟩ (fun r hr => a1 r (by omega)), ⟨hd, a7, a8, hns, hno5, (by rw [a5]; omega), a6, a9, ⟨fun _ => 0, fun q hq => absurd hq (by omega), fun q r h1 h2 => absurd h2 (by omega), fun q hq => absurd hq (by omega)⟩, fun j hj => ⟨⟨Nat.le_succ_of_le (hSb j hj).1.1, (hSb j hj).1.2⟩, (hSb j hj).2⟩⟩⟩

set_option maxHeartbeats 4000000 in
set_option maxRecDepth 100000 in
theorem lw_c5 {p : Program} {l : Launch} {e : Env} {s : State} {m : MethodId} {args : Array Value} {below : List Frame} {meth : Method} {c : Code} {Q : State → Prop} {D : va_G} {cA : Nat → ClassId} {base : Nat} {cw : Cond} (KE9 : KE p m c cL_law 8 s args cw RL D cA base) (hl : l.stackTraces = false) {bS L : Nat} {xs : Nat → Int32} (hX : va_X bS L xs s s.heap) (hbl : bS < s.heap.size) (hbb : bS < base) (hL9 : L ≤ 4608) {a0 aM aO : Nat} (i : Nat) (hi : i + 9 ≤ L) {pic : PIC} {cells slots : Nat} (hcc : cells + 6 ≤ 603072) (hss : slots + 170 ≤ 7207018) (hI : LInv pic cA a0 aM aO) (kx : ∀ pic1, LInv pic1 cA a0 aM aO → V p l e room_1 s m args below meth c Q D base 8 pic1 (lvOf [(0, .ref bS), (1, .ref a0), (2, .ref aM), (3, .ref aO), (4, .int (nI i))]) 1166 [] (cells + 6) (slots + 170)) : V p l e room_1 s m args below meth c Q D base 8 pic (lvOf [(0, .ref bS), (1, .ref a0), (2, .ref aM), (3, .ref aO), (4, .int (nI i))]) 383 [] cells slots := by
  have K := KE9.kx
  obtain ⟨ad, nb, ns, hw, d, no, cl, lim, use, beg, cau, B, O, S, dg, ⟨rfl, rfl, rfl⟩, hCS, hMS, hPU⟩ := hI
  have ⟨hE, hC, hBs, hOb, ⟨w0, g0, hT⟩, hO, hSs, hz1, hz2, ⟨og, f12⟩⟩ := hCS
  have ⟨hd, hnb, hhw, hns, hno5, hOn, hOk, hBn, hBg, hSb⟩ := hPU
  obtain ⟨th, mac, mtp, mvl, mse, msz, mpr, mro, mfi, mto, mpb, mpa, mlv, fM, mC, mV, mB, mO, mS, mL, rB, rE, rS⟩ := hMS
  have fE := hE
  unfold EObj at fE
  have hnb40 : nb ≤ 40 := Nat.le_trans hnb hhw
  refine v_aload_n K 1 dL_law_383 rfl rfl ?_
  refine v_aload_n K 0 dL_law_384 rfl rfl ?_
  refine v_iload K dL_law_385 rfl ?_
  refine v_iconst (v := nI 1) K dL_law_387 (by decide) ?_
  refine v_iaddN K dL_law_388 ?_
  refine v_sald K hX hbl hbb dL_law_389 (by omega) (by omega) ?_
  refine cl_L_58 K dL_law_390 fE (c_X5_back l D cA base pic d lim use beg cau ad nb ns hw cl B S _ hE hC hd hBs hSs hnb hhw hBn hns (fun j hj => (hSb j hj).1.1)) rfl rfl ⟨by decide, by decide⟩ (Nat.le_of_ble_eq_true rfl) ⟨show _ ≤ 603072 from by omega, show _ ≤ 7207018 from by omega⟩ (fun x390 pic1 hx2 => ?_)
  obtain ⟨rfl, k1, k2, kf⟩ := hx2
  have uE : EObj pic1 ad (backF d nb B S (xs (i + 1))).2.1 ns cl := k1
  have uC : CallsA pic1 cA ad d lim use beg cau := hC.kept (fun q _ _ => kf q (by omega))
  have uBs : BlksP pic1 cA ad hw B := hBs.kept (fun q hq => kf q (by omega))
  have uOb : BkP pic1 cA ad 94 O := hOb.kept (fun q _ _ => kf q (by omega))
  have uT : TreeP pic1 cA (ad 7) (ad 8) w0 g0 := hT.kept (fun q _ _ => kf q (by omega))
  have uO : OutP pic1 cA (ad 9) (ad 10) no dg := hO.kept (fun q _ _ => kf q (by omega))
  have uz1 : ∀ q, 100 + 6 * hw ≤ q → q < 340 → pic1 q = none := fun q h1 h2 => (kf q (by omega)).trans (hz1 q h1 h2)
  have u12 := (kf 12 (by omega)).trans f12
  replace fM := (kf 1000 (by omega)).trans fM
  replace mC := mC.kept (fun q _ _ => kf q (by omega))
  replace mV := mV.kept (fun q _ _ => kf q (by omega))
  replace mB := mB.kept (fun q _ _ => kf q (by omega))
  replace mO := mO.kept (kf _ (by omega))
  replace mS := mS.kept (fun q _ _ => kf q (by omega))
  replace mL := mL.kept (kf _ (by omega))
  refine v_aload_n K 2 dL_law_393 rfl rfl ?_
  refine v_aload_n K 0 dL_law_394 rfl rfl ?_
  refine v_iload K dL_law_395 rfl ?_
  refine v_iconst (v := nI 1) K dL_law_397 (by decide) ?_
  refine v_iaddN K dL_law_398 ?_
  refine v_sald K hX hbl hbb dL_law_399 (by omega) (by omega) ?_
  refine cl_L_61 K dL_law_400 fM (c_X6_back l D cA base pic1 ad th cl (nI (bN O)) nb d no ns mac mtp mvl mse msz mpr mro mfi B mto mpb mpa S _ fM mV mB rB hnb40 mS rS hns hSb hd) rfl rfl ⟨by decide, by decide⟩ (Nat.le_of_ble_eq_true rfl) ⟨show _ ≤ 603072 from by omega, show _ ≤ 7207018 from by omega⟩ (fun x400 pic3 hx4 => ?_)
  obtain ⟨rfl, m1, ⟨mto1, mpb1, mpa1, m2, m3⟩, mf⟩ := hx4
  refine v_icmp_eq K 1166 dL_law_403 (by decide) rfl rfl (fun c403 => ?_) (fun c403 => absurd c403 (by omega))
  obtain ⟨q1, q2⟩ := back_inv (d := d) (B := B) (n := xs (i + 1)) hSb
  refine V.widen (k := cells + 6) (n := slots + 170) (by omega) (by omega) ?_
  refine v_at [(0, .ref bS), (1, .ref (ad 0)), (2, .ref (ad 1000)), (3, .ref (ad 12)), (4, .int (nI i))] (lcons rfl (lcons rfl (lcons rfl (lcons rfl (lcons rfl (lnil)))))) ?_
  refine v_forget (ns) ?_
  exact kx _ ⟨ad, (backF d nb B S (xs (i + 1))).2.1, ns, hw, d, no, cl, lim, use, beg, cau, B, O, (backF d nb B S (xs (i + 1))).2.2, dg, ⟨rfl, rfl, rfl⟩, CS.fg hhw ((mf 0 (by omega)).trans uE) (uC.kept (fun q _ _ => mf q (by omega))) (uBs.kept (fun q hq => mf q (by omega))) (uOb.kept (fun q _ _ => mf q (by omega))) (⟨w0, g0, uT.kept (fun q _ _ => mf q (by omega))⟩) (uO.kept (fun q _ _ => mf q (by omega))) (k2.kept (fun q hq => mf q (by omega))) (fun q h1 h2 => (mf q (by omega)).trans (uz1 q h1 h2)) (⟨og, (mf 12 (by omega)).trans u12⟩), MS.kept (pic := pic3) (⟨th, mac, mtp, mvl, mse, msz, mpr, mro, mfi, mto1, mpb1, mpa1, mlv, m1, mC.kept (fun q _ _ => mf q (by omega)), mV.kept (fun q _ _ => mf q (by omega)), mB.kept (fun q _ _ => mf q (by omega)), mO.kept (mf _ (by omega)), m2, mL.kept (mf _ (by omega)), rB.mono q1, rE, m3⟩) (fun q hq => fgP_ne (by omega)), ⟨hd, Nat.le_trans q1 hnb, hhw, hns, hno5, hOn, hOk, hBn, hBg, q2⟩⟩

set_option maxHeartbeats 4000000 in
set_option maxRecDepth 100000 in
theorem lw_c6 {p : Program} {l : Launch} {e : Env} {s : State} {m : MethodId} {args : Array Value} {below : List Frame} {meth : Method} {c : Code} {Q : State → Prop} {D : va_G} {cA : Nat → ClassId} {base : Nat} {cw : Cond} (KE9 : KE p m c cL_law 8 s args cw RL D cA base) (hl : l.stackTraces = false) {bS L : Nat} {xs : Nat → Int32} (hX : va_X bS L xs s s.heap) (hbl : bS < s.heap.size) (hbb : bS < base) (hL9 : L ≤ 4608) {a0 aM aO : Nat} (i : Nat) (hi : i + 9 ≤ L) {pic : PIC} {cells slots : Nat} (hcc : cells + 6 ≤ 603072) (hss : slots + 170 ≤ 7207018) (hI : LInv pic cA a0 aM aO) (kx : ∀ pic1, LInv pic1 cA a0 aM aO → V p l e room_1 s m args below meth c Q D base 8 pic1 (lvOf [(0, .ref bS), (1, .ref a0), (2, .ref aM), (3, .ref aO), (4, .int (nI i))]) 1166 [] (cells + 6) (slots + 170)) : V p l e room_1 s m args below meth c Q D base 8 pic (lvOf [(0, .ref bS), (1, .ref a0), (2, .ref aM), (3, .ref aO), (4, .int (nI i))]) 408 [] cells slots := by
  have K := KE9.kx
  obtain ⟨ad, nb, ns, hw, d, no, cl, lim, use, beg, cau, B, O, S, dg, ⟨rfl, rfl, rfl⟩, hCS, hMS, hPU⟩ := hI
  have ⟨hE, hC, hBs, hOb, ⟨w0, g0, hT⟩, hO, hSs, hz1, hz2, ⟨og, f12⟩⟩ := hCS
  have ⟨hd, hnb, hhw, hns, hno5, hOn, hOk, hBn, hBg, hSb⟩ := hPU
  obtain ⟨th, mac, mtp, mvl, mse, msz, mpr, mro, mfi, mto, mpb, mpa, mlv, fM, mC, mV, mB, mO, mS, mL, rB, rE, rS⟩ := hMS
  have fE := hE
  unfold EObj at fE
  have hnb40 : nb ≤ 40 := Nat.le_trans hnb hhw
  refine v_aload_n K 1 dL_law_408 rfl rfl ?_
  refine v_aload_n K 0 dL_law_409 rfl rfl ?_
  refine v_iload K dL_law_410 rfl ?_
  refine v_iconst (v := nI 1) K dL_law_412 (by decide) ?_
  refine v_iaddN K dL_law_413 ?_
  refine v_sald K hX hbl hbb dL_law_414 (by omega) (by omega) ?_
  refine cl_L_62 K dL_law_415 fE (c_X5_prune l D cA base pic ad nb ns hw cl B _ hE hBs hnb hhw hBn) rfl rfl ⟨by decide, by decide⟩ (Nat.le_of_ble_eq_true rfl) ⟨show _ ≤ 603072 from by omega, show _ ≤ 7207018 from by omega⟩ (fun x415 pic1 hx2 => ?_)
  obtain ⟨rfl, k1, kf⟩ := hx2
  have hz9 : ∀ q, 100 + 6 * hw ≤ q → q < 340 → fgB pic1 hw q = none := fun q h1 h2 => if_pos (by omega)
  replace fM := (kf 1000 (by omega)).trans fM
  replace mC := mC.kept (fun q _ _ => kf q (by omega))
  replace mV := mV.kept (fun q _ _ => kf q (by omega))
  replace mB := mB.kept (fun q _ _ => kf q (by omega))
  replace mO := mO.kept (kf _ (by omega))
  replace mS := mS.kept (fun q _ _ => kf q (by omega))
  replace mL := mL.kept (kf _ (by omega))
  refine v_aload_n K 2 dL_law_418 rfl rfl ?_
  refine v_aload_n K 0 dL_law_419 rfl rfl ?_
  refine v_iload K dL_law_420 rfl ?_
  refine v_iconst (v := nI 1) K dL_law_422 (by decide) ?_
  refine v_iaddN K dL_law_423 ?_
  refine v_sald K hX hbl hbb dL_law_424 (by omega) (by omega) ?_
  refine cl_L_65 K dL_law_425 fM (c_X6_prune l D cA base pic1 ad th cl (nI (bN O)) nb d no ns mac mtp mvl mse msz mpr mro mfi B _ fM mV mB rB hnb40) rfl rfl ⟨by decide, by decide⟩ (Nat.le_of_ble_eq_true rfl) ⟨show _ ≤ 603072 from by omega, show _ ≤ 7207018 from by omega⟩ (fun x425 pic3 hx4 => ?_)
  obtain ⟨rfl, ⟨mpr1, m1, m2⟩, mf⟩ := hx4
  refine v_icmp_eq K 1166 dL_law_428 (by decide) rfl rfl (fun c428 => ?_) (fun c428 => absurd c428 (by omega))
  refine V.widen (k := cells + 6) (n := slots + 170) (by omega) (by omega) ?_
  refine v_at [(0, .ref bS), (1, .ref (ad 0)), (2, .ref (ad 1000)), (3, .ref (ad 12)), (4, .int (nI i))] (lcons rfl (lcons rfl (lcons rfl (lcons rfl (lcons rfl (lnil)))))) ?_
  refine v_forgetB (hw) ?_
  exact kx _ ⟨ad, nb, ns, hw, d, no, cl, lim, use, beg, cau, (pruneF nb B (xs (i + 1))).2, O, S, dg, ⟨rfl, rfl, rfl⟩, (CS.fgb hhw ((mf 0 (by omega)).trans ((kf 0 (by omega)).trans hE)) ((hC.kept (fun q _ _ => kf q (by omega))).kept (fun q _ _ => mf q (by omega))) (k1.kept (fun q hq => mf q (by omega))) ((hOb.kept (fun q _ _ => kf q (by omega))).kept (fun q _ _ => mf q (by omega))) ⟨w0, g0, (hT.kept (fun q _ _ => kf q (by omega))).kept (fun q _ _ => mf q (by omega))⟩ ((hO.kept (fun q _ _ => kf q (by omega))).kept (fun q _ _ => mf q (by omega))) ((hSs.kept (fun q hq => kf q (by omega))).kept (fun q hq => mf q (by omega))) (fun j h1 h2 => (mf _ (by omega)).trans ((kf _ (by omega)).trans (hz2 j h1 h2))) ⟨og, (mf 12 (by omega)).trans ((kf 12 (by omega)).trans f12)⟩ hns), MS.kept (pic := pic3) (⟨th, mac, mtp, mvl, mse, msz, mpr1, mro, mfi, mto, mpb, mpa, mlv, (mf _ (by omega)).trans fM, mC.kept (fun q _ _ => mf q (by omega)), mV.kept (fun q _ _ => mf q (by omega)), m1, mO.kept (mf _ (by omega)), mS.kept (fun q _ _ => mf q (by omega)), mL.kept (mf _ (by omega)), m2, rE, rS⟩) (fun q hq => fgB_ne (by omega)), ⟨hd, hnb, hhw, hns, hno5, hOn, hOk, prune_inv hBn, hBg, hSb⟩⟩

set_option maxHeartbeats 4000000 in
set_option maxRecDepth 100000 in
theorem lw_c7 {p : Program} {l : Launch} {e : Env} {s : State} {m : MethodId} {args : Array Value} {below : List Frame} {meth : Method} {c : Code} {Q : State → Prop} {D : va_G} {cA : Nat → ClassId} {base : Nat} {cw : Cond} (KE9 : KE p m c cL_law 8 s args cw RL D cA base) (hl : l.stackTraces = false) {bS L : Nat} {xs : Nat → Int32} (hX : va_X bS L xs s s.heap) (hbl : bS < s.heap.size) (hbb : bS < base) (hL9 : L ≤ 4608) {a0 aM aO : Nat} (i : Nat) (hi : i + 9 ≤ L) {pic : PIC} {cells slots : Nat} (hcc : cells + 6 ≤ 603072) (hss : slots + 170 ≤ 7207018) (hI : LInv pic cA a0 aM aO) (kx : ∀ pic1, LInv pic1 cA a0 aM aO → V p l e room_1 s m args below meth c Q D base 8 pic1 (lvOf [(0, .ref bS), (1, .ref a0), (2, .ref aM), (3, .ref aO), (4, .int (nI i))]) 1166 [] (cells + 6) (slots + 170)) : V p l e room_1 s m args below meth c Q D base 8 pic (lvOf [(0, .ref bS), (1, .ref a0), (2, .ref aM), (3, .ref aO), (4, .int (nI i))]) 433 [] cells slots := by
  have K := KE9.kx
  obtain ⟨ad, nb, ns, hw, d, no, cl, lim, use, beg, cau, B, O, S, dg, ⟨rfl, rfl, rfl⟩, hCS, hMS, hPU⟩ := hI
  have ⟨hE, hC, hBs, hOb, ⟨w0, g0, hT⟩, hO, hSs, hz1, hz2, ⟨og, f12⟩⟩ := hCS
  have ⟨hd, hnb, hhw, hns, hno5, hOn, hOk, hBn, hBg, hSb⟩ := hPU
  obtain ⟨th, mac, mtp, mvl, mse, msz, mpr, mro, mfi, mto, mpb, mpa, mlv, fM, mC, mV, mB, mO, mS, mL, rB, rE, rS⟩ := hMS
  have fE := hE
  unfold EObj at fE
  have hnb40 : nb ≤ 40 := Nat.le_trans hnb hhw
  refine v_aload_n K 1 dL_law_433 rfl rfl ?_
  refine v_aload_n K 0 dL_law_434 rfl rfl ?_
  refine v_iload K dL_law_435 rfl ?_
  refine v_iconst (v := nI 1) K dL_law_437 (by decide) ?_
  refine v_iaddN K dL_law_438 ?_
  refine v_sald K hX hbl hbb dL_law_439 (by omega) (by omega) ?_
  refine v_aload_n K 0 dL_law_440 rfl rfl ?_
  refine v_iload K dL_law_441 rfl ?_
  refine v_iconst (v := nI 2) K dL_law_443 (by decide) ?_
  refine v_iaddN K dL_law_444 ?_
  refine v_sald K hX hbl hbb dL_law_445 (by omega) (by omega) ?_
  refine cl_L_66 K dL_law_446 fE (c_X5_size l D cA base pic ad nb ns hw cl B _ _ hE hBs hnb hhw hBn) rfl rfl ⟨by decide, by decide⟩ (Nat.le_of_ble_eq_true rfl) ⟨show _ ≤ 603072 from by omega, show _ ≤ 7207018 from by omega⟩ (fun x446 pic1 hx2 => ?_)
  obtain ⟨rfl, rfl⟩ := hx2
  refine v_aload_n K 2 dL_law_449 rfl rfl ?_
  refine v_aload_n K 0 dL_law_450 rfl rfl ?_
  refine v_iload K dL_law_451 rfl ?_
  refine v_iconst (v := nI 1) K dL_law_453 (by decide) ?_
  refine v_iaddN K dL_law_454 ?_
  refine v_sald K hX hbl hbb dL_law_455 (by omega) (by omega) ?_
  refine v_aload_n K 0 dL_law_456 rfl rfl ?_
  refine v_iload K dL_law_457 rfl ?_
  refine v_iconst (v := nI 2) K dL_law_459 (by decide) ?_
  refine v_iaddN K dL_law_460 ?_
  refine v_sald K hX hbl hbb dL_law_461 (by omega) (by omega) ?_
  refine cl_L_70 K dL_law_462 fM (c_X6_size l D cA base pic ad th cl (nI (bN O)) nb d no ns mac mtp mvl mse msz mpr mro mfi B _ _ fM mV mB rB hnb40) rfl rfl ⟨by decide, by decide⟩ (Nat.le_of_ble_eq_true rfl) ⟨show _ ≤ 603072 from by omega, show _ ≤ 7207018 from by omega⟩ (fun x462 pic3 hx4 => ?_)
  obtain ⟨rfl, rfl⟩ := hx4
  refine v_icmp_eq K 1166 dL_law_465 (by decide) rfl rfl (fun c465 => ?_) (fun c465 => absurd c465 (by omega))
  refine V.widen (k := cells + 6) (n := slots + 170) (by omega) (by omega) ?_
  refine v_at [(0, .ref bS), (1, .ref (ad 0)), (2, .ref (ad 1000)), (3, .ref (ad 12)), (4, .int (nI i))] (lcons rfl (lcons rfl (lcons rfl (lcons rfl (lcons rfl (lnil)))))) ?_
  exact kx _ ⟨ad, nb, ns, hw, d, no, cl, lim, use, beg, cau, B, O, S, dg, ⟨rfl, rfl, rfl⟩, hCS, ⟨th, mac, mtp, mvl, mse, msz, mpr, mro, mfi, mto, mpb, mpa, mlv, fM, mC, mV, mB, mO, mS, mL, rB, rE, rS⟩, hPU⟩

set_option maxHeartbeats 4000000 in
set_option maxRecDepth 100000 in
theorem lw_c8 {p : Program} {l : Launch} {e : Env} {s : State} {m : MethodId} {args : Array Value} {below : List Frame} {meth : Method} {c : Code} {Q : State → Prop} {D : va_G} {cA : Nat → ClassId} {base : Nat} {cw : Cond} (KE9 : KE p m c cL_law 8 s args cw RL D cA base) (hl : l.stackTraces = false) {bS L : Nat} {xs : Nat → Int32} (hX : va_X bS L xs s s.heap) (hbl : bS < s.heap.size) (hbb : bS < base) (hL9 : L ≤ 4608) {a0 aM aO : Nat} (i : Nat) (hi : i + 9 ≤ L) {pic : PIC} {cells slots : Nat} (hcc : cells + 6 ≤ 603072) (hss : slots + 170 ≤ 7207018) (hI : LInv pic cA a0 aM aO) (kx : ∀ pic1, LInv pic1 cA a0 aM aO → V p l e room_1 s m args below meth c Q D base 8 pic1 (lvOf [(0, .ref bS), (1, .ref a0), (2, .ref aM), (3, .ref aO), (4, .int (nI i))]) 1166 [] (cells + 6) (slots + 170)) : V p l e room_1 s m args below meth c Q D base 8 pic (lvOf [(0, .ref bS), (1, .ref a0), (2, .ref aM), (3, .ref aO), (4, .int (nI i))]) 470 [] cells slots := by
  have K := KE9.kx
  obtain ⟨ad, nb, ns, hw, d, no, cl, lim, use, beg, cau, B, O, S, dg, ⟨rfl, rfl, rfl⟩, hCS, hMS, hPU⟩ := hI
  have ⟨hE, hC, hBs, hOb, ⟨w0, g0, hT⟩, hO, hSs, hz1, hz2, ⟨og, f12⟩⟩ := hCS
  have ⟨hd, hnb, hhw, hns, hno5, hOn, hOk, hBn, hBg, hSb⟩ := hPU
  obtain ⟨th, mac, mtp, mvl, mse, msz, mpr, mro, mfi, mto, mpb, mpa, mlv, fM, mC, mV, mB, mO, mS, mL, rB, rE, rS⟩ := hMS
  have fE := hE
  unfold EObj at fE
  have hnb40 : nb ≤ 40 := Nat.le_trans hnb hhw
  refine v_aload_n K 1 dL_law_470 rfl rfl ?_
  refine v_aload_n K 0 dL_law_471 rfl rfl ?_
  refine v_iload K dL_law_472 rfl ?_
  refine v_iconst (v := nI 1) K dL_law_474 (by decide) ?_
  refine v_iaddN K dL_law_475 ?_
  refine v_sald K hX hbl hbb dL_law_476 (by omega) (by omega) ?_
  refine v_aload_n K 0 dL_law_477 rfl rfl ?_
  refine v_iload K dL_law_478 rfl ?_
  refine v_iconst (v := nI 2) K dL_law_480 (by decide) ?_
  refine v_iaddN K dL_law_481 ?_
  refine v_sald K hX hbl hbb dL_law_482 (by omega) (by omega) ?_
  refine v_aload_n K 0 dL_law_483 rfl rfl ?_
  refine v_iload K dL_law_484 rfl ?_
  refine v_iconst (v := nI 3) K dL_law_486 (by decide) ?_
  refine v_iaddN K dL_law_487 ?_
  refine v_sald K hX hbl hbb dL_law_488 (by omega) (by omega) ?_
  refine cl_L_71 K dL_law_489 fE (c_X5_event l D cA base pic ad nb ns hw cl B _ _ _ hE hBs hnb hhw hBn) rfl rfl ⟨by decide, by decide⟩ (Nat.le_of_ble_eq_true rfl) ⟨show _ ≤ 603072 from by omega, show _ ≤ 7207018 from by omega⟩ (fun x489 pic1 hx2 => ?_)
  obtain ⟨rfl, rfl⟩ := hx2
  refine v_aload_n K 2 dL_law_492 rfl rfl ?_
  refine v_aload_n K 0 dL_law_493 rfl rfl ?_
  refine v_iload K dL_law_494 rfl ?_
  refine v_iconst (v := nI 1) K dL_law_496 (by decide) ?_
  refine v_iaddN K dL_law_497 ?_
  refine v_sald K hX hbl hbb dL_law_498 (by omega) (by omega) ?_
  refine v_aload_n K 0 dL_law_499 rfl rfl ?_
  refine v_iload K dL_law_500 rfl ?_
  refine v_iconst (v := nI 2) K dL_law_502 (by decide) ?_
  refine v_iaddN K dL_law_503 ?_
  refine v_sald K hX hbl hbb dL_law_504 (by omega) (by omega) ?_
  refine v_aload_n K 0 dL_law_505 rfl rfl ?_
  refine v_iload K dL_law_506 rfl ?_
  refine v_iconst (v := nI 3) K dL_law_508 (by decide) ?_
  refine v_iaddN K dL_law_509 ?_
  refine v_sald K hX hbl hbb dL_law_510 (by omega) (by omega) ?_
  refine cl_L_75 K dL_law_511 fM (c_X6_event l D cA base pic ad th cl (nI (bN O)) nb d no ns mac mtp mvl mse msz mpr mro mfi B _ _ _ fM mV mB rB hnb40) rfl rfl ⟨by decide, by decide⟩ (Nat.le_of_ble_eq_true rfl) ⟨show _ ≤ 603072 from by omega, show _ ≤ 7207018 from by omega⟩ (fun x511 pic3 hx4 => ?_)
  obtain ⟨rfl, rfl⟩ := hx4
  refine v_icmp_eq K 1166 dL_law_514 (by decide) rfl rfl (fun c514 => ?_) (fun c514 => absurd c514 (by omega))
  refine V.widen (k := cells + 6) (n := slots + 170) (by omega) (by omega) ?_
  refine v_at [(0, .ref bS), (1, .ref (ad 0)), (2, .ref (ad 1000)), (3, .ref (ad 12)), (4, .int (nI i))] (lcons rfl (lcons rfl (lcons rfl (lcons rfl (lcons rfl (lnil)))))) ?_
  exact kx _ ⟨ad, nb, ns, hw, d, no, cl, lim, use, beg, cau, B, O, S, dg, ⟨rfl, rfl, rfl⟩, hCS, ⟨th, mac, mtp, mvl, mse, msz, mpr, mro, mfi, mto, mpb, mpa, mlv, fM, mC, mV, mB, mO, mS, mL, rB, rE, rS⟩, hPU⟩

