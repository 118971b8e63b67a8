set_option maxHeartbeats 4000000 in
set_option maxRecDepth 100000 in
theorem lw_c19 {p : Program} {l : Launch} {e : Env} {s : State} {m : MethodId} {args : Array Value} {below : List Frame} {meth : Method} {c : Code} {Q : State → Prop} {D : va_G} {cA : Nat → ClassId} {base : Nat} {cw : Cond} (KE9 : KE p m c cL_law 8 s args cw RL D cA base) (hl : l.stackTraces = false) {bS L : Nat} {xs : Nat → Int32} (hX : va_X bS L xs s s.heap) (hbl : bS < s.heap.size) (hbb : bS < base) (hL9 : L ≤ 4608) {a0 aM aO : Nat} (i : Nat) (hi : i + 9 ≤ L) {pic : PIC} {cells slots : Nat} (hcc : cells + 6 ≤ 603072) (hss : slots + 170 ≤ 7207018) (hI : LInv pic cA a0 aM aO) (kx : ∀ pic1, LInv pic1 cA a0 aM aO → V p l e room_1 s m args below meth c Q D base 8 pic1 (lvOf [(0, .ref bS), (1, .ref a0), (2, .ref aM), (3, .ref aO), (4, .int (nI i))]) 1166 [] (cells + 6) (slots + 170)) : V p l e room_1 s m args below meth c Q D base 8 pic (lvOf [(0, .ref bS), (1, .ref a0), (2, .ref aM), (3, .ref aO), (4, .int (nI i))]) 1079 [] cells slots := by
  have K := KE9.kx
  obtain ⟨ad, nb, ns, hw, d, no, cl, lim, use, beg, cau, B, O, S, dg, ⟨rfl, rfl, rfl⟩, hCS, hMS, hPU⟩ := hI
  have ⟨hE, hC, hBs, hOb, ⟨w0, g0, hT⟩, hO, hSs, hz1, hz2, ⟨og, f12⟩⟩ := hCS
  have ⟨hd, hnb, hhw, hns, hno5, hOn, hOk, hBn, hBg, hSb⟩ := hPU
  obtain ⟨th, mac, mtp, mvl, mse, msz, mpr, mro, mfi, mto, mpb, mpa, mlv, fM, mC, mV, mB, mO, mS, mL, rB, rE, rS⟩ := hMS
  have fE := hE
  unfold EObj at fE
  have hnb40 : nb ≤ 40 := Nat.le_trans hnb hhw
  refine v_aload_n K 1 dL_law_1079 rfl rfl ?_
  refine v_aload_n K 0 dL_law_1080 rfl rfl ?_
  refine v_iload K dL_law_1081 rfl ?_
  refine v_iconst (v := nI 1) K dL_law_1083 (by decide) ?_
  refine v_iaddN K dL_law_1084 ?_
  refine v_sald K hX hbl hbb dL_law_1085 (by omega) (by omega) ?_
  refine v_aload_n K 0 dL_law_1086 rfl rfl ?_
  refine v_iload K dL_law_1087 rfl ?_
  refine v_iconst (v := nI 2) K dL_law_1089 (by decide) ?_
  refine v_iaddN K dL_law_1090 ?_
  refine v_sald K hX hbl hbb dL_law_1091 (by omega) (by omega) ?_
  refine cl_L_121 K dL_law_1092 fE (c_X5_subscribe l D cA base pic ad nb ns cl S _ _ hE hSs hns hnb40 hz2) rfl rfl ⟨by decide, by decide⟩ (Nat.le_of_ble_eq_true rfl) ⟨show _ ≤ 603072 from by omega, show _ ≤ 7207018 from by omega⟩ (fun x1092 pic1 hx2 => ?_)
  obtain ⟨rfl, ad1, a1, uE, k2, kf⟩ := hx2
  have uC : CallsA pic1 cA ad1 d lim use beg cau := CallsA.atA (hC.kept (fun q _ _ => kf q (by omega))) (fun r hr => a1 r (by omega))
  have uBs : BlksP pic1 cA ad1 hw B := (hBs.kept (fun q hq => kf q (by omega))).atA (fun r hr => a1 r (by omega))
  have uOb : BkP pic1 cA ad1 94 O := (hOb.kept (fun q _ _ => kf q (by omega))).atA (fun r h1 h2 => a1 r (by omega))
  have uT : TreeP pic1 cA (ad1 7) (ad1 8) w0 g0 := by rw [a1 7 (by omega), a1 8 (by omega)]; exact hT.kept (fun q _ _ => kf q (by omega))
  have uO : OutP pic1 cA (ad1 9) (ad1 10) no dg := by rw [a1 9 (by omega), a1 10 (by omega)]; exact hO.kept (fun q _ _ => kf q (by omega))
  have uz1 : ∀ q, 100 + 6 * hw ≤ q → q < 340 → pic1 q = none := fun q h1 h2 => (kf q (by omega)).trans (hz1 q h1 h2)
  have u12 : pic1 12 = some (ad1 12, .inl (cA 1, 1, .inr (.inl og))) := by rw [a1 12 (by omega)]; exact (kf 12 (by omega)).trans f12
  replace fM := (kf 1000 (by omega)).trans fM
  replace mC := mC.kept (fun q _ _ => kf q (by omega))
  replace mV := mV.kept (fun q _ _ => kf q (by omega))
  replace mB := mB.kept (fun q _ _ => kf q (by omega))
  replace mO := mO.kept (kf _ (by omega))
  replace mS := mS.kept (fun q _ _ => kf q (by omega))
  replace mL := mL.kept (kf _ (by omega))
  refine v_aload_n K 2 dL_law_1095 rfl rfl ?_
  refine v_aload_n K 0 dL_law_1096 rfl rfl ?_
  refine v_iload K dL_law_1097 rfl ?_
  refine v_iconst (v := nI 1) K dL_law_1099 (by decide) ?_
  refine v_iaddN K dL_law_1100 ?_
  refine v_sald K hX hbl hbb dL_law_1101 (by omega) (by omega) ?_
  refine v_aload_n K 0 dL_law_1102 rfl rfl ?_
  refine v_iload K dL_law_1103 rfl ?_
  refine v_iconst (v := nI 2) K dL_law_1105 (by decide) ?_
  refine v_iaddN K dL_law_1106 ?_
  refine v_sald K hX hbl hbb dL_law_1107 (by omega) (by omega) ?_
  refine cl_L_124 K dL_law_1108 fM (c_X6_subscribe l D cA base pic1 ad th cl (nI (bN O)) nb d no ns mto mpb mpa S _ _ fM mS rS hns hnb40) rfl rfl ⟨by decide, by decide⟩ (Nat.le_of_ble_eq_true rfl) ⟨show _ ≤ 603072 from by omega, show _ ≤ 7207018 from by omega⟩ (fun x1108 pic3 hx4 => ?_)
  obtain ⟨rfl, m1, ⟨mto1, mpb1, mpa1, m2, m3⟩, mf⟩ := hx4
  refine v_icmp_eq K 1166 dL_law_1111 (by decide) rfl rfl (fun c1111 => ?_) (fun c1111 => absurd c1111 (by omega))
  obtain ⟨q1, q2, q3⟩ := sub_inv (t := xs (i + 1)) (b := xs (i + 2)) hns hSb
  refine V.widen (k := cells + 6) (n := slots + 170) (by omega) (by omega) ?_
  refine v_at [(0, .ref bS), (1, .ref (ad 0)), (2, .ref (ad 1000)), (3, .ref (ad 12)), (4, .int (nI i))] (lcons rfl (lcons rfl (lcons rfl (lcons rfl (lcons rfl (lnil)))))) ?_
  refine v_forget ((subF nb ns S (xs (i + 1)) (xs (i + 2))).2.1) ?_
  exact kx _ ⟨ad1, nb, (subF nb ns S (xs (i + 1)) (xs (i + 2))).2.1, hw, d, no, cl, lim, use, beg, cau, B, O, (subF nb ns S (xs (i + 1)) (xs (i + 2))).2.2, dg, ⟨a1 0 (by omega), a1 1000 (by omega), a1 12 (by omega)⟩, CS.fg hhw ((mf 0 (by omega)).trans uE) (uC.kept (fun q _ _ => mf q (by omega))) (uBs.kept (fun q hq => mf q (by omega))) (uOb.kept (fun q _ _ => mf q (by omega))) (⟨w0, g0, uT.kept (fun q _ _ => mf q (by omega))⟩) (uO.kept (fun q _ _ => mf q (by omega))) (k2.kept (fun q hq => mf q (by omega))) (fun q h1 h2 => (mf q (by omega)).trans (uz1 q h1 h2)) (⟨og, (mf 12 (by omega)).trans u12⟩), MS.kept (pic := pic3) (MS.moved (ad := ad) (⟨th, mac, mtp, mvl, mse, msz, mpr, mro, mfi, mto1, mpb1, mpa1, mlv, m1, mC.kept (fun q _ _ => mf q (by omega)), mV.kept (fun q _ _ => mf q (by omega)), mB.kept (fun q _ _ => mf q (by omega)), mO.kept (mf _ (by omega)), m2, mL.kept (mf _ (by omega)), rB, rE, m3⟩) (fun r hr => a1 r (by omega))) (fun q hq => fgP_ne (by omega)), ⟨hd, hnb, hhw, q1, hno5, hOn, hOk, hBn, hBg, q3⟩⟩

set_option maxHeartbeats 4000000 in
set_option maxRecDepth 100000 in
theorem lw_c20 {p : Program} {l : Launch} {e : Env} {s : State} {m : MethodId} {args : Array Value} {below : List Frame} {meth : Method} {c : Code} {Q : State → Prop} {D : va_G} {cA : Nat → ClassId} {base : Nat} {cw : Cond} (KE9 : KE p m c cL_law 8 s args cw RL D cA base) (hl : l.stackTraces = false) {bS L : Nat} {xs : Nat → Int32} (hX : va_X bS L xs s s.heap) (hbl : bS < s.heap.size) (hbb : bS < base) (hL9 : L ≤ 4608) {a0 aM aO : Nat} (i : Nat) (hi : i + 9 ≤ L) {pic : PIC} {cells slots : Nat} (hcc : cells + 6 ≤ 603072) (hss : slots + 170 ≤ 7207018) (hI : LInv pic cA a0 aM aO) (kx : ∀ pic1, LInv pic1 cA a0 aM aO → V p l e room_1 s m args below meth c Q D base 8 pic1 (lvOf [(0, .ref bS), (1, .ref a0), (2, .ref aM), (3, .ref aO), (4, .int (nI i))]) 1166 [] (cells + 6) (slots + 170)) : V p l e room_1 s m args below meth c Q D base 8 pic (lvOf [(0, .ref bS), (1, .ref a0), (2, .ref aM), (3, .ref aO), (4, .int (nI i))]) 1116 [] cells slots := by
  have K := KE9.kx
  obtain ⟨ad, nb, ns, hw, d, no, cl, lim, use, beg, cau, B, O, S, dg, ⟨rfl, rfl, rfl⟩, hCS, hMS, hPU⟩ := hI
  have ⟨hE, hC, hBs, hOb, ⟨w0, g0, hT⟩, hO, hSs, hz1, hz2, ⟨og, f12⟩⟩ := hCS
  have ⟨hd, hnb, hhw, hns, hno5, hOn, hOk, hBn, hBg, hSb⟩ := hPU
  obtain ⟨th, mac, mtp, mvl, mse, msz, mpr, mro, mfi, mto, mpb, mpa, mlv, fM, mC, mV, mB, mO, mS, mL, rB, rE, rS⟩ := hMS
  have fE := hE
  unfold EObj at fE
  have hnb40 : nb ≤ 40 := Nat.le_trans hnb hhw
  refine v_aload_n K 1 dL_law_1116 rfl rfl ?_
  refine v_aload_n K 0 dL_law_1117 rfl rfl ?_
  refine v_iload K dL_law_1118 rfl ?_
  refine v_iconst (v := nI 1) K dL_law_1120 (by decide) ?_
  refine v_iaddN K dL_law_1121 ?_
  refine v_sald K hX hbl hbb dL_law_1122 (by omega) (by omega) ?_
  refine cl_L_125 K dL_law_1123 fE (c_X5_next l D cA base pic ad nb ns hw cl B S _ hE hBs hSs hnb hhw hBn hns (fun j hj => (hSb j hj).1)) rfl rfl ⟨by decide, by decide⟩ (Nat.le_of_ble_eq_true rfl) ⟨show _ ≤ 603072 from by omega, show _ ≤ 7207018 from by omega⟩ (fun x1123 pic1 hx2 => ?_)
  obtain ⟨rfl, k2, kf⟩ := hx2
  have uE : EObj pic1 ad nb ns cl := (kf 0 (by omega)).trans hE
  have uC : CallsA pic1 cA ad d lim use beg cau := hC.kept (fun q _ _ => kf q (by omega))
  have uBs : BlksP pic1 cA ad hw B := hBs.kept (fun q hq => kf q (by omega))
  have uOb : BkP pic1 cA ad 94 O := hOb.kept (fun q _ _ => kf q (by omega))
  have uT : TreeP pic1 cA (ad 7) (ad 8) w0 g0 := hT.kept (fun q _ _ => kf q (by omega))
  have uO : OutP pic1 cA (ad 9) (ad 10) no dg := hO.kept (fun q _ _ => kf q (by omega))
  have uz1 : ∀ q, 100 + 6 * hw ≤ q → q < 340 → pic1 q = none := fun q h1 h2 => (kf q (by omega)).trans (hz1 q h1 h2)
  have u12 := (kf 12 (by omega)).trans f12
  replace fM := (kf 1000 (by omega)).trans fM
  replace mC := mC.kept (fun q _ _ => kf q (by omega))
  replace mV := mV.kept (fun q _ _ => kf q (by omega))
  replace mB := mB.kept (fun q _ _ => kf q (by omega))
  replace mO := mO.kept (kf _ (by omega))
  replace mS := mS.kept (fun q _ _ => kf q (by omega))
  replace mL := mL.kept (kf _ (by omega))
  refine v_aload_n K 2 dL_law_1126 rfl rfl ?_
  refine v_aload_n K 0 dL_law_1127 rfl rfl ?_
  refine v_iload K dL_law_1128 rfl ?_
  refine v_iconst (v := nI 1) K dL_law_1130 (by decide) ?_
  refine v_iaddN K dL_law_1131 ?_
  refine v_sald K hX hbl hbb dL_law_1132 (by omega) (by omega) ?_
  refine cl_L_128 K dL_law_1133 fM (c_X6_next l D cA base pic1 ad th cl (nI (bN O)) nb d no ns mac mtp mvl mse msz mpr mro mfi B mto mpb mpa S _ fM mV mB rB hnb40 mS rS hns hSb) rfl rfl ⟨by decide, by decide⟩ (Nat.le_of_ble_eq_true rfl) ⟨show _ ≤ 603072 from by omega, show _ ≤ 7207018 from by omega⟩ (fun x1133 pic3 hx4 => ?_)
  obtain ⟨rfl, ⟨mto1, mpb1, mpa1, m2, m3⟩, mf⟩ := hx4
  refine v_icmp_eq K 1166 dL_law_1136 (by decide) rfl rfl (fun c1136 => ?_) (fun c1136 => absurd c1136 (by omega))
  refine V.widen (k := cells + 6) (n := slots + 170) (by omega) (by omega) ?_
  refine v_at [(0, .ref bS), (1, .ref (ad 0)), (2, .ref (ad 1000)), (3, .ref (ad 12)), (4, .int (nI i))] (lcons rfl (lcons rfl (lcons rfl (lcons rfl (lcons rfl (lnil)))))) ?_
  refine v_forget (ns) ?_
  exact kx _ ⟨ad, nb, ns, hw, d, no, cl, lim, use, beg, cau, B, O, (nextF nb ns B S (xs (i + 1))).2, dg, ⟨rfl, rfl, rfl⟩, CS.fg hhw ((mf 0 (by omega)).trans uE) (uC.kept (fun q _ _ => mf q (by omega))) (uBs.kept (fun q hq => mf q (by omega))) (uOb.kept (fun q _ _ => mf q (by omega))) (⟨w0, g0, uT.kept (fun q _ _ => mf q (by omega))⟩) (uO.kept (fun q _ _ => mf q (by omega))) (k2.kept (fun q hq => mf q (by omega))) (fun q h1 h2 => (mf q (by omega)).trans (uz1 q h1 h2)) (⟨og, (mf 12 (by omega)).trans u12⟩), MS.kept (pic := pic3) (⟨th, mac, mtp, mvl, mse, msz, mpr, mro, mfi, mto1, mpb1, mpa1, mlv, (mf _ (by omega)).trans fM, mC.kept (fun q _ _ => mf q (by omega)), mV.kept (fun q _ _ => mf q (by omega)), mB.kept (fun q _ _ => mf q (by omega)), mO.kept (mf _ (by omega)), m2, mL.kept (mf _ (by omega)), rB, rE, m3⟩) (fun q hq => fgP_ne (by omega)), ⟨hd, hnb, hhw, hns, hno5, hOn, hOk, hBn, hBg, next_inv (fun j hj => hBn j (Nat.lt_of_lt_of_le hj hnb)) hSb⟩⟩

set_option maxHeartbeats 4000000 in
set_option maxRecDepth 100000 in
theorem lw_c21 {p : Program} {l : Launch} {e : Env} {s : State} {m : MethodId} {args : Array Value} {below : List Frame} {meth : Method} {c : Code} {Q : State → Prop} {D : va_G} {cA : Nat → ClassId} {base : Nat} {cw : Cond} (KE9 : KE p m c cL_law 8 s args cw RL D cA base) (hl : l.stackTraces = false) {bS L : Nat} {xs : Nat → Int32} (hX : va_X bS L xs s s.heap) (hbl : bS < s.heap.size) (hbb : bS < base) (hL9 : L ≤ 4608) {a0 aM aO : Nat} (i : Nat) (hi : i + 9 ≤ L) {pic : PIC} {cells slots : Nat} (hcc : cells + 6 ≤ 603072) (hss : slots + 170 ≤ 7207018) (hI : LInv pic cA a0 aM aO) (kx : ∀ pic1, LInv pic1 cA a0 aM aO → V p l e room_1 s m args below meth c Q D base 8 pic1 (lvOf [(0, .ref bS), (1, .ref a0), (2, .ref aM), (3, .ref aO), (4, .int (nI i))]) 1166 [] (cells + 6) (slots + 170)) : V p l e room_1 s m args below meth c Q D base 8 pic (lvOf [(0, .ref bS), (1, .ref a0), (2, .ref aM), (3, .ref aO), (4, .int (nI i))]) 1141 [] cells slots := by
  have K := KE9.kx
  obtain ⟨ad, nb, ns, hw, d, no, cl, lim, use, beg, cau, B, O, S, dg, ⟨rfl, rfl, rfl⟩, hCS, hMS, hPU⟩ := hI
  have ⟨hE, hC, hBs, hOb, ⟨w0, g0, hT⟩, hO, hSs, hz1, hz2, ⟨og, f12⟩⟩ := hCS
  have ⟨hd, hnb, hhw, hns, hno5, hOn, hOk, hBn, hBg, hSb⟩ := hPU
  obtain ⟨th, mac, mtp, mvl, mse, msz, mpr, mro, mfi, mto, mpb, mpa, mlv, fM, mC, mV, mB, mO, mS, mL, rB, rE, rS⟩ := hMS
  have fE := hE
  unfold EObj at fE
  have hnb40 : nb ≤ 40 := Nat.le_trans hnb hhw
  refine v_aload_n K 1 dL_law_1141 rfl rfl ?_
  refine v_aload_n K 0 dL_law_1142 rfl rfl ?_
  refine v_iload K dL_law_1143 rfl ?_
  refine v_iconst (v := nI 1) K dL_law_1145 (by decide) ?_
  refine v_iaddN K dL_law_1146 ?_
  refine v_sald K hX hbl hbb dL_law_1147 (by omega) (by omega) ?_
  refine cl_L_129 K dL_law_1148 fE (c_X5_place l D cA base pic ad nb ns cl S _ hE hSs hns) rfl rfl ⟨by decide, by decide⟩ (Nat.le_of_ble_eq_true rfl) ⟨show _ ≤ 603072 from by omega, show _ ≤ 7207018 from by omega⟩ (fun x1148 pic1 hx2 => ?_)
  obtain ⟨rfl, rfl⟩ := hx2
  refine v_aload_n K 2 dL_law_1151 rfl rfl ?_
  refine v_aload_n K 0 dL_law_1152 rfl rfl ?_
  refine v_iload K dL_law_1153 rfl ?_
  refine v_iconst (v := nI 1) K dL_law_1155 (by decide) ?_
  refine v_iaddN K dL_law_1156 ?_
  refine v_sald K hX hbl hbb dL_law_1157 (by omega) (by omega) ?_
  refine cl_L_132 K dL_law_1158 fM (c_X6_place l D cA base pic ad th cl (nI (bN O)) nb d no ns mto mpb mpa S _ fM mS rS hns) rfl rfl ⟨by decide, by decide⟩ (Nat.le_of_ble_eq_true rfl) ⟨show _ ≤ 603072 from by omega, show _ ≤ 7207018 from by omega⟩ (fun x1158 pic3 hx4 => ?_)
  obtain ⟨rfl, rfl⟩ := hx4
  refine v_icmp_eq K 1166 dL_law_1161 (by decide) rfl rfl (fun c1161 => ?_) (fun c1161 => absurd c1161 (by omega))
  refine V.widen (k := cells + 6) (n := slots + 170) (by omega) (by omega) ?_
  refine v_at [(0, .ref bS), (1, .ref (ad 0)), (2, .ref (ad 1000)), (3, .ref (ad 12)), (4, .int (nI i))] (lcons rfl (lcons rfl (lcons rfl (lcons rfl (lcons rfl (lnil)))))) ?_
  exact kx _ ⟨ad, nb, ns, hw, d, no, cl, lim, use, beg, cau, B, O, S, dg, ⟨rfl, rfl, rfl⟩, hCS, ⟨th, mac, mtp, mvl, mse, msz, mpr, mro, mfi, mto, mpb, mpa, mlv, fM, mC, mV, mB, mO, mS, mL, rB, rE, rS⟩, hPU⟩

