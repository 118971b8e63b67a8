set_option maxHeartbeats 4000000 in
set_option maxRecDepth 100000 in
theorem lw_c0 {p : Program} {l : Launch} {e : Env} {s : State} {m : MethodId} {args : Array Value} {below : List Frame} {meth : Method} {c : Code} {Q : State → Prop} {D : va_G} {cA : Nat → ClassId} {base : Nat} {cw : Cond} (KE9 : KE p m c cL_law 8 s args cw RL D cA base) (hl : l.stackTraces = false) {bS L : Nat} {xs : Nat → Int32} (hX : va_X bS L xs s s.heap) (hbl : bS < s.heap.size) (hbb : bS < base) (hL9 : L ≤ 4608) {a0 aM aO : Nat} (i : Nat) (hi : i + 9 ≤ L) {pic : PIC} {cells slots : Nat} (hcc : cells + 6 ≤ 603072) (hss : slots + 170 ≤ 7207018) (hI : LInv pic cA a0 aM aO) (kx : ∀ pic1, LInv pic1 cA a0 aM aO → V p l e room_1 s m args below meth c Q D base 8 pic1 (lvOf [(0, .ref bS), (1, .ref a0), (2, .ref aM), (3, .ref aO), (4, .int (nI i))]) 1166 [] (cells + 6) (slots + 170)) : V p l e room_1 s m args below meth c Q D base 8 pic (lvOf [(0, .ref bS), (1, .ref a0), (2, .ref aM), (3, .ref aO), (4, .int (nI i))]) 144 [] cells slots := by
  have K := KE9.kx
  obtain ⟨ad, nb, ns, hw, d, no, cl, lim, use, beg, cau, B, O, S, dg, ⟨rfl, rfl, rfl⟩, hCS, hMS, hPU⟩ := hI
  have ⟨hE, hC, hBs, hOb, ⟨w0, g0, hT⟩, hO, hSs, hz1, hz2, ⟨og, f12⟩⟩ := hCS
  have ⟨hd, hnb, hhw, hns, hno5, hOn, hOk, hBn, hBg, hSb⟩ := hPU
  obtain ⟨th, mac, mtp, mvl, mse, msz, mpr, mro, mfi, mto, mpb, mpa, mlv, fM, mC, mV, mB, mO, mS, mL, rB, rE, rS⟩ := hMS
  have fE := hE
  unfold EObj at fE
  have hnb40 : nb ≤ 40 := Nat.le_trans hnb hhw
  refine v_aload_n K 1 dL_law_144 rfl rfl ?_
  refine v_aload_n K 0 dL_law_145 rfl rfl ?_
  refine v_iload K dL_law_146 rfl ?_
  refine v_iconst (v := nI 1) K dL_law_148 (by decide) ?_
  refine v_iaddN K dL_law_149 ?_
  refine v_sald K hX hbl hbb dL_law_150 (by omega) (by omega) ?_
  refine v_aload_n K 0 dL_law_151 rfl rfl ?_
  refine v_iload K dL_law_152 rfl ?_
  refine v_iconst (v := nI 2) K dL_law_154 (by decide) ?_
  refine v_iaddN K dL_law_155 ?_
  refine v_sald K hX hbl hbb dL_law_156 (by omega) (by omega) ?_
  refine v_if_eq K 164 dL_law_157 (by decide) rfl (fun c157 => ?_) (fun c157 => ?_)
  · refine v_iconst (v := nI 0) K dL_law_164 (by decide) ?_
    refine cl_L_31 K dL_law_165 fE (c_X5_begin l D cA base pic ad nb ns cl d lim use beg cau (nI (bN O)) (bKp O) (bFs O) (bRd O) (bFb O) _ _ hE hC hOb.1 hd (by first | exact isB0 | exact isB1)) rfl rfl ⟨by decide, by decide⟩ (Nat.le_of_ble_eq_true rfl) ⟨show _ ≤ 603072 from by omega, show _ ≤ 7207018 from by omega⟩ (fun x165 pic1 hx2 => ?_)
    obtain ⟨rfl, k1, k2, kf⟩ := hx2
    obtain ⟨n1, q1, q2, q3, q4⟩ := begin_inv (lim := lim) (use := use) (cau := cau) (x := xs (i + 1)) (k := nI 0) hd hBg
    rw [q1] at k2
    have hCS1 : CS pic1 cA ad nb ns hw (beginF d lim use beg cau (nI (bN O)) (xs (i + 1)) (nI 0)).2.1 no cl (beginF d lim use beg cau (nI (bN O)) (xs (i + 1)) (nI 0)).2.2.1 (beginF d lim use beg cau (nI (bN O)) (xs (i + 1)) (nI 0)).2.2.2.1 (beginF d lim use beg cau (nI (bN O)) (xs (i + 1)) (nI 0)).2.2.2.2.1 (beginF d lim use beg cau (nI (bN O)) (xs (i + 1)) (nI 0)).2.2.2.2.2.1 B (n1, O.2) S dg := ⟨(kf 0 (by omega)).trans hE, k1, hBs.kept (fun q hq => kf q (by omega)), ⟨k2, (kf 95 (by omega)).trans hOb.2.1, (kf 96 (by omega)).trans hOb.2.2.1, (kf 97 (by omega)).trans hOb.2.2.2.1, (kf 98 (by omega)).trans hOb.2.2.2.2.1, (kf 99 (by omega)).trans hOb.2.2.2.2.2⟩, ⟨w0, g0, hT.kept (fun q _ _ => kf q (by omega))⟩, hO.kept (fun q _ _ => kf q (by omega)), hSs.kept (fun q hq => kf q (by omega)), fun q h1 h2 => (kf q (by omega)).trans (hz1 q h1 h2), fun j h1 h2 => (kf _ (by omega)).trans (hz2 j h1 h2), ⟨og, (kf 12 (by omega)).trans f12⟩⟩
    replace fM := (kf 1000 (by omega)).trans fM
    replace mC := mC.kept (fun q _ _ => kf q (by omega))
    replace mV := mV.kept (fun q _ _ => kf q (by omega))
    replace mB := mB.kept (fun q _ _ => kf q (by omega))
    replace mO := mO.kept (kf _ (by omega))
    replace mS := mS.kept (fun q _ _ => kf q (by omega))
    replace mL := mL.kept (kf _ (by omega))
    refine v_aload_n K 2 dL_law_168 rfl rfl ?_
    refine v_aload_n K 0 dL_law_169 rfl rfl ?_
    refine v_iload K dL_law_170 rfl ?_
    refine v_iconst (v := nI 1) K dL_law_172 (by decide) ?_
    refine v_iaddN K dL_law_173 ?_
    refine v_sald K hX hbl hbb dL_law_174 (by omega) (by omega) ?_
    refine v_aload_n K 0 dL_law_175 rfl rfl ?_
    refine v_iload K dL_law_176 rfl ?_
    refine v_iconst (v := nI 2) K dL_law_178 (by decide) ?_
    refine v_iaddN K dL_law_179 ?_
    refine v_sald K hX hbl hbb dL_law_180 (by omega) (by omega) ?_
    refine v_if_eq K 188 dL_law_181 (by decide) rfl (fun c181 => ?_) (fun c181 => absurd c181 (by omega))
    refine v_iconst (v := nI 0) K dL_law_188 (by decide) ?_
    refine cl_L_35 K dL_law_189 fM (c_X6_begin l D cA base pic1 ad th cl (nI (bN O)) nb d no ns lim use beg cau _ _ fM mC hd (by first | exact isB0 | exact isB1)) rfl rfl ⟨by decide, by decide⟩ (Nat.le_of_ble_eq_true rfl) ⟨show _ ≤ 603072 from by omega, show _ ≤ 7207018 from by omega⟩ (fun x189 pic3 hx4 => ?_)
    obtain ⟨rfl, m1, m2, mf⟩ := hx4
    refine v_icmp_eq K 1166 dL_law_192 (by decide) rfl rfl (fun c192 => ?_) (fun c192 => absurd c192 (by omega))
    rw [q1] at m1
    refine V.widen (k := cells + 6) (n := slots + 170) (by omega) (by omega) ?_
    refine v_at [(0, .ref bS), (1, .ref (ad 0)), (2, .ref (ad 1000)), (3, .ref (ad 12)), (4, .int (nI i))] (lcons rfl (lcons rfl (lcons rfl (lcons rfl (lcons rfl (lnil)))))) ?_
    exact kx _ ⟨ad, nb, ns, hw, (beginF d lim use beg cau (nI (bN O)) (xs (i + 1)) (nI 0)).2.1, no, cl, (beginF d lim use beg cau (nI (bN O)) (xs (i + 1)) (nI 0)).2.2.1, (beginF d lim use beg cau (nI (bN O)) (xs (i + 1)) (nI 0)).2.2.2.1, (beginF d lim use beg cau (nI (bN O)) (xs (i + 1)) (nI 0)).2.2.2.2.1, (beginF d lim use beg cau (nI (bN O)) (xs (i + 1)) (nI 0)).2.2.2.2.2.1, B, (n1, O.2), S, dg, ⟨rfl, rfl, rfl⟩, hCS1.kept hhw hns (fun q hq => mf q (by omega)), ⟨th, mac, mtp, mvl, mse, msz, mpr, mro, mfi, mto, mpb, mpa, mlv, m1, m2, mV.kept (fun q _ _ => mf q (by omega)), mB.kept (fun q _ _ => mf q (by omega)), mO.kept (mf _ (by omega)), mS.kept (fun q _ _ => mf q (by omega)), mL.kept (mf _ (by omega)), rB, rE.mono q2, rS⟩, ⟨q3, hnb, hhw, hns, hno5, Nat.le_trans q2 hOn, hOk, hBn, q4, hSb⟩⟩
  · refine v_iconst (v := nI 1) K dL_law_160 (by decide) ?_
    refine v_goto K 165 dL_law_161 (by decide) ?_
    refine cl_L_31 K dL_law_165 fE (c_X5_begin l D cA base pic ad nb ns cl d lim use beg cau (nI (bN O)) (bKp O) (bFs O) (bRd O) (bFb O) _ _ hE hC hOb.1 hd (by first | exact isB0 | exact isB1)) rfl rfl ⟨by decide, by decide⟩ (Nat.le_of_ble_eq_true rfl) ⟨show _ ≤ 603072 from by omega, show _ ≤ 7207018 from by omega⟩ (fun x165 pic5 hx6 => ?_)
    obtain ⟨rfl, k1, k2, kf⟩ := hx6
    obtain ⟨n1, q1, q2, q3, q4⟩ := begin_inv (lim := lim) (use := use) (cau := cau) (x := xs (i + 1)) (k := nI 1) hd hBg
    rw [q1] at k2
    have hCS1 : CS pic5 cA ad nb ns hw (beginF d lim use beg cau (nI (bN O)) (xs (i + 1)) (nI 1)).2.1 no cl (beginF d lim use beg cau (nI (bN O)) (xs (i + 1)) (nI 1)).2.2.1 (beginF d lim use beg cau (nI (bN O)) (xs (i + 1)) (nI 1)).2.2.2.1 (beginF d lim use beg cau (nI (bN O)) (xs (i + 1)) (nI 1)).2.2.2.2.1 (beginF d lim use beg cau (nI (bN O)) (xs (i + 1)) (nI 1)).2.2.2.2.2.1 B (n1, O.2) S dg := ⟨(kf 0 (by omega)).trans hE, k1, hBs.kept (fun q hq => kf q (by omega)), ⟨k2, (kf 95 (by omega)).trans hOb.2.1, (kf 96 (by omega)).trans hOb.2.2.1, (kf 97 (by omega)).trans hOb.2.2.2.1, (kf 98 (by omega)).trans hOb.2.2.2.2.1, (kf 99 (by omega)).trans hOb.2.2.2.2.2⟩, ⟨w0, g0, hT.kept (fun q _ _ => kf q (by omega))⟩, hO.kept (fun q _ _ => kf q (by omega)), hSs.kept (fun q hq => kf q (by omega)), fun q h1 h2 => (kf q (by omega)).trans (hz1 q h1 h2), fun j h1 h2 => (kf _ (by omega)).trans (hz2 j h1 h2), ⟨og, (kf 12 (by omega)).trans f12⟩⟩
    replace fM := (kf 1000 (by omega)).trans fM
    replace mC := mC.kept (fun q _ _ => kf q (by omega))
    replace mV := mV.kept (fun q _ _ => kf q (by omega))
    replace mB := mB.kept (fun q _ _ => kf q (by omega))
    replace mO := mO.kept (kf _ (by omega))
    replace mS := mS.kept (fun q _ _ => kf q (by omega))
    replace mL := mL.kept (kf _ (by omega))
    refine v_aload_n K 2 dL_law_168 rfl rfl ?_
    refine v_aload_n K 0 dL_law_169 rfl rfl ?_
    refine v_iload K dL_law_170 rfl ?_
    refine v_iconst (v := nI 1) K dL_law_172 (by decide) ?_
    refine v_iaddN K dL_law_173 ?_
    refine v_sald K hX hbl hbb dL_law_174 (by omega) (by omega) ?_
    refine v_aload_n K 0 dL_law_175 rfl rfl ?_
    refine v_iload K dL_law_176 rfl ?_
    refine v_iconst (v := nI 2) K dL_law_178 (by decide) ?_
    refine v_iaddN K dL_law_179 ?_
    refine v_sald K hX hbl hbb dL_law_180 (by omega) (by omega) ?_
    refine v_if_eq K 188 dL_law_181 (by decide) rfl (fun c181 => absurd c181 (by omega)) (fun c181 => ?_)
    refine v_iconst (v := nI 1) K dL_law_184 (by decide) ?_
    refine v_goto K 189 dL_law_185 (by decide) ?_
    refine cl_L_35 K dL_law_189 fM (c_X6_begin l D cA base pic5 ad th cl (nI (bN O)) nb d no ns lim use beg cau _ _ fM mC hd (by first | exact isB0 | exact isB1)) rfl rfl ⟨by decide, by decide⟩ (Nat.le_of_ble_eq_true rfl) ⟨show _ ≤ 603072 from by omega, show _ ≤ 7207018 from by omega⟩ (fun x189 pic7 hx8 => ?_)
    obtain ⟨rfl, m1, m2, mf⟩ := hx8
    refine v_icmp_eq K 1166 dL_law_192 (by decide) rfl rfl (fun c192 => ?_) (fun c192 => absurd c192 (by omega))
    rw [q1] at m1
    refine V.widen (k := cells + 6) (n := slots + 170) (by omega) (by omega) ?_
    refine v_at [(0, .ref bS), (1, .ref (ad 0)), (2, .ref (ad 1000)), (3, .ref (ad 12)), (4, .int (nI i))] (lcons rfl (lcons rfl (lcons rfl (lcons rfl (lcons rfl (lnil)))))) ?_
    exact kx _ ⟨ad, nb, ns, hw, (beginF d lim use beg cau (nI (bN O)) (xs (i + 1)) (nI 1)).2.1, no, cl, (beginF d lim use beg cau (nI (bN O)) (xs (i + 1)) (nI 1)).2.2.1, (beginF d lim use beg cau (nI (bN O)) (xs (i + 1)) (nI 1)).2.2.2.1, (beginF d lim use beg cau (nI (bN O)) (xs (i + 1)) (nI 1)).2.2.2.2.1, (beginF d lim use beg cau (nI (bN O)) (xs (i + 1)) (nI 1)).2.2.2.2.2.1, B, (n1, O.2), S, dg, ⟨rfl, rfl, rfl⟩, hCS1.kept hhw hns (fun q hq => mf q (by omega)), ⟨th, mac, mtp, mvl, mse, msz, mpr, mro, mfi, mto, mpb, mpa, mlv, m1, m2, mV.kept (fun q _ _ => mf q (by omega)), mB.kept (fun q _ _ => mf q (by omega)), mO.kept (mf _ (by omega)), mS.kept (fun q _ _ => mf q (by omega)), mL.kept (mf _ (by omega)), rB, rE.mono q2, rS⟩, ⟨q3, hnb, hhw, hns, hno5, Nat.le_trans q2 hOn, hOk, hBn, q4, hSb⟩⟩

set_option maxHeartbeats 4000000 in
set_option maxRecDepth 100000 in
theorem lw_c1 {p : Program} {l : Launch} {e : Env} {s : State} {m : MethodId} {args : Array Value} {below : List Frame} {meth : Method} {c : Code} {Q : State → Prop} {D : va_G} {cA : Nat → ClassId} {base : Nat} {cw : Cond} (KE9 : KE p m c cL_law 8 s args cw RL D cA base) (hl : l.stackTraces = false) {bS L : Nat} {xs : Nat → Int32} (hX : va_X bS L xs s s.heap) (hbl : bS < s.heap.size) (hbb : bS < base) (hL9 : L ≤ 4608) {a0 aM aO : Nat} (i : Nat) (hi : i + 9 ≤ L) {pic : PIC} {cells slots : Nat} (hcc : cells + 6 ≤ 603072) (hss : slots + 170 ≤ 7207018) (hI : LInv pic cA a0 aM aO) (kx : ∀ pic1, LInv pic1 cA a0 aM aO → V p l e room_1 s m args below meth c Q D base 8 pic1 (lvOf [(0, .ref bS), (1, .ref a0), (2, .ref aM), (3, .ref aO), (4, .int (nI i))]) 1166 [] (cells + 6) (slots + 170)) : V p l e room_1 s m args below meth c Q D base 8 pic (lvOf [(0, .ref bS), (1, .ref a0), (2, .ref aM), (3, .ref aO), (4, .int (nI i))]) 197 [] cells slots := by
  have K := KE9.kx
  obtain ⟨ad, nb, ns, hw, d, no, cl, lim, use, beg, cau, B, O, S, dg, ⟨rfl, rfl, rfl⟩, hCS, hMS, hPU⟩ := hI
  have ⟨hE, hC, hBs, hOb, ⟨w0, g0, hT⟩, hO, hSs, hz1, hz2, ⟨og, f12⟩⟩ := hCS
  have ⟨hd, hnb, hhw, hns, hno5, hOn, hOk, hBn, hBg, hSb⟩ := hPU
  obtain ⟨th, mac, mtp, mvl, mse, msz, mpr, mro, mfi, mto, mpb, mpa, mlv, fM, mC, mV, mB, mO, mS, mL, rB, rE, rS⟩ := hMS
  have fE := hE
  unfold EObj at fE
  have hnb40 : nb ≤ 40 := Nat.le_trans hnb hhw
  refine v_aload_n K 1 dL_law_197 rfl rfl ?_
  refine v_aload_n K 0 dL_law_198 rfl rfl ?_
  refine v_iload K dL_law_199 rfl ?_
  refine v_iconst (v := nI 1) K dL_law_201 (by decide) ?_
  refine v_iaddN K dL_law_202 ?_
  refine v_sald K hX hbl hbb dL_law_203 (by omega) (by omega) ?_
  refine v_aload_n K 0 dL_law_204 rfl rfl ?_
  refine v_iload K dL_law_205 rfl ?_
  refine v_iconst (v := nI 2) K dL_law_207 (by decide) ?_
  refine v_iaddN K dL_law_208 ?_
  refine v_sald K hX hbl hbb dL_law_209 (by omega) (by omega) ?_
  refine v_aload_n K 0 dL_law_210 rfl rfl ?_
  refine v_iload K dL_law_211 rfl ?_
  refine v_iconst (v := nI 3) K dL_law_213 (by decide) ?_
  refine v_iaddN K dL_law_214 ?_
  refine v_sald K hX hbl hbb dL_law_215 (by omega) (by omega) ?_
  refine v_aload_n K 0 dL_law_216 rfl rfl ?_
  refine v_iload K dL_law_217 rfl ?_
  refine v_iconst (v := nI 4) K dL_law_219 (by decide) ?_
  refine v_iaddN K dL_law_220 ?_
  refine v_sald K hX hbl hbb dL_law_221 (by omega) (by omega) ?_
  refine v_aload_n K 0 dL_law_222 rfl rfl ?_
  refine v_iload K dL_law_223 rfl ?_
  refine v_iconst (v := nI 5) K dL_law_225 (by decide) ?_
  refine v_iaddN K dL_law_226 ?_
  refine v_sald K hX hbl hbb dL_law_227 (by omega) (by omega) ?_
  refine v_i2l K dL_law_228 ?_
  refine v_bipush (v := nI 32) K dL_law_229 (by decide) ?_
  refine v_lshl K dL_law_231 ?_
  refine v_aload_n K 0 dL_law_232 rfl rfl ?_
  refine v_iload K dL_law_233 rfl ?_
  refine v_bipush (v := nI 6) K dL_law_235 (by decide) ?_
  refine v_iaddN K dL_law_237 ?_
  refine v_sald K hX hbl hbb dL_law_238 (by omega) (by omega) ?_
  refine v_i2l K dL_law_239 ?_
  refine v_ldc2 K gw_7 dL_law_240 ?_
  refine v_land K dL_law_243 ?_
  refine v_lor K dL_law_244 ?_
  refine v_top (v := .long (lgV (xs (i + 5)) (xs (i + 6)))) rfl ?_
  refine cl_L_38 K dL_law_245 fE (c_X5_tell l D cA base pic ad nb ns cl d lim use beg cau (bN O) (bKp O) (bFs O) (bRd O) (bFb O) (eA (bE O)) (e1 (bE O)) (e2 (bE O)) (e3 (bE O)) (eV (bE O)) _ _ _ _ (lgV (xs (i + 5)) (xs (i + 6))) hE hC hOb hd hOn) rfl rfl ⟨by decide, by decide⟩ (Nat.le_of_ble_eq_true rfl) ⟨show _ ≤ 603072 from by omega, show _ ≤ 7207018 from by omega⟩ (fun x245 pic1 hx2 => ?_)
  obtain ⟨rfl, k1, k2, kf⟩ := hx2
  obtain ⟨n1, q1, q2, q3, q4, q5⟩ := tell_inv (lim := lim) (use := use) (cau := cau) (ac := xs (i + 1)) (a := xs (i + 2)) (b := xs (i + 3)) (c := xs (i + 4)) (v := (lgV (xs (i + 5)) (xs (i + 6)))) hd hOn hBg rE
  rw [q1] at k2
  have hCS1 : CS pic1 cA ad nb ns hw (tellF d lim use beg cau (bN O) (xs (i + 1)) (xs (i + 2)) (xs (i + 3)) (xs (i + 4))).2.1 no cl lim (tellF d lim use beg cau (bN O) (xs (i + 1)) (xs (i + 2)) (xs (i + 3)) (xs (i + 4))).2.2.1 beg cau B (n1, bKp O, bFs O, bRd O, bFb O, tlE (tellF d lim use beg cau (bN O) (xs (i + 1)) (xs (i + 2)) (xs (i + 3)) (xs (i + 4))).2.2.2.2 (bN O) (xs (i + 1)) (xs (i + 2)) (xs (i + 3)) (xs (i + 4)) (lgV (xs (i + 5)) (xs (i + 6))) (bE O)) S dg := ⟨(kf 0 (by omega)).trans hE, k1, hBs.kept (fun q hq => kf q (by omega)), k2, ⟨w0, g0, hT.kept (fun q _ _ => kf q (by omega))⟩, hO.kept (fun q _ _ => kf q (by omega)), hSs.kept (fun q hq => kf q (by omega)), fun q h1 h2 => (kf q (by omega)).trans (hz1 q h1 h2), fun j h1 h2 => (kf _ (by omega)).trans (hz2 j h1 h2), ⟨og, (kf 12 (by omega)).trans f12⟩⟩
  replace fM := (kf 1000 (by omega)).trans fM
  replace mC := mC.kept (fun q _ _ => kf q (by omega))
  replace mV := mV.kept (fun q _ _ => kf q (by omega))
  replace mB := mB.kept (fun q _ _ => kf q (by omega))
  replace mO := mO.kept (kf _ (by omega))
  replace mS := mS.kept (fun q _ _ => kf q (by omega))
  replace mL := mL.kept (kf _ (by omega))
  refine v_aload_n K 2 dL_law_248 rfl rfl ?_
  refine v_aload_n K 0 dL_law_249 rfl rfl ?_
  refine v_iload K dL_law_250 rfl ?_
  refine v_iconst (v := nI 1) K dL_law_252 (by decide) ?_
  refine v_iaddN K dL_law_253 ?_
  refine v_sald K hX hbl hbb dL_law_254 (by omega) (by omega) ?_
  refine v_aload_n K 0 dL_law_255 rfl rfl ?_
  refine v_iload K dL_law_256 rfl ?_
  refine v_iconst (v := nI 2) K dL_law_258 (by decide) ?_
  refine v_iaddN K dL_law_259 ?_
  refine v_sald K hX hbl hbb dL_law_260 (by omega) (by omega) ?_
  refine v_aload_n K 0 dL_law_261 rfl rfl ?_
  refine v_iload K dL_law_262 rfl ?_
  refine v_iconst (v := nI 3) K dL_law_264 (by decide) ?_
  refine v_iaddN K dL_law_265 ?_
  refine v_sald K hX hbl hbb dL_law_266 (by omega) (by omega) ?_
  refine v_aload_n K 0 dL_law_267 rfl rfl ?_
  refine v_iload K dL_law_268 rfl ?_
  refine v_iconst (v := nI 4) K dL_law_270 (by decide) ?_
  refine v_iaddN K dL_law_271 ?_
  refine v_sald K hX hbl hbb dL_law_272 (by omega) (by omega) ?_
  refine v_aload_n K 0 dL_law_273 rfl rfl ?_
  refine v_iload K dL_law_274 rfl ?_
  refine v_iconst (v := nI 5) K dL_law_276 (by decide) ?_
  refine v_iaddN K dL_law_277 ?_
  refine v_sald K hX hbl hbb dL_law_278 (by omega) (by omega) ?_
  refine v_i2l K dL_law_279 ?_
  refine v_bipush (v := nI 32) K dL_law_280 (by decide) ?_
  refine v_lshl K dL_law_282 ?_
  refine v_aload_n K 0 dL_law_283 rfl rfl ?_
  refine v_iload K dL_law_284 rfl ?_
  refine v_bipush (v := nI 6) K dL_law_286 (by decide) ?_
  refine v_iaddN K dL_law_288 ?_
  refine v_sald K hX hbl hbb dL_law_289 (by omega) (by omega) ?_
  refine v_i2l K dL_law_290 ?_
  refine v_ldc2 K gw_7 dL_law_291 ?_
  refine v_land K dL_law_294 ?_
  refine v_lor K dL_law_295 ?_
  refine v_top (v := .long (lgV (xs (i + 5)) (xs (i + 6)))) rfl ?_
  refine cl_L_42 K dL_law_296 fM (c_X6_tell l D cA base pic1 ad th cl (bN O) nb d no ns lim use beg cau mac mtp mvl mse _ _ _ _ (lgV (xs (i + 5)) (xs (i + 6))) fM mC mV hd hOn) rfl rfl ⟨by decide, by decide⟩ (Nat.le_of_ble_eq_true rfl) ⟨show _ ≤ 603072 from by omega, show _ ≤ 7207018 from by omega⟩ (fun x296 pic3 hx4 => ?_)
  obtain ⟨rfl, m1, m2, m3, mf⟩ := hx4
  refine v_icmp_eq K 1166 dL_law_299 (by decide) rfl rfl (fun c299 => ?_) (fun c299 => absurd c299 (by omega))
  rw [q1] at m1
  have RRB := relB_tell (f := (tellF d lim use beg cau (bN O) (xs (i + 1)) (xs (i + 2)) (xs (i + 3)) (xs (i + 4))).2.2.2.2) (n := bN O) (ac := xs (i + 1)) (a := xs (i + 2)) (b := xs (i + 3)) (c := xs (i + 4)) (v := (lgV (xs (i + 5)) (xs (i + 6)))) (x := cl + nI (bN O)) hnb40 rB
  refine V.widen (k := cells + 6) (n := slots + 170) (by omega) (by omega) ?_
  refine v_at [(0, .ref bS), (1, .ref (ad 0)), (2, .ref (ad 1000)), (3, .ref (ad 12)), (4, .int (nI i))] (lcons rfl (lcons rfl (lcons rfl (lcons rfl (lcons rfl (lnil)))))) ?_
  exact kx _ ⟨ad, nb, ns, hw, (tellF d lim use beg cau (bN O) (xs (i + 1)) (xs (i + 2)) (xs (i + 3)) (xs (i + 4))).2.1, no, cl, lim, (tellF d lim use beg cau (bN O) (xs (i + 1)) (xs (i + 2)) (xs (i + 3)) (xs (i + 4))).2.2.1, beg, cau, B, (n1, bKp O, bFs O, bRd O, bFb O, tlE (tellF d lim use beg cau (bN O) (xs (i + 1)) (xs (i + 2)) (xs (i + 3)) (xs (i + 4))).2.2.2.2 (bN O) (xs (i + 1)) (xs (i + 2)) (xs (i + 3)) (xs (i + 4)) (lgV (xs (i + 5)) (xs (i + 6))) (bE O)), S, dg, ⟨rfl, rfl, rfl⟩, hCS1.kept hhw hns (fun q hq => mf q (by omega)), ⟨th, _, _, _, _, msz, mpr, mro, mfi, mto, mpb, mpa, mlv, m1, m2, m3, mB.kept (fun q _ _ => mf q (by omega)), mO.kept (mf _ (by omega)), mS.kept (fun q _ _ => mf q (by omega)), mL.kept (mf _ (by omega)), RRB, q5, rS⟩, ⟨q3, hnb, hhw, hns, hno5, q2, hOk, hBn, q4, hSb⟩⟩

set_option maxHeartbeats 4000000 in
set_option maxRecDepth 100000 in
theorem lw_c2 {p : Program} {l : Launch} {e : Env} {s : State} {m : MethodId} {args : Array Value} {below : List Frame} {meth : Method} {c : Code} {Q : State → Prop} {D : va_G} {cA : Nat → ClassId} {base : Nat} {cw : Cond} (KE9 : KE p m c cL_law 8 s args cw RL D cA base) (hl : l.stackTraces = false) {bS L : Nat} {xs : Nat → Int32} (hX : va_X bS L xs s s.heap) (hbl : bS < s.heap.size) (hbb : bS < base) (hL9 : L ≤ 4608) {a0 aM aO : Nat} (i : Nat) (hi : i + 9 ≤ L) {pic : PIC} {cells slots : Nat} (hcc : cells + 6 ≤ 603072) (hss : slots + 170 ≤ 7207018) (hI : LInv pic cA a0 aM aO) (kx : ∀ pic1, LInv pic1 cA a0 aM aO → V p l e room_1 s m args below meth c Q D base 8 pic1 (lvOf [(0, .ref bS), (1, .ref a0), (2, .ref aM), (3, .ref aO), (4, .int (nI i))]) 1166 [] (cells + 6) (slots + 170)) : V p l e room_1 s m args below meth c Q D base 8 pic (lvOf [(0, .ref bS), (1, .ref a0), (2, .ref aM), (3, .ref aO), (4, .int (nI i))]) 304 [] cells slots := by
  have K := KE9.kx
  obtain ⟨ad, nb, ns, hw, d, no, cl, lim, use, beg, cau, B, O, S, dg, ⟨rfl, rfl, rfl⟩, hCS, hMS, hPU⟩ := hI
  have ⟨hE, hC, hBs, hOb, ⟨w0, g0, hT⟩, hO, hSs, hz1, hz2, ⟨og, f12⟩⟩ := hCS
  have ⟨hd, hnb, hhw, hns, hno5, hOn, hOk, hBn, hBg, hSb⟩ := hPU
  obtain ⟨th, mac, mtp, mvl, mse, msz, mpr, mro, mfi, mto, mpb, mpa, mlv, fM, mC, mV, mB, mO, mS, mL, rB, rE, rS⟩ := hMS
  have fE := hE
  unfold EObj at fE
  have hnb40 : nb ≤ 40 := Nat.le_trans hnb hhw
  refine v_aload_n K 1 dL_law_304 rfl rfl ?_
  refine v_aload_n K 0 dL_law_305 rfl rfl ?_
  refine v_iload K dL_law_306 rfl ?_
  refine v_iconst (v := nI 1) K dL_law_308 (by decide) ?_
  refine v_iaddN K dL_law_309 ?_
  refine v_sald K hX hbl hbb dL_law_310 (by omega) (by omega) ?_
  refine v_if_eq K 318 dL_law_311 (by decide) rfl (fun c311 => ?_) (fun c311 => ?_)
  · refine v_iconst (v := nI 0) K dL_law_318 (by decide) ?_
    refine cl_L_43 K dL_law_319 fE (c_X5_end l D cA base pic ad nb ns cl d lim use beg cau (nI (bN O)) (bKp O) (bFs O) (bRd O) (bFb O) _ hE hC hOb.1 hd) rfl rfl ⟨by decide, by decide⟩ (Nat.le_of_ble_eq_true rfl) ⟨show _ ≤ 603072 from by omega, show _ ≤ 7207018 from by omega⟩ (fun x319 pic1 hx2 => ?_)
    obtain ⟨rfl, k1, k2, kf⟩ := hx2
    obtain ⟨n1, q1, q2, q3, q4⟩ := end_inv (use := use) (cau := cau) (w := nI 0) hd hBg
    rw [q1] at k2
    have hCS1 : CS pic1 cA ad nb ns hw (endF d use beg cau (nI (bN O)) (nI 0)).2.1 no cl lim (endF d use beg cau (nI (bN O)) (nI 0)).2.2.1 beg cau B (n1, O.2) S dg := ⟨(kf 0 (by omega)).trans hE, k1, hBs.kept (fun q hq => kf q (by omega)), ⟨k2, (kf 95 (by omega)).trans hOb.2.1, (kf 96 (by omega)).trans hOb.2.2.1, (kf 97 (by omega)).trans hOb.2.2.2.1, (kf 98 (by omega)).trans hOb.2.2.2.2.1, (kf 99 (by omega)).trans hOb.2.2.2.2.2⟩, ⟨w0, g0, hT.kept (fun q _ _ => kf q (by omega))⟩, hO.kept (fun q _ _ => kf q (by omega)), hSs.kept (fun q hq => kf q (by omega)), fun q h1 h2 => (kf q (by omega)).trans (hz1 q h1 h2), fun j h1 h2 => (kf _ (by omega)).trans (hz2 j h1 h2), ⟨og, (kf 12 (by omega)).trans f12⟩⟩
    replace fM := (kf 1000 (by omega)).trans fM
    replace mC := mC.kept (fun q _ _ => kf q (by omega))
    replace mV := mV.kept (fun q _ _ => kf q (by omega))
    replace mB := mB.kept (fun q _ _ => kf q (by omega))
    replace mO := mO.kept (kf _ (by omega))
    replace mS := mS.kept (fun q _ _ => kf q (by omega))
    replace mL := mL.kept (kf _ (by omega))
    refine v_aload_n K 2 dL_law_322 rfl rfl ?_
    refine v_aload_n K 0 dL_law_323 rfl rfl ?_
    refine v_iload K dL_law_324 rfl ?_
    refine v_iconst (v := nI 1) K dL_law_326 (by decide) ?_
    refine v_iaddN K dL_law_327 ?_
    refine v_sald K hX hbl hbb dL_law_328 (by omega) (by omega) ?_
    refine v_if_eq K 336 dL_law_329 (by decide) rfl (fun c329 => ?_) (fun c329 => absurd c329 (by omega))
    refine v_iconst (v := nI 0) K dL_law_336 (by decide) ?_
    refine cl_L_47 K dL_law_337 fM (c_X6_end l D cA base pic1 ad th cl (nI (bN O)) nb d no ns lim use beg cau _ fM mC hd) rfl rfl ⟨by decide, by decide⟩ (Nat.le_of_ble_eq_true rfl) ⟨show _ ≤ 603072 from by omega, show _ ≤ 7207018 from by omega⟩ (fun x337 pic3 hx4 => ?_)
    obtain ⟨rfl, m1, m2, mf⟩ := hx4
    refine v_icmp_eq K 1166 dL_law_340 (by decide) rfl rfl (fun c340 => ?_) (fun c340 => absurd c340 (by omega))
    rw [q1] at m1
    refine V.widen (k := cells + 6) (n := slots + 170) (by omega) (by omega) ?_
    refine v_at [(0, .ref bS), (1, .ref (ad 0)), (2, .ref (ad 1000)), (3, .ref (ad 12)), (4, .int (nI i))] (lcons rfl (lcons rfl (lcons rfl (lcons rfl (lcons rfl (lnil)))))) ?_
    exact kx _ ⟨ad, nb, ns, hw, (endF d use beg cau (nI (bN O)) (nI 0)).2.1, no, cl, lim, (endF d use beg cau (nI (bN O)) (nI 0)).2.2.1, beg, cau, B, (n1, O.2), S, dg, ⟨rfl, rfl, rfl⟩, hCS1.kept hhw hns (fun q hq => mf q (by omega)), ⟨th, mac, mtp, mvl, mse, msz, mpr, mro, mfi, mto, mpb, mpa, mlv, m1, m2, mV.kept (fun q _ _ => mf q (by omega)), mB.kept (fun q _ _ => mf q (by omega)), mO.kept (mf _ (by omega)), mS.kept (fun q _ _ => mf q (by omega)), mL.kept (mf _ (by omega)), rB, rE.mono q2, rS⟩, ⟨q3, hnb, hhw, hns, hno5, Nat.le_trans q2 hOn, hOk, hBn, q4, hSb⟩⟩
  · refine v_iconst (v := nI 1) K dL_law_314 (by decide) ?_
    refine v_goto K 319 dL_law_315 (by decide) ?_
    refine cl_L_43 K dL_law_319 fE (c_X5_end l D cA base pic ad nb ns cl d lim use beg cau (nI (bN O)) (bKp O) (bFs O) (bRd O) (bFb O) _ hE hC hOb.1 hd) rfl rfl ⟨by decide, by decide⟩ (Nat.le_of_ble_eq_true rfl) ⟨show _ ≤ 603072 from by omega, show _ ≤ 7207018 from by omega⟩ (fun x319 pic5 hx6 => ?_)
    obtain ⟨rfl, k1, k2, kf⟩ := hx6
    obtain ⟨n1, q1, q2, q3, q4⟩ := end_inv (use := use) (cau := cau) (w := nI 1) hd hBg
    rw [q1] at k2
    have hCS1 : CS pic5 cA ad nb ns hw (endF d use beg cau (nI (bN O)) (nI 1)).2.1 no cl lim (endF d use beg cau (nI (bN O)) (nI 1)).2.2.1 beg cau B (n1, O.2) S dg := ⟨(kf 0 (by omega)).trans hE, k1, hBs.kept (fun q hq => kf q (by omega)), ⟨k2, (kf 95 (by omega)).trans hOb.2.1, (kf 96 (by omega)).trans hOb.2.2.1, (kf 97 (by omega)).trans hOb.2.2.2.1, (kf 98 (by omega)).trans hOb.2.2.2.2.1, (kf 99 (by omega)).trans hOb.2.2.2.2.2⟩, ⟨w0, g0, hT.kept (fun q _ _ => kf q (by omega))⟩, hO.kept (fun q _ _ => kf q (by omega)), hSs.kept (fun q hq => kf q (by omega)), fun q h1 h2 => (kf q (by omega)).trans (hz1 q h1 h2), fun j h1 h2 => (kf _ (by omega)).trans (hz2 j h1 h2), ⟨og, (kf 12 (by omega)).trans f12⟩⟩
    replace fM := (kf 1000 (by omega)).trans fM
    replace mC := mC.kept (fun q _ _ => kf q (by omega))
    replace mV := mV.kept (fun q _ _ => kf q (by omega))
    replace mB := mB.kept (fun q _ _ => kf q (by omega))
    replace mO := mO.kept (kf _ (by omega))
    replace mS := mS.kept (fun q _ _ => kf q (by omega))
    replace mL := mL.kept (kf _ (by omega))
    refine v_aload_n K 2 dL_law_322 rfl rfl ?_
    refine v_aload_n K 0 dL_law_323 rfl rfl ?_
    refine v_iload K dL_law_324 rfl ?_
    refine v_iconst (v := nI 1) K dL_law_326 (by decide) ?_
    refine v_iaddN K dL_law_327 ?_
    refine v_sald K hX hbl hbb dL_law_328 (by omega) (by omega) ?_
    refine v_if_eq K 336 dL_law_329 (by decide) rfl (fun c329 => absurd c329 (by omega)) (fun c329 => ?_)
    refine v_iconst (v := nI 1) K dL_law_332 (by decide) ?_
    refine v_goto K 337 dL_law_333 (by decide) ?_
    refine cl_L_47 K dL_law_337 fM (c_X6_end l D cA base pic5 ad th cl (nI (bN O)) nb d no ns lim use beg cau _ fM mC hd) rfl rfl ⟨by decide, by decide⟩ (Nat.le_of_ble_eq_true rfl) ⟨show _ ≤ 603072 from by omega, show _ ≤ 7207018 from by omega⟩ (fun x337 pic7 hx8 => ?_)
    obtain ⟨rfl, m1, m2, mf⟩ := hx8
    refine v_icmp_eq K 1166 dL_law_340 (by decide) rfl rfl (fun c340 => ?_) (fun c340 => absurd c340 (by omega))
    rw [q1] at m1
    refine V.widen (k := cells + 6) (n := slots + 170) (by omega) (by omega) ?_
    refine v_at [(0, .ref bS), (1, .ref (ad 0)), (2, .ref (ad 1000)), (3, .ref (ad 12)), (4, .int (nI i))] (lcons rfl (lcons rfl (lcons rfl (lcons rfl (lcons rfl (lnil)))))) ?_
    exact kx _ ⟨ad, nb, ns, hw, (endF d use beg cau (nI (bN O)) (nI 1)).2.1, no, cl, lim, (endF d use beg cau (nI (bN O)) (nI 1)).2.2.1, beg, cau, B, (n1, O.2), S, dg, ⟨rfl, rfl, rfl⟩, hCS1.kept hhw hns (fun q hq => mf q (by omega)), ⟨th, mac, mtp, mvl, mse, msz, mpr, mro, mfi, mto, mpb, mpa, mlv, m1, m2, mV.kept (fun q _ _ => mf q (by omega)), mB.kept (fun q _ _ => mf q (by omega)), mO.kept (mf _ (by omega)), mS.kept (fun q _ _ => mf q (by omega)), mL.kept (mf _ (by omega)), rB, rE.mono q2, rS⟩, ⟨q3, hnb, hhw, hns, hno5, Nat.le_trans q2 hOn, hOk, hBn, q4, hSb⟩⟩

set_option maxHeartbeats 4000000 in
set_option maxRecDepth 100000 in
theorem lw_c3 {p : Program} {l : Launch} {e : Env} {s : State} {m : MethodId} {args : Array Value} {below : List Frame} {meth : Method} {c : Code} {Q : State → Prop} {D : va_G} {cA : Nat → ClassId} {base : Nat} {cw : Cond} (KE9 : KE p m c cL_law 8 s args cw RL D cA base) (hl : l.stackTraces = false) {bS L : Nat} {xs : Nat → Int32} (hX : va_X bS L xs s s.heap) (hbl : bS < s.heap.size) (hbb : bS < base) (hL9 : L ≤ 4608) {a0 aM aO : Nat} (i : Nat) (hi : i + 9 ≤ L) {pic : PIC} {cells slots : Nat} (hcc : cells + 6 ≤ 603072) (hss : slots + 170 ≤ 7207018) (hI : LInv pic cA a0 aM aO) (kx : ∀ pic1, LInv pic1 cA a0 aM aO → V p l e room_1 s m args below meth c Q D base 8 pic1 (lvOf [(0, .ref bS), (1, .ref a0), (2, .ref aM), (3, .ref aO), (4, .int (nI i))]) 1166 [] (cells + 6) (slots + 170)) : V p l e room_1 s m args below meth c Q D base 8 pic (lvOf [(0, .ref bS), (1, .ref a0), (2, .ref aM), (3, .ref aO), (4, .int (nI i))]) 345 [] cells slots := by
  have K := KE9.kx
  obtain ⟨ad, nb, ns, hw, d, no, cl, lim, use, beg, cau, B, O, S, dg, ⟨rfl, rfl, rfl⟩, hCS, hMS, hPU⟩ := hI
  have ⟨hE, hC, hBs, hOb, ⟨w0, g0, hT⟩, hO, hSs, hz1, hz2, ⟨og, f12⟩⟩ := hCS
  have ⟨hd, hnb, hhw, hns, hno5, hOn, hOk, hBn, hBg, hSb⟩ := hPU
  obtain ⟨th, mac, mtp, mvl, mse, msz, mpr, mro, mfi, mto, mpb, mpa, mlv, fM, mC, mV, mB, mO, mS, mL, rB, rE, rS⟩ := hMS
  have fE := hE
  unfold EObj at fE
  have hnb40 : nb ≤ 40 := Nat.le_trans hnb hhw
  refine v_aload_n K 1 dL_law_345 rfl rfl ?_
  refine v_aload_n K 0 dL_law_346 rfl rfl ?_
  refine v_iload K dL_law_347 rfl ?_
  refine v_iconst (v := nI 1) K dL_law_349 (by decide) ?_
  refine v_iaddN K dL_law_350 ?_
  refine v_sald K hX hbl hbb dL_law_351 (by omega) (by omega) ?_
  refine cl_L_48 K dL_law_352 fE (c_X5_told l D cA base pic ad nb ns cl d lim use beg cau (bN O) (bKp O) (bFs O) (bRd O) (bFb O) _ hE hC hOb.1 hd) rfl rfl ⟨by decide, by decide⟩ (Nat.le_of_ble_eq_true rfl) ⟨show _ ≤ 603072 from by omega, show _ ≤ 7207018 from by omega⟩ (fun x352 pic1 hx2 => ?_)
  obtain ⟨rfl, rfl⟩ := hx2
  refine v_aload_n K 2 dL_law_355 rfl rfl ?_
  refine v_aload_n K 0 dL_law_356 rfl rfl ?_
  refine v_iload K dL_law_357 rfl ?_
  refine v_iconst (v := nI 1) K dL_law_359 (by decide) ?_
  refine v_iaddN K dL_law_360 ?_
  refine v_sald K hX hbl hbb dL_law_361 (by omega) (by omega) ?_
  refine cl_L_52 K dL_law_362 fM (c_X6_told l D cA base pic ad th cl (bN O) nb d no ns lim use beg cau _ fM mC hd) rfl rfl ⟨by decide, by decide⟩ (Nat.le_of_ble_eq_true rfl) ⟨show _ ≤ 603072 from by omega, show _ ≤ 7207018 from by omega⟩ (fun x362 pic3 hx4 => ?_)
  obtain ⟨rfl, rfl⟩ := hx4
  refine v_icmp_eq K 1166 dL_law_365 (by decide) rfl rfl (fun c365 => ?_) (fun c365 => absurd c365 (by omega))
  refine V.widen (k := cells + 6) (n := slots + 170) (by omega) (by omega) ?_
  refine v_at [(0, .ref bS), (1, .ref (ad 0)), (2, .ref (ad 1000)), (3, .ref (ad 12)), (4, .int (nI i))] (lcons rfl (lcons rfl (lcons rfl (lcons rfl (lcons rfl (lnil)))))) ?_
  exact kx _ ⟨ad, nb, ns, hw, d, no, cl, lim, use, beg, cau, B, O, S, dg, ⟨rfl, rfl, rfl⟩, hCS, ⟨th, mac, mtp, mvl, mse, msz, mpr, mro, mfi, mto, mpb, mpa, mlv, fM, mC, mV, mB, mO, mS, mL, rB, rE, rS⟩, hPU⟩

