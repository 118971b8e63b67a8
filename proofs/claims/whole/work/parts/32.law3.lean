set_option maxHeartbeats 4000000 in
set_option maxRecDepth 100000 in
theorem lw_c14 {p : Program} {l : Launch} {e : Env} {s : State} {m : MethodId} {args : Array Value} {below : List Frame} {meth : Method} {c : Code} {Q : State → Prop} {D : va_G} {cA : Nat → ClassId} {base : Nat} {cw : Cond} (KE9 : KE p m c cL_law 8 s args cw RL D cA base) (hl : l.stackTraces = false) {bS L : Nat} {xs : Nat → Int32} (hX : va_X bS L xs s s.heap) (hbl : bS < s.heap.size) (hbb : bS < base) (hL9 : L ≤ 4608) {a0 aM aO : Nat} (i : Nat) (hi : i + 9 ≤ L) {pic : PIC} {cells slots : Nat} (hcc : cells + 6 ≤ 603072) (hss : slots + 170 ≤ 7207018) (hI : LInv pic cA a0 aM aO) (kx : ∀ pic1, LInv pic1 cA a0 aM aO → V p l e room_1 s m args below meth c Q D base 8 pic1 (lvOf [(0, .ref bS), (1, .ref a0), (2, .ref aM), (3, .ref aO), (4, .int (nI i))]) 1166 [] (cells + 6) (slots + 170)) : V p l e room_1 s m args below meth c Q D base 8 pic (lvOf [(0, .ref bS), (1, .ref a0), (2, .ref aM), (3, .ref aO), (4, .int (nI i))]) 782 [] cells slots := by
  have K := KE9.kx
  obtain ⟨ad, nb, ns, hw, d, no, cl, lim, use, beg, cau, B, O, S, dg, ⟨rfl, rfl, rfl⟩, hCS, hMS, hPU⟩ := hI
  have ⟨hE, hC, hBs, hOb, ⟨w0, g0, hT⟩, hO, hSs, hz1, hz2, ⟨og, f12⟩⟩ := hCS
  have ⟨hd, hnb, hhw, hns, hno5, hOn, hOk, hBn, hBg, hSb⟩ := hPU
  obtain ⟨th, mac, mtp, mvl, mse, msz, mpr, mro, mfi, mto, mpb, mpa, mlv, fM, mC, mV, mB, mO, mS, mL, rB, rE, rS⟩ := hMS
  have fE := hE
  unfold EObj at fE
  have hnb40 : nb ≤ 40 := Nat.le_trans hnb hhw
  refine v_aload_n K 1 dL_law_782 rfl rfl ?_
  refine v_aload_n K 0 dL_law_783 rfl rfl ?_
  refine v_iload K dL_law_784 rfl ?_
  refine v_iconst (v := nI 1) K dL_law_786 (by decide) ?_
  refine v_iaddN K dL_law_787 ?_
  refine v_sald K hX hbl hbb dL_law_788 (by omega) (by omega) ?_
  refine v_aload_n K 0 dL_law_789 rfl rfl ?_
  refine v_iload K dL_law_790 rfl ?_
  refine v_iconst (v := nI 2) K dL_law_792 (by decide) ?_
  refine v_iaddN K dL_law_793 ?_
  refine v_sald K hX hbl hbb dL_law_794 (by omega) (by omega) ?_
  refine cl_L_100 K dL_law_795 fE (c_X5_path l D cA base pic ad nb ns hw cl B w0 g0 no dg _ _ hE hBs hnb hhw hBn hT hO hno5) rfl rfl ⟨by decide, by decide⟩ (Nat.le_of_ble_eq_true rfl) ⟨show _ ≤ 603072 from by omega, show _ ≤ 7207018 from by omega⟩ (fun x795 pic1 hx2 => ?_)
  obtain ⟨rfl, k0, k1, kf⟩ := hx2
  have hCS1 : CS pic1 cA ad nb ns hw d (pathF nb B no dg (xs (i + 1)) (xs (i + 2))).2.1 cl lim use beg cau B O S (pathF nb B no dg (xs (i + 1)) (xs (i + 2))).2.2 := ⟨(kf 0 (by omega)).trans hE, hC.kept (fun q _ _ => kf q (by omega)), hBs.kept (fun q hq => kf q (by omega)), hOb.kept (fun q _ _ => kf q (by omega)), k0, k1, hSs.kept (fun q hq => kf q (by omega)), fun q h1 h2 => (kf q (by omega)).trans (hz1 q h1 h2), fun j h1 h2 => (kf _ (by omega)).trans (hz2 j h1 h2), ⟨og, (kf 12 (by omega)).trans f12⟩⟩
  replace fM := (kf 1000 (by omega)).trans fM
  replace mC := mC.kept (fun q _ _ => kf q (by omega))
  replace mV := mV.kept (fun q _ _ => kf q (by omega))
  replace mB := mB.kept (fun q _ _ => kf q (by omega))
  replace mO := mO.kept (kf _ (by omega))
  replace mS := mS.kept (fun q _ _ => kf q (by omega))
  replace mL := mL.kept (kf _ (by omega))
  refine v_aload_n K 2 dL_law_798 rfl rfl ?_
  refine v_aload_n K 0 dL_law_799 rfl rfl ?_
  refine v_iload K dL_law_800 rfl ?_
  refine v_iconst (v := nI 1) K dL_law_802 (by decide) ?_
  refine v_iaddN K dL_law_803 ?_
  refine v_sald K hX hbl hbb dL_law_804 (by omega) (by omega) ?_
  refine v_aload_n K 0 dL_law_805 rfl rfl ?_
  refine v_iload K dL_law_806 rfl ?_
  refine v_iconst (v := nI 2) K dL_law_808 (by decide) ?_
  refine v_iaddN K dL_law_809 ?_
  refine v_sald K hX hbl hbb dL_law_810 (by omega) (by omega) ?_
  refine cl_L_103 K dL_law_811 fM (c_X6_path l D cA base pic1 ad th cl (nI (bN O)) nb d no ns mac mtp mvl mse msz mpr mro mfi B mlv dg _ _ fM mV mB rB hnb40 mO mL) rfl rfl ⟨by decide, by decide⟩ (Nat.le_of_ble_eq_true rfl) ⟨show _ ≤ 603072 from by omega, show _ ≤ 7207018 from by omega⟩ (fun x811 pic3 hx4 => ?_)
  obtain ⟨rfl, m1, m2, ⟨g2, m3⟩, mf⟩ := hx4
  refine v_icmp_eq K 1166 dL_law_814 (by decide) rfl rfl (fun c814 => ?_) (fun c814 => absurd c814 (by omega))
  refine V.widen (k := cells + 6) (n := slots + 170) (by omega) (by omega) ?_
  refine v_at [(0, .ref bS), (1, .ref (ad 0)), (2, .ref (ad 1000)), (3, .ref (ad 12)), (4, .int (nI i))] (lcons rfl (lcons rfl (lcons rfl (lcons rfl (lcons rfl (lnil)))))) ?_
  exact kx _ ⟨ad, nb, ns, hw, d, (pathF nb B no dg (xs (i + 1)) (xs (i + 2))).2.1, cl, lim, use, beg, cau, B, O, S, (pathF nb B no dg (xs (i + 1)) (xs (i + 2))).2.2, ⟨rfl, rfl, rfl⟩, hCS1.kept hhw hns (fun q hq => mf q (by omega)), ⟨th, mac, mtp, mvl, mse, msz, mpr, mro, mfi, mto, mpb, mpa, g2, m1, mC.kept (fun q _ _ => mf q (by omega)), mV.kept (fun q _ _ => mf q (by omega)), mB.kept (fun q _ _ => mf q (by omega)), m2, mS.kept (fun q _ _ => mf q (by omega)), m3, rB, rE, rS⟩, ⟨hd, hnb, hhw, hns, path_inv hno5, hOn, hOk, hBn, hBg, hSb⟩⟩

set_option maxHeartbeats 4000000 in
set_option maxRecDepth 100000 in
theorem lw_c15 {p : Program} {l : Launch} {e : Env} {s : State} {m : MethodId} {args : Array Value} {below : List Frame} {meth : Method} {c : Code} {Q : State → Prop} {D : va_G} {cA : Nat → ClassId} {base : Nat} {cw : Cond} (KE9 : KE p m c cL_law 8 s args cw RL D cA base) (hl : l.stackTraces = false) {bS L : Nat} {xs : Nat → Int32} (hX : va_X bS L xs s s.heap) (hbl : bS < s.heap.size) (hbb : bS < base) (hL9 : L ≤ 4608) {a0 aM aO : Nat} (i : Nat) (hi : i + 9 ≤ L) {pic : PIC} {cells slots : Nat} (hcc : cells + 6 ≤ 603072) (hss : slots + 170 ≤ 7207018) (hI : LInv pic cA a0 aM aO) (kx : ∀ pic1, LInv pic1 cA a0 aM aO → V p l e room_1 s m args below meth c Q D base 8 pic1 (lvOf [(0, .ref bS), (1, .ref a0), (2, .ref aM), (3, .ref aO), (4, .int (nI i))]) 1166 [] (cells + 6) (slots + 170)) : V p l e room_1 s m args below meth c Q D base 8 pic (lvOf [(0, .ref bS), (1, .ref a0), (2, .ref aM), (3, .ref aO), (4, .int (nI i))]) 819 [] cells slots := by
  have K := KE9.kx
  obtain ⟨ad, nb, ns, hw, d, no, cl, lim, use, beg, cau, B, O, S, dg, ⟨rfl, rfl, rfl⟩, hCS, hMS, hPU⟩ := hI
  have ⟨hE, hC, hBs, hOb, ⟨w0, g0, hT⟩, hO, hSs, hz1, hz2, ⟨og, f12⟩⟩ := hCS
  have ⟨hd, hnb, hhw, hns, hno5, hOn, hOk, hBn, hBg, hSb⟩ := hPU
  obtain ⟨th, mac, mtp, mvl, mse, msz, mpr, mro, mfi, mto, mpb, mpa, mlv, fM, mC, mV, mB, mO, mS, mL, rB, rE, rS⟩ := hMS
  have fE := hE
  unfold EObj at fE
  have hnb40 : nb ≤ 40 := Nat.le_trans hnb hhw
  refine v_aload_n K 1 dL_law_819 rfl rfl ?_
  refine v_aload_n K 0 dL_law_820 rfl rfl ?_
  refine v_iload K dL_law_821 rfl ?_
  refine v_iconst (v := nI 1) K dL_law_823 (by decide) ?_
  refine v_iaddN K dL_law_824 ?_
  refine v_sald K hX hbl hbb dL_law_825 (by omega) (by omega) ?_
  refine v_aload_n K 3 dL_law_826 rfl rfl ?_
  refine v_callSW KE9 (As := [.ref (ad 0), .int (xs (i + 1)), .ref (ad 12)]) gw_448 gw_449 gw_347 gw_450 ⟨by decide, by decide, (by decide +kernel : (parseMethodDescriptor yL_out.desc).map (fun d => d.parameters.length) = some 3)⟩ dL_law_827 (c_L_out l hl D cA base pic ad nb ns cl no dg _ og hE hO hno5 f12) rfl rfl ⟨by decide, by decide⟩ rfl (Nat.le_of_ble_eq_true rfl) ⟨show _ ≤ 603072 from by omega, show _ ≤ 7207018 from by omega⟩ (fun x9 pic9 hx => ?_)
  obtain ⟨rfl, k12, kf⟩ := hx
  have hCS1 : CS pic9 cA ad nb ns hw d no cl lim use beg cau B O S dg := ⟨(kf 0 (by omega)).trans hE, hC.kept (fun q _ _ => kf q (by omega)), hBs.kept (fun q hq => kf q (by omega)), hOb.kept (fun q _ _ => kf q (by omega)), ⟨w0, g0, hT.kept (fun q _ _ => kf q (by omega))⟩, hO.kept (fun q _ _ => kf q (by omega)), hSs.kept (fun q hq => kf q (by omega)), fun q h1 h2 => (kf q (by omega)).trans (hz1 q h1 h2), fun j h1 h2 => (kf _ (by omega)).trans (hz2 j h1 h2), ⟨_, k12⟩⟩
  replace fM := (kf 1000 (by omega)).trans fM
  replace mC := mC.kept (fun q _ _ => kf q (by omega))
  replace mV := mV.kept (fun q _ _ => kf q (by omega))
  replace mB := mB.kept (fun q _ _ => kf q (by omega))
  replace mO := mO.kept (kf _ (by omega))
  replace mS := mS.kept (fun q _ _ => kf q (by omega))
  replace mL := mL.kept (kf _ (by omega))
  refine v_istore K dL_law_830 (by decide) ?_
  refine v_aload_n K 2 dL_law_832 rfl rfl ?_
  refine v_aload_n K 0 dL_law_833 rfl rfl ?_
  refine v_iload K dL_law_834 rfl ?_
  refine v_iconst (v := nI 1) K dL_law_836 (by decide) ?_
  refine v_iaddN K dL_law_837 ?_
  refine v_sald K hX hbl hbb dL_law_838 (by omega) (by omega) ?_
  refine cl_L_106 K dL_law_839 fM (c_X6_out l D cA base pic9 ad th cl (nI (bN O)) nb d no ns dg _ fM mO hno5) rfl rfl ⟨by decide, by decide⟩ (Nat.le_of_ble_eq_true rfl) ⟨show _ ≤ 603072 from by omega, show _ ≤ 7207018 from by omega⟩ (fun x839 pic1 hx2 => ?_)
  obtain ⟨rfl, m1, mf⟩ := hx2
  replace k12 := (mf 12 (by omega)).trans k12
  refine v_lstore K dL_law_842 (by decide) ?_
  refine v_aload_n K 2 dL_law_844 rfl rfl ?_
  refine cl_L_82 K dL_law_845 m1 (c_X6_thrown l D cA base pic1 ad _ cl (nI (bN O)) nb d no ns m1) rfl rfl ⟨by decide, by decide⟩ (Nat.le_of_ble_eq_true rfl) ⟨show _ ≤ 603072 from by omega, show _ ≤ 7207018 from by omega⟩ (fun x845 pic3 hx4 => ?_)
  obtain ⟨rfl, rfl⟩ := hx4
  refine v_iload K dL_law_848 rfl ?_
  refine v_icmp_eq K 855 dL_law_850 (by decide) rfl rfl (fun c850 => ?_) (fun c850 => absurd c850 (by omega))
  refine v_iload K dL_law_855 rfl ?_
  refine v_if_ne K 871 dL_law_857 (by decide) rfl (fun c857 => ?_) (fun c857 => ?_)
  · refine v_goto K 1166 dL_law_871 (by decide) ?_
    refine V.widen (k := cells + 6) (n := slots + 170) (by omega) (by omega) ?_
    refine v_at [(0, .ref bS), (1, .ref (ad 0)), (2, .ref (ad 1000)), (3, .ref (ad 12)), (4, .int (nI i))] (lcons rfl (lcons rfl (lcons rfl (lcons rfl (lcons rfl (lnil)))))) ?_
    exact kx _ ⟨ad, nb, ns, hw, d, no, cl, lim, use, beg, cau, B, O, S, dg, ⟨rfl, rfl, rfl⟩, hCS1.kept hhw hns (fun q hq => mf q (by omega)), ⟨(outF no dg (xs (i + 1))).1, mac, mtp, mvl, mse, msz, mpr, mro, mfi, mto, mpb, mpa, mlv, m1, mC.kept (fun q _ _ => mf q (by omega)), mV.kept (fun q _ _ => mf q (by omega)), mB.kept (fun q _ _ => mf q (by omega)), mO.kept (mf _ (by omega)), mS.kept (fun q _ _ => mf q (by omega)), mL.kept (mf _ (by omega)), rB, rE, rS⟩, hPU⟩
  · refine v_aload_n K 3 dL_law_860 rfl rfl ?_
    refine v_iconst (v := nI 0) K dL_law_861 (by decide) ?_
    refine v_lald K dL_law_862 k12 (by omega) (by decide) ?_
    refine v_top (v := .long (outF no dg (xs (i + 1))).2) (by rw [if_pos (nI_lit (k := 0) (by decide) (by omega)), pk_uLs]) ?_
    refine v_lload K dL_law_863 rfl ?_
    refine v_lcmp K dL_law_865 ?_
    have hlc := lgc0.mpr (rfl : (outF no dg (xs (i + 1))).2 = (outF no dg (xs (i + 1))).2)
    refine v_if_eq K 871 dL_law_866 (by decide) rfl (fun c866 => ?_) (fun c866 => absurd c866 (by omega))
    refine v_goto K 1166 dL_law_871 (by decide) ?_
    refine V.widen (k := cells + 6) (n := slots + 170) (by omega) (by omega) ?_
    refine v_at [(0, .ref bS), (1, .ref (ad 0)), (2, .ref (ad 1000)), (3, .ref (ad 12)), (4, .int (nI i))] (lcons rfl (lcons rfl (lcons rfl (lcons rfl (lcons rfl (lnil)))))) ?_
    exact kx _ ⟨ad, nb, ns, hw, d, no, cl, lim, use, beg, cau, B, O, S, dg, ⟨rfl, rfl, rfl⟩, hCS1.kept hhw hns (fun q hq => mf q (by omega)), ⟨(outF no dg (xs (i + 1))).1, mac, mtp, mvl, mse, msz, mpr, mro, mfi, mto, mpb, mpa, mlv, m1, mC.kept (fun q _ _ => mf q (by omega)), mV.kept (fun q _ _ => mf q (by omega)), mB.kept (fun q _ _ => mf q (by omega)), mO.kept (mf _ (by omega)), mS.kept (fun q _ _ => mf q (by omega)), mL.kept (mf _ (by omega)), rB, rE, rS⟩, hPU⟩

set_option maxHeartbeats 4000000 in
set_option maxRecDepth 100000 in
theorem lw_c16 {p : Program} {l : Launch} {e : Env} {s : State} {m : MethodId} {args : Array Value} {below : List Frame} {meth : Method} {c : Code} {Q : State → Prop} {D : va_G} {cA : Nat → ClassId} {base : Nat} {cw : Cond} (KE9 : KE p m c cL_law 8 s args cw RL D cA base) (hl : l.stackTraces = false) {bS L : Nat} {xs : Nat → Int32} (hX : va_X bS L xs s s.heap) (hbl : bS < s.heap.size) (hbb : bS < base) (hL9 : L ≤ 4608) {a0 aM aO : Nat} (i : Nat) (hi : i + 9 ≤ L) {pic : PIC} {cells slots : Nat} (hcc : cells + 6 ≤ 603072) (hss : slots + 170 ≤ 7207018) (hI : LInv pic cA a0 aM aO) (kx : ∀ pic1, LInv pic1 cA a0 aM aO → V p l e room_1 s m args below meth c Q D base 8 pic1 (lvOf [(0, .ref bS), (1, .ref a0), (2, .ref aM), (3, .ref aO), (4, .int (nI i))]) 1166 [] (cells + 6) (slots + 170)) : V p l e room_1 s m args below meth c Q D base 8 pic (lvOf [(0, .ref bS), (1, .ref a0), (2, .ref aM), (3, .ref aO), (4, .int (nI i))]) 874 [] cells slots := by
  have K := KE9.kx
  obtain ⟨ad, nb, ns, hw, d, no, cl, lim, use, beg, cau, B, O, S, dg, ⟨rfl, rfl, rfl⟩, hCS, hMS, hPU⟩ := hI
  have ⟨hE, hC, hBs, hOb, ⟨w0, g0, hT⟩, hO, hSs, hz1, hz2, ⟨og, f12⟩⟩ := hCS
  have ⟨hd, hnb, hhw, hns, hno5, hOn, hOk, hBn, hBg, hSb⟩ := hPU
  obtain ⟨th, mac, mtp, mvl, mse, msz, mpr, mro, mfi, mto, mpb, mpa, mlv, fM, mC, mV, mB, mO, mS, mL, rB, rE, rS⟩ := hMS
  have fE := hE
  unfold EObj at fE
  have hnb40 : nb ≤ 40 := Nat.le_trans hnb hhw
  refine v_aload_n K 1 dL_law_874 rfl rfl ?_
  refine v_aload_n K 0 dL_law_875 rfl rfl ?_
  refine v_iload K dL_law_876 rfl ?_
  refine v_iconst (v := nI 1) K dL_law_878 (by decide) ?_
  refine v_iaddN K dL_law_879 ?_
  refine v_sald K hX hbl hbb dL_law_880 (by omega) (by omega) ?_
  refine v_i2l K dL_law_881 ?_
  refine v_bipush (v := nI 32) K dL_law_882 (by decide) ?_
  refine v_lshl K dL_law_884 ?_
  refine v_aload_n K 0 dL_law_885 rfl rfl ?_
  refine v_iload K dL_law_886 rfl ?_
  refine v_iconst (v := nI 2) K dL_law_888 (by decide) ?_
  refine v_iaddN K dL_law_889 ?_
  refine v_sald K hX hbl hbb dL_law_890 (by omega) (by omega) ?_
  refine v_i2l K dL_law_891 ?_
  refine v_ldc2 K gw_7 dL_law_892 ?_
  refine v_land K dL_law_895 ?_
  refine v_lor K dL_law_896 ?_
  refine v_top (v := .long (lgV (xs (i + 1)) (xs (i + 2)))) rfl ?_
  refine cl_L_107 K dL_law_897 fE (c_X5_lay l D cA base pic ad nb ns cl no dg (lgV (xs (i + 1)) (xs (i + 2))) hE hO hno5) rfl rfl ⟨by decide, by decide⟩ (Nat.le_of_ble_eq_true rfl) ⟨show _ ≤ 603072 from by omega, show _ ≤ 7207018 from by omega⟩ (fun x897 pic1 hx2 => ?_)
  obtain ⟨rfl, k1, kf⟩ := hx2
  have hCS1 : CS pic1 cA ad nb ns hw d (layF no dg (lgV (xs (i + 1)) (xs (i + 2)))).2.1 cl lim use beg cau B O S (layF no dg (lgV (xs (i + 1)) (xs (i + 2)))).2.2 := ⟨(kf 0 (by omega)).trans hE, hC.kept (fun q _ _ => kf q (by omega)), hBs.kept (fun q hq => kf q (by omega)), hOb.kept (fun q _ _ => kf q (by omega)), ⟨w0, g0, hT.kept (fun q _ _ => kf q (by omega))⟩, k1, hSs.kept (fun q hq => kf q (by omega)), fun q h1 h2 => (kf q (by omega)).trans (hz1 q h1 h2), fun j h1 h2 => (kf _ (by omega)).trans (hz2 j h1 h2), ⟨og, (kf 12 (by omega)).trans f12⟩⟩
  replace fM := (kf 1000 (by omega)).trans fM
  replace mC := mC.kept (fun q _ _ => kf q (by omega))
  replace mV := mV.kept (fun q _ _ => kf q (by omega))
  replace mB := mB.kept (fun q _ _ => kf q (by omega))
  replace mO := mO.kept (kf _ (by omega))
  replace mS := mS.kept (fun q _ _ => kf q (by omega))
  replace mL := mL.kept (kf _ (by omega))
  refine v_aload_n K 2 dL_law_900 rfl rfl ?_
  refine v_aload_n K 0 dL_law_901 rfl rfl ?_
  refine v_iload K dL_law_902 rfl ?_
  refine v_iconst (v := nI 1) K dL_law_904 (by decide) ?_
  refine v_iaddN K dL_law_905 ?_
  refine v_sald K hX hbl hbb dL_law_906 (by omega) (by omega) ?_
  refine v_i2l K dL_law_907 ?_
  refine v_bipush (v := nI 32) K dL_law_908 (by decide) ?_
  refine v_lshl K dL_law_910 ?_
  refine v_aload_n K 0 dL_law_911 rfl rfl ?_
  refine v_iload K dL_law_912 rfl ?_
  refine v_iconst (v := nI 2) K dL_law_914 (by decide) ?_
  refine v_iaddN K dL_law_915 ?_
  refine v_sald K hX hbl hbb dL_law_916 (by omega) (by omega) ?_
  refine v_i2l K dL_law_917 ?_
  refine v_ldc2 K gw_7 dL_law_918 ?_
  refine v_land K dL_law_921 ?_
  refine v_lor K dL_law_922 ?_
  refine v_top (v := .long (lgV (xs (i + 1)) (xs (i + 2)))) rfl ?_
  refine cl_L_111 K dL_law_923 fM (c_X6_lay l D cA base pic1 ad th cl (nI (bN O)) nb d no ns dg (lgV (xs (i + 1)) (xs (i + 2))) fM mO hno5) rfl rfl ⟨by decide, by decide⟩ (Nat.le_of_ble_eq_true rfl) ⟨show _ ≤ 603072 from by omega, show _ ≤ 7207018 from by omega⟩ (fun x923 pic3 hx4 => ?_)
  obtain ⟨rfl, m1, m2, mf⟩ := hx4
  refine v_icmp_eq K 1166 dL_law_926 (by decide) rfl rfl (fun c926 => ?_) (fun c926 => absurd c926 (by omega))
  refine V.widen (k := cells + 6) (n := slots + 170) (by omega) (by omega) ?_
  refine v_at [(0, .ref bS), (1, .ref (ad 0)), (2, .ref (ad 1000)), (3, .ref (ad 12)), (4, .int (nI i))] (lcons rfl (lcons rfl (lcons rfl (lcons rfl (lcons rfl (lnil)))))) ?_
  exact kx _ ⟨ad, nb, ns, hw, d, (layF no dg (lgV (xs (i + 1)) (xs (i + 2)))).2.1, cl, lim, use, beg, cau, B, O, S, (layF no dg (lgV (xs (i + 1)) (xs (i + 2)))).2.2, ⟨rfl, rfl, rfl⟩, hCS1.kept hhw hns (fun q hq => mf q (by omega)), ⟨th, mac, mtp, mvl, mse, msz, mpr, mro, mfi, mto, mpb, mpa, mlv, m1, mC.kept (fun q _ _ => mf q (by omega)), mV.kept (fun q _ _ => mf q (by omega)), mB.kept (fun q _ _ => mf q (by omega)), m2, mS.kept (fun q _ _ => mf q (by omega)), mL.kept (mf _ (by omega)), rB, rE, rS⟩, ⟨hd, hnb, hhw, hns, lay_inv hno5, hOn, hOk, hBn, hBg, hSb⟩⟩

set_option maxHeartbeats 4000000 in
set_option maxRecDepth 100000 in
theorem lw_c17 {p : Program} {l : Launch} {e : Env} {s : State} {m : MethodId} {args : Array Value} {below : List Frame} {meth : Method} {c : Code} {Q : State → Prop} {D : va_G} {cA : Nat → ClassId} {base : Nat} {cw : Cond} (KE9 : KE p m c cL_law 8 s args cw RL D cA base) (hl : l.stackTraces = false) {bS L : Nat} {xs : Nat → Int32} (hX : va_X bS L xs s s.heap) (hbl : bS < s.heap.size) (hbb : bS < base) (hL9 : L ≤ 4608) {a0 aM aO : Nat} (i : Nat) (hi : i + 9 ≤ L) {pic : PIC} {cells slots : Nat} (hcc : cells + 6 ≤ 603072) (hss : slots + 170 ≤ 7207018) (hI : LInv pic cA a0 aM aO) (kx : ∀ pic1, LInv pic1 cA a0 aM aO → V p l e room_1 s m args below meth c Q D base 8 pic1 (lvOf [(0, .ref bS), (1, .ref a0), (2, .ref aM), (3, .ref aO), (4, .int (nI i))]) 1166 [] (cells + 6) (slots + 170)) : V p l e room_1 s m args below meth c Q D base 8 pic (lvOf [(0, .ref bS), (1, .ref a0), (2, .ref aM), (3, .ref aO), (4, .int (nI i))]) 931 [] cells slots := by
  have K := KE9.kx
  obtain ⟨ad, nb, ns, hw, d, no, cl, lim, use, beg, cau, B, O, S, dg, ⟨rfl, rfl, rfl⟩, hCS, hMS, hPU⟩ := hI
  have ⟨hE, hC, hBs, hOb, ⟨w0, g0, hT⟩, hO, hSs, hz1, hz2, ⟨og, f12⟩⟩ := hCS
  have ⟨hd, hnb, hhw, hns, hno5, hOn, hOk, hBn, hBg, hSb⟩ := hPU
  obtain ⟨th, mac, mtp, mvl, mse, msz, mpr, mro, mfi, mto, mpb, mpa, mlv, fM, mC, mV, mB, mO, mS, mL, rB, rE, rS⟩ := hMS
  have fE := hE
  unfold EObj at fE
  have hnb40 : nb ≤ 40 := Nat.le_trans hnb hhw
  refine v_aload_n K 1 dL_law_931 rfl rfl ?_
  refine cl_L_112 K dL_law_932 fE (c_X5_wipe l D cA base pic ad nb ns cl no dg hE hO hno5) rfl rfl ⟨by decide, by decide⟩ (Nat.le_of_ble_eq_true rfl) ⟨show _ ≤ 603072 from by omega, show _ ≤ 7207018 from by omega⟩ (fun x932 pic1 hx2 => ?_)
  obtain ⟨rfl, k1, kf⟩ := hx2
  have hCS1 : CS pic1 cA ad nb ns hw d 0 cl lim use beg cau B O S dg := ⟨(kf 0 (by omega)).trans hE, hC.kept (fun q _ _ => kf q (by omega)), hBs.kept (fun q hq => kf q (by omega)), hOb.kept (fun q _ _ => kf q (by omega)), ⟨w0, g0, hT.kept (fun q _ _ => kf q (by omega))⟩, k1, hSs.kept (fun q hq => kf q (by omega)), fun q h1 h2 => (kf q (by omega)).trans (hz1 q h1 h2), fun j h1 h2 => (kf _ (by omega)).trans (hz2 j h1 h2), ⟨og, (kf 12 (by omega)).trans f12⟩⟩
  replace fM := (kf 1000 (by omega)).trans fM
  replace mC := mC.kept (fun q _ _ => kf q (by omega))
  replace mV := mV.kept (fun q _ _ => kf q (by omega))
  replace mB := mB.kept (fun q _ _ => kf q (by omega))
  replace mO := mO.kept (kf _ (by omega))
  replace mS := mS.kept (fun q _ _ => kf q (by omega))
  replace mL := mL.kept (kf _ (by omega))
  refine v_aload_n K 2 dL_law_935 rfl rfl ?_
  refine cl_L_115 K dL_law_936 fM (c_X6_wipe l D cA base pic1 ad th cl (nI (bN O)) nb d no ns fM) rfl rfl ⟨by decide, by decide⟩ (Nat.le_of_ble_eq_true rfl) ⟨show _ ≤ 603072 from by omega, show _ ≤ 7207018 from by omega⟩ (fun x936 pic3 hx4 => ?_)
  obtain ⟨rfl, m1, mf⟩ := hx4
  refine v_icmp_eq K 1166 dL_law_939 (by decide) rfl rfl (fun c939 => ?_) (fun c939 => absurd c939 (by omega))
  refine V.widen (k := cells + 6) (n := slots + 170) (by omega) (by omega) ?_
  refine v_at [(0, .ref bS), (1, .ref (ad 0)), (2, .ref (ad 1000)), (3, .ref (ad 12)), (4, .int (nI i))] (lcons rfl (lcons rfl (lcons rfl (lcons rfl (lcons rfl (lnil)))))) ?_
  exact kx _ ⟨ad, nb, ns, hw, d, 0, cl, lim, use, beg, cau, B, O, S, dg, ⟨rfl, rfl, rfl⟩, hCS1.kept hhw hns (fun q hq => mf q (by omega)), ⟨th, mac, mtp, mvl, mse, msz, mpr, mro, mfi, mto, mpb, mpa, mlv, m1, mC.kept (fun q _ _ => mf q (by omega)), mV.kept (fun q _ _ => mf q (by omega)), mB.kept (fun q _ _ => mf q (by omega)), mO.kept (mf _ (by omega)), mS.kept (fun q _ _ => mf q (by omega)), mL.kept (mf _ (by omega)), rB, rE, rS⟩, ⟨hd, hnb, hhw, hns, Nat.zero_le 5, hOn, hOk, hBn, hBg, hSb⟩⟩

set_option maxHeartbeats 4000000 in
set_option maxRecDepth 100000 in
theorem lw_c18 {p : Program} {l : Launch} {e : Env} {s : State} {m : MethodId} {args : Array Value} {below : List Frame} {meth : Method} {c : Code} {Q : State → Prop} {D : va_G} {cA : Nat → ClassId} {base : Nat} {cw : Cond} (KE9 : KE p m c cL_law 8 s args cw RL D cA base) (hl : l.stackTraces = false) {bS L : Nat} {xs : Nat → Int32} (hX : va_X bS L xs s s.heap) (hbl : bS < s.heap.size) (hbb : bS < base) (hL9 : L ≤ 4608) {a0 aM aO : Nat} (i : Nat) (hi : i + 9 ≤ L) {pic : PIC} {cells slots : Nat} (hcc : cells + 6 ≤ 603072) (hss : slots + 170 ≤ 7207018) (hI : LInv pic cA a0 aM aO) (kx : ∀ pic1, LInv pic1 cA a0 aM aO → V p l e room_1 s m args below meth c Q D base 8 pic1 (lvOf [(0, .ref bS), (1, .ref a0), (2, .ref aM), (3, .ref aO), (4, .int (nI i))]) 1166 [] (cells + 6) (slots + 170)) : V p l e room_1 s m args below meth c Q D base 8 pic (lvOf [(0, .ref bS), (1, .ref a0), (2, .ref aM), (3, .ref aO), (4, .int (nI i))]) 944 [] cells slots := by
  have K := KE9.kx
  obtain ⟨ad, nb, ns, hw, d, no, cl, lim, use, beg, cau, B, O, S, dg, ⟨rfl, rfl, rfl⟩, hCS, hMS, hPU⟩ := hI
  have ⟨hE, hC, hBs, hOb, ⟨w0, g0, hT⟩, hO, hSs, hz1, hz2, ⟨og, f12⟩⟩ := hCS
  have ⟨hd, hnb, hhw, hns, hno5, hOn, hOk, hBn, hBg, hSb⟩ := hPU
  obtain ⟨th, mac, mtp, mvl, mse, msz, mpr, mro, mfi, mto, mpb, mpa, mlv, fM, mC, mV, mB, mO, mS, mL, rB, rE, rS⟩ := hMS
  have fE := hE
  unfold EObj at fE
  have hnb40 : nb ≤ 40 := Nat.le_trans hnb hhw
  refine v_aload_n K 1 dL_law_944 rfl rfl ?_
  refine v_aload_n K 0 dL_law_945 rfl rfl ?_
  refine v_iload K dL_law_946 rfl ?_
  refine v_iconst (v := nI 1) K dL_law_948 (by decide) ?_
  refine v_iaddN K dL_law_949 ?_
  refine v_sald K hX hbl hbb dL_law_950 (by omega) (by omega) ?_
  refine v_aload_n K 0 dL_law_951 rfl rfl ?_
  refine v_iload K dL_law_952 rfl ?_
  refine v_iconst (v := nI 2) K dL_law_954 (by decide) ?_
  refine v_iaddN K dL_law_955 ?_
  refine v_sald K hX hbl hbb dL_law_956 (by omega) (by omega) ?_
  refine v_aload_n K 0 dL_law_957 rfl rfl ?_
  refine v_iload K dL_law_958 rfl ?_
  refine v_iconst (v := nI 3) K dL_law_960 (by decide) ?_
  refine v_iaddN K dL_law_961 ?_
  refine v_sald K hX hbl hbb dL_law_962 (by omega) (by omega) ?_
  refine v_aload_n K 0 dL_law_963 rfl rfl ?_
  refine v_iload K dL_law_964 rfl ?_
  refine v_iconst (v := nI 4) K dL_law_966 (by decide) ?_
  refine v_iaddN K dL_law_967 ?_
  refine v_sald K hX hbl hbb dL_law_968 (by omega) (by omega) ?_
  refine v_aload_n K 0 dL_law_969 rfl rfl ?_
  refine v_iload K dL_law_970 rfl ?_
  refine v_iconst (v := nI 5) K dL_law_972 (by decide) ?_
  refine v_iaddN K dL_law_973 ?_
  refine v_sald K hX hbl hbb dL_law_974 (by omega) (by omega) ?_
  refine v_aload_n K 0 dL_law_975 rfl rfl ?_
  refine v_iload K dL_law_976 rfl ?_
  refine v_bipush (v := nI 6) K dL_law_978 (by decide) ?_
  refine v_iaddN K dL_law_980 ?_
  refine v_sald K hX hbl hbb dL_law_981 (by omega) (by omega) ?_
  refine v_aload_n K 0 dL_law_982 rfl rfl ?_
  refine v_iload K dL_law_983 rfl ?_
  refine v_bipush (v := nI 7) K dL_law_985 (by decide) ?_
  refine v_iaddN K dL_law_987 ?_
  refine v_sald K hX hbl hbb dL_law_988 (by omega) (by omega) ?_
  refine v_i2l K dL_law_989 ?_
  refine v_bipush (v := nI 32) K dL_law_990 (by decide) ?_
  refine v_lshl K dL_law_992 ?_
  refine v_aload_n K 0 dL_law_993 rfl rfl ?_
  refine v_iload K dL_law_994 rfl ?_
  refine v_bipush (v := nI 8) K dL_law_996 (by decide) ?_
  refine v_iaddN K dL_law_998 ?_
  refine v_sald K hX hbl hbb dL_law_999 (by omega) (by omega) ?_
  refine v_i2l K dL_law_1000 ?_
  refine v_ldc2 K gw_7 dL_law_1001 ?_
  refine v_land K dL_law_1004 ?_
  refine v_lor K dL_law_1005 ?_
  refine cl_L_116 K dL_law_1006 fE (c_X5_proved l D cA base pic ad nb ns hw cl B no dg _ _ _ _ _ _ _ hE hBs hnb hhw hBn hO hno5) rfl rfl ⟨by decide, by decide⟩ (Nat.le_of_ble_eq_true rfl) ⟨show _ ≤ 603072 from by omega, show _ ≤ 7207018 from by omega⟩ (fun x1006 pic1 hx2 => ?_)
  obtain ⟨rfl, rfl⟩ := hx2
  refine v_aload_n K 2 dL_law_1009 rfl rfl ?_
  refine v_aload_n K 0 dL_law_1010 rfl rfl ?_
  refine v_iload K dL_law_1011 rfl ?_
  refine v_iconst (v := nI 1) K dL_law_1013 (by decide) ?_
  refine v_iaddN K dL_law_1014 ?_
  refine v_sald K hX hbl hbb dL_law_1015 (by omega) (by omega) ?_
  refine v_aload_n K 0 dL_law_1016 rfl rfl ?_
  refine v_iload K dL_law_1017 rfl ?_
  refine v_iconst (v := nI 2) K dL_law_1019 (by decide) ?_
  refine v_iaddN K dL_law_1020 ?_
  refine v_sald K hX hbl hbb dL_law_1021 (by omega) (by omega) ?_
  refine v_aload_n K 0 dL_law_1022 rfl rfl ?_
  refine v_iload K dL_law_1023 rfl ?_
  refine v_iconst (v := nI 3) K dL_law_1025 (by decide) ?_
  refine v_iaddN K dL_law_1026 ?_
  refine v_sald K hX hbl hbb dL_law_1027 (by omega) (by omega) ?_
  refine v_aload_n K 0 dL_law_1028 rfl rfl ?_
  refine v_iload K dL_law_1029 rfl ?_
  refine v_iconst (v := nI 4) K dL_law_1031 (by decide) ?_
  refine v_iaddN K dL_law_1032 ?_
  refine v_sald K hX hbl hbb dL_law_1033 (by omega) (by omega) ?_
  refine v_aload_n K 0 dL_law_1034 rfl rfl ?_
  refine v_iload K dL_law_1035 rfl ?_
  refine v_iconst (v := nI 5) K dL_law_1037 (by decide) ?_
  refine v_iaddN K dL_law_1038 ?_
  refine v_sald K hX hbl hbb dL_law_1039 (by omega) (by omega) ?_
  refine v_aload_n K 0 dL_law_1040 rfl rfl ?_
  refine v_iload K dL_law_1041 rfl ?_
  refine v_bipush (v := nI 6) K dL_law_1043 (by decide) ?_
  refine v_iaddN K dL_law_1045 ?_
  refine v_sald K hX hbl hbb dL_law_1046 (by omega) (by omega) ?_
  refine v_aload_n K 0 dL_law_1047 rfl rfl ?_
  refine v_iload K dL_law_1048 rfl ?_
  refine v_bipush (v := nI 7) K dL_law_1050 (by decide) ?_
  refine v_iaddN K dL_law_1052 ?_
  refine v_sald K hX hbl hbb dL_law_1053 (by omega) (by omega) ?_
  refine v_i2l K dL_law_1054 ?_
  refine v_bipush (v := nI 32) K dL_law_1055 (by decide) ?_
  refine v_lshl K dL_law_1057 ?_
  refine v_aload_n K 0 dL_law_1058 rfl rfl ?_
  refine v_iload K dL_law_1059 rfl ?_
  refine v_bipush (v := nI 8) K dL_law_1061 (by decide) ?_
  refine v_iaddN K dL_law_1063 ?_
  refine v_sald K hX hbl hbb dL_law_1064 (by omega) (by omega) ?_
  refine v_i2l K dL_law_1065 ?_
  refine v_ldc2 K gw_7 dL_law_1066 ?_
  refine v_land K dL_law_1069 ?_
  refine v_lor K dL_law_1070 ?_
  refine cl_L_120 K dL_law_1071 fM (c_X6_proved l D cA base pic ad th cl (nI (bN O)) nb d no ns mac mtp mvl mse msz mpr mro mfi B dg _ _ _ _ _ _ _ fM mV mB rB hnb40 mO hno5) rfl rfl ⟨by decide, by decide⟩ (Nat.le_of_ble_eq_true rfl) ⟨show _ ≤ 603072 from by omega, show _ ≤ 7207018 from by omega⟩ (fun x1071 pic3 hx4 => ?_)
  obtain ⟨rfl, rfl⟩ := hx4
  refine v_icmp_eq K 1166 dL_law_1074 (by decide) rfl rfl (fun c1074 => ?_) (fun c1074 => absurd c1074 (by omega))
  refine V.widen (k := cells + 6) (n := slots + 170) (by omega) (by omega) ?_
  refine v_at [(0, .ref bS), (1, .ref (ad 0)), (2, .ref (ad 1000)), (3, .ref (ad 12)), (4, .int (nI i))] (lcons rfl (lcons rfl (lcons rfl (lcons rfl (lcons rfl (lnil)))))) ?_
  exact kx _ ⟨ad, nb, ns, hw, d, no, cl, lim, use, beg, cau, B, O, S, dg, ⟨rfl, rfl, rfl⟩, hCS, ⟨th, mac, mtp, mvl, mse, msz, mpr, mro, mfi, mto, mpb, mpa, mlv, fM, mC, mV, mB, mO, mS, mL, rB, rE, rS⟩, hPU⟩

