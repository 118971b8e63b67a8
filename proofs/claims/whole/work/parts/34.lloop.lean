theorem tsw22 (x : Int32) : (x.toInt < 0 ∨ 21 < x.toInt) ∨ x = nI 0 ∨ x = nI 1 ∨ x = nI 2 ∨ x = nI 3 ∨ x = nI 4 ∨ x = nI 5 ∨ x = nI 6 ∨ x = nI 7 ∨ x = nI 8 ∨ x = nI 9 ∨ x = nI 10 ∨ x = nI 11 ∨ x = nI 12 ∨ x = nI 13 ∨ x = nI 14 ∨ x = nI 15 ∨ x = nI 16 ∨ x = nI 17 ∨ x = nI 18 ∨ x = nI 19 ∨ x = nI 20 ∨ x = nI 21 := by
  rcases (show (x.toInt < 0 ∨ 21 < x.toInt) ∨ x.toInt = 0 ∨ x.toInt = 1 ∨ x.toInt = 2 ∨ x.toInt = 3 ∨ x.toInt = 4 ∨ x.toInt = 5 ∨ x.toInt = 6 ∨ x.toInt = 7 ∨ x.toInt = 8 ∨ x.toInt = 9 ∨ x.toInt = 10 ∨ x.toInt = 11 ∨ x.toInt = 12 ∨ x.toInt = 13 ∨ x.toInt = 14 ∨ x.toInt = 15 ∨ x.toInt = 16 ∨ x.toInt = 17 ∨ x.toInt = 18 ∨ x.toInt = 19 ∨ x.toInt = 20 ∨ x.toInt = 21 by omega) with h | h | h | h | h | h | h | h | h | h | h | h | h | h | h | h | h | h | h | h | h | h | h
  · exact Or.inl h
  · exact Or.inr (Or.inl (nI_lit (by decide) h))
  · exact Or.inr (Or.inr (Or.inl (nI_lit (by decide) h)))
  · exact Or.inr (Or.inr (Or.inr (Or.inl (nI_lit (by decide) h))))
  · exact Or.inr (Or.inr (Or.inr (Or.inr (Or.inl (nI_lit (by decide) h)))))
  · exact Or.inr (Or.inr (Or.inr (Or.inr (Or.inr (Or.inl (nI_lit (by decide) h))))))
  · exact Or.inr (Or.inr (Or.inr (Or.inr (Or.inr (Or.inr (Or.inl (nI_lit (by decide) h)))))))
  · exact Or.inr (Or.inr (Or.inr (Or.inr (Or.inr (Or.inr (Or.inr (Or.inl (nI_lit (by decide) h))))))))
  · exact Or.inr (Or.inr (Or.inr (Or.inr (Or.inr (Or.inr (Or.inr (Or.inr (Or.inl (nI_lit (by decide) h)))))))))
  · exact Or.inr (Or.inr (Or.inr (Or.inr (Or.inr (Or.inr (Or.inr (Or.inr (Or.inr (Or.inl (nI_lit (by decide) h))))))))))
  · exact Or.inr (Or.inr (Or.inr (Or.inr (Or.inr (Or.inr (Or.inr (Or.inr (Or.inr (Or.inr (Or.inl (nI_lit (by decide) h)))))))))))
  · exact Or.inr (Or.inr (Or.inr (Or.inr (Or.inr (Or.inr (Or.inr (Or.inr (Or.inr (Or.inr (Or.inr (Or.inl (nI_lit (by decide) h))))))))))))
  · exact Or.inr (Or.inr (Or.inr (Or.inr (Or.inr (Or.inr (Or.inr (Or.inr (Or.inr (Or.inr (Or.inr (Or.inr (Or.inl (nI_lit (by decide) h)))))))))))))
  · exact Or.inr (Or.inr (Or.inr (Or.inr (Or.inr (Or.inr (Or.inr (Or.inr (Or.inr (Or.inr (Or.inr (Or.inr (Or.inr (Or.inl (nI_lit (by decide) h))))))))))))))
  · exact Or.inr (Or.inr (Or.inr (Or.inr (Or.inr (Or.inr (Or.inr (Or.inr (Or.inr (Or.inr (Or.inr (Or.inr (Or.inr (Or.inr (Or.inl (nI_lit (by decide) h)))))))))))))))
  · exact Or.inr (Or.inr (Or.inr (Or.inr (Or.inr (Or.inr (Or.inr (Or.inr (Or.inr (Or.inr (Or.inr (Or.inr (Or.inr (Or.inr (Or.inr (Or.inl (nI_lit (by decide) h))))))))))))))))
  · exact Or.inr (Or.inr (Or.inr (Or.inr (Or.inr (Or.inr (Or.inr (Or.inr (Or.inr (Or.inr (Or.inr (Or.inr (Or.inr (Or.inr (Or.inr (Or.inr (Or.inl (nI_lit (by decide) h)))))))))))))))))
  · exact Or.inr (Or.inr (Or.inr (Or.inr (Or.inr (Or.inr (Or.inr (Or.inr (Or.inr (Or.inr (Or.inr (Or.inr (Or.inr (Or.inr (Or.inr (Or.inr (Or.inr (Or.inl (nI_lit (by decide) h))))))))))))))))))
  · exact Or.inr (Or.inr (Or.inr (Or.inr (Or.inr (Or.inr (Or.inr (Or.inr (Or.inr (Or.inr (Or.inr (Or.inr (Or.inr (Or.inr (Or.inr (Or.inr (Or.inr (Or.inr (Or.inl (nI_lit (by decide) h)))))))))))))))))))
  · exact Or.inr (Or.inr (Or.inr (Or.inr (Or.inr (Or.inr (Or.inr (Or.inr (Or.inr (Or.inr (Or.inr (Or.inr (Or.inr (Or.inr (Or.inr (Or.inr (Or.inr (Or.inr (Or.inr (Or.inl (nI_lit (by decide) h))))))))))))))))))))
  · exact Or.inr (Or.inr (Or.inr (Or.inr (Or.inr (Or.inr (Or.inr (Or.inr (Or.inr (Or.inr (Or.inr (Or.inr (Or.inr (Or.inr (Or.inr (Or.inr (Or.inr (Or.inr (Or.inr (Or.inr (Or.inl (nI_lit (by decide) h)))))))))))))))))))))
  · exact Or.inr (Or.inr (Or.inr (Or.inr (Or.inr (Or.inr (Or.inr (Or.inr (Or.inr (Or.inr (Or.inr (Or.inr (Or.inr (Or.inr (Or.inr (Or.inr (Or.inr (Or.inr (Or.inr (Or.inr (Or.inr (Or.inl (nI_lit (by decide) h))))))))))))))))))))))
  · exact Or.inr (Or.inr (Or.inr (Or.inr (Or.inr (Or.inr (Or.inr (Or.inr (Or.inr (Or.inr (Or.inr (Or.inr (Or.inr (Or.inr (Or.inr (Or.inr (Or.inr (Or.inr (Or.inr (Or.inr (Or.inr (Or.inr (nI_lit (by decide) h))))))))))))))))))))))

set_option maxHeartbeats 4000000 in
set_option maxRecDepth 100000 in
theorem lw_loop {p : Program} {l : Launch} {e : Env} {s : State} {m : MethodId} {args : Array Value} {below : List Frame} {meth : Method} {c : Code} {Q : State → Prop} {D : va_G} {cA : Nat → ClassId} {base : Nat} {cw : Cond} (KE9 : KE p m c cL_law 8 s args cw RL D cA base) (hl : l.stackTraces = false) {bS L : Nat} {xs : Nat → Int32} (hX : va_X bS L xs s s.heap) (hbl : bS < s.heap.size) (hbb : bS < base) (hL9 : L ≤ 4608) {a0 aM aO : Nat} (kr : ∀ (pic : PIC) (lv : LV) (c1 s1 : Nat), c1 ≤ 603072 → s1 ≤ 7207018 → V p l e room_1 s m args below meth c Q D base 8 pic lv 1173 [.int (nI 1)] c1 s1) : ∀ (g k : Nat) (pic : PIC), L - 9 * k < g → 9 * k ≤ L → LInv pic cA a0 aM aO → V p l e room_1 s m args below meth c Q D base 8 pic (lvOf [(0, .ref bS), (1, .ref a0), (2, .ref aM), (3, .ref aO), (4, .int (nI (9 * (k))))]) 23 [] (38 + 6 * (k)) (8459 + 170 * (k)) := by
  have K := KE9.kx
  intro g
  induction g with
  | zero => intro k pic h; omega
  | succ g ih =>
    intro k pic hg hk hI
    have hk5 : k ≤ 512 := by omega
    refine v_iload K dL_law_23 rfl ?_
    refine v_aload_n K 0 dL_law_25 rfl rfl ?_
    refine v_slen K hX hbl hbb dL_law_26 ?_
    refine v_bipush (v := nI 9) K dL_law_27 (by decide) ?_
    refine v_isub K dL_law_29 ?_
    refine v_icmp_gt K 1172 dL_law_30 (by decide) (nI_toInt (by omega)) (pk_sub_toInt (by omega) (by omega)) (fun c30 => ?_) (fun c30 => ?_)
    · refine v_iconst (v := nI 1) K dL_law_1172 (by decide) ?_
      exact kr _ _ _ _ (by omega) (by omega)
    · have hi9 : 9 * k + 9 ≤ L := by omega
      have hnext : ∀ pic1, LInv pic1 cA a0 aM aO → V p l e room_1 s m args below meth c Q D base 8 pic1 (lvOf [(0, .ref bS), (1, .ref a0), (2, .ref aM), (3, .ref aO), (4, .int (nI (9 * k)))]) 1166 [] (38 + 6 * k + 6) (8459 + 170 * k + 170) := by
        intro pic1 hI1
        refine v_iincN K 9 dL_law_1166 rfl (by decide) (by decide) ?_
        refine v_goto K 23 dL_law_1169 (by decide) ?_
        refine V.widen (k := 38 + 6 * (k + 1)) (n := 8459 + 170 * (k + 1)) (by omega) (by omega) ?_
        refine v_at [(0, .ref bS), (1, .ref a0), (2, .ref aM), (3, .ref aO), (4, .int (nI (9 * (k + 1))))] (lcons rfl (lcons rfl (lcons rfl (lcons rfl (lcons rfl (lnil)))))) ?_
        exact ih (k + 1) pic1 (by omega) (by omega) hI1
      refine v_aload_n K 0 dL_law_33 rfl rfl ?_
      refine v_iload K dL_law_34 rfl ?_
      refine v_sald K hX hbl hbb dL_law_36 (by omega) (by omega) ?_
      refine v_bipush (v := nI 31) K dL_law_37 (by decide) ?_
      refine v_iand K dL_law_39 ?_
      generalize (xs (9 * k) &&& nI 31) = w9
      rcases tsw22 w9 with hw9 | rfl | rfl | rfl | rfl | rfl | rfl | rfl | rfl | rfl | rfl | rfl | rfl | rfl | rfl | rfl | rfl | rfl | rfl | rfl | rfl | rfl | rfl
      · refine v_tableOut K 1166 dL_law_40 rfl (by omega) (by decide) ?_
        refine V.widen (k := 38 + 6 * k + 6) (n := 8459 + 170 * k + 170) (by omega) (by omega) ?_
        exact hnext pic hI
      · refine v_tableIn K 144 dL_law_40 (nI_toInt (n := 0) (by decide)) (by decide) (by decide) rfl (by decide) ?_
        exact lw_c0 KE9 hl hX hbl hbb hL9 (9 * k) hi9 (by omega) (by omega) hI hnext
      · refine v_tableIn K 197 dL_law_40 (nI_toInt (n := 1) (by decide)) (by decide) (by decide) rfl (by decide) ?_
        exact lw_c1 KE9 hl hX hbl hbb hL9 (9 * k) hi9 (by omega) (by omega) hI hnext
      · refine v_tableIn K 304 dL_law_40 (nI_toInt (n := 2) (by decide)) (by decide) (by decide) rfl (by decide) ?_
        exact lw_c2 KE9 hl hX hbl hbb hL9 (9 * k) hi9 (by omega) (by omega) hI hnext
      · refine v_tableIn K 345 dL_law_40 (nI_toInt (n := 3) (by decide)) (by decide) (by decide) rfl (by decide) ?_
        exact lw_c3 KE9 hl hX hbl hbb hL9 (9 * k) hi9 (by omega) (by omega) hI hnext
      · refine v_tableIn K 370 dL_law_40 (nI_toInt (n := 4) (by decide)) (by decide) (by decide) rfl (by decide) ?_
        exact lw_c4 KE9 hl hX hbl hbb hL9 (9 * k) hi9 (by omega) (by omega) hI hnext
      · refine v_tableIn K 383 dL_law_40 (nI_toInt (n := 5) (by decide)) (by decide) (by decide) rfl (by decide) ?_
        exact lw_c5 KE9 hl hX hbl hbb hL9 (9 * k) hi9 (by omega) (by omega) hI hnext
      · refine v_tableIn K 408 dL_law_40 (nI_toInt (n := 6) (by decide)) (by decide) (by decide) rfl (by decide) ?_
        exact lw_c6 KE9 hl hX hbl hbb hL9 (9 * k) hi9 (by omega) (by omega) hI hnext
      · refine v_tableIn K 433 dL_law_40 (nI_toInt (n := 7) (by decide)) (by decide) (by decide) rfl (by decide) ?_
        exact lw_c7 KE9 hl hX hbl hbb hL9 (9 * k) hi9 (by omega) (by omega) hI hnext
      · refine v_tableIn K 470 dL_law_40 (nI_toInt (n := 8) (by decide)) (by decide) (by decide) rfl (by decide) ?_
        exact lw_c8 KE9 hl hX hbl hbb hL9 (9 * k) hi9 (by omega) (by omega) hI hnext
      · refine v_tableIn K 519 dL_law_40 (nI_toInt (n := 9) (by decide)) (by decide) (by decide) rfl (by decide) ?_
        exact lw_c9 KE9 hl hX hbl hbb hL9 (9 * k) hi9 (by omega) (by omega) hI hnext
      · refine v_tableIn K 586 dL_law_40 (nI_toInt (n := 10) (by decide)) (by decide) (by decide) rfl (by decide) ?_
        exact lw_c10 KE9 hl hX hbl hbb hL9 (9 * k) hi9 (by omega) (by omega) hI hnext
      · refine v_tableIn K 641 dL_law_40 (nI_toInt (n := 11) (by decide)) (by decide) (by decide) rfl (by decide) ?_
        exact lw_c11 KE9 hl hX hbl hbb hL9 (9 * k) hi9 (by omega) (by omega) hI hnext
      · refine v_tableIn K 696 dL_law_40 (nI_toInt (n := 12) (by decide)) (by decide) (by decide) rfl (by decide) ?_
        exact lw_c12 KE9 hl hX hbl hbb hL9 (9 * k) hi9 (by omega) (by omega) hI hnext
      · refine v_tableIn K 733 dL_law_40 (nI_toInt (n := 13) (by decide)) (by decide) (by decide) rfl (by decide) ?_
        exact lw_c13 KE9 hl hX hbl hbb hL9 (9 * k) hi9 (by omega) (by omega) hI hnext
      · refine v_tableIn K 782 dL_law_40 (nI_toInt (n := 14) (by decide)) (by decide) (by decide) rfl (by decide) ?_
        exact lw_c14 KE9 hl hX hbl hbb hL9 (9 * k) hi9 (by omega) (by omega) hI hnext
      · refine v_tableIn K 819 dL_law_40 (nI_toInt (n := 15) (by decide)) (by decide) (by decide) rfl (by decide) ?_
        exact lw_c15 KE9 hl hX hbl hbb hL9 (9 * k) hi9 (by omega) (by omega) hI hnext
      · refine v_tableIn K 874 dL_law_40 (nI_toInt (n := 16) (by decide)) (by decide) (by decide) rfl (by decide) ?_
        exact lw_c16 KE9 hl hX hbl hbb hL9 (9 * k) hi9 (by omega) (by omega) hI hnext
      · refine v_tableIn K 931 dL_law_40 (nI_toInt (n := 17) (by decide)) (by decide) (by decide) rfl (by decide) ?_
        exact lw_c17 KE9 hl hX hbl hbb hL9 (9 * k) hi9 (by omega) (by omega) hI hnext
      · refine v_tableIn K 944 dL_law_40 (nI_toInt (n := 18) (by decide)) (by decide) (by decide) rfl (by decide) ?_
        exact lw_c18 KE9 hl hX hbl hbb hL9 (9 * k) hi9 (by omega) (by omega) hI hnext
      · refine v_tableIn K 1079 dL_law_40 (nI_toInt (n := 19) (by decide)) (by decide) (by decide) rfl (by decide) ?_
        exact lw_c19 KE9 hl hX hbl hbb hL9 (9 * k) hi9 (by omega) (by omega) hI hnext
      · refine v_tableIn K 1116 dL_law_40 (nI_toInt (n := 20) (by decide)) (by decide) (by decide) rfl (by decide) ?_
        exact lw_c20 KE9 hl hX hbl hbb hL9 (9 * k) hi9 (by omega) (by omega) hI hnext
      · refine v_tableIn K 1141 dL_law_40 (nI_toInt (n := 21) (by decide)) (by decide) (by decide) rfl (by decide) ?_
        exact lw_c21 KE9 hl hX hbl hbb hL9 (9 * k) hi9 (by omega) (by omega) hI hnext

set_option maxHeartbeats 4000000 in
set_option maxRecDepth 100000 in
theorem lw_begin {p : Program} {l : Launch} {e : Env} {s : State} {m : MethodId} {args : Array Value} {below : List Frame} {meth : Method} {c : Code} {Q : State → Prop} {D : va_G} {cA : Nat → ClassId} {base : Nat} {cw : Cond} (K : KX p m c cL_law 8 s args cw RL D cA) {bS : Nat} (kx : ∀ (pic1 : PIC) (a0 aM aO : Nat), LInv pic1 cA a0 aM aO → V p l e room_1 s m args below meth c Q D base 8 pic1 (lvOf [(0, .ref bS), (1, .ref a0), (2, .ref aM), (3, .ref aO), (4, .int (nI (9 * 0)))]) 23 [] 38 8459) : V p l e room_1 s m args below meth c Q D base 8 (fun _ => none) (lvOf [(0, .ref bS)]) 0 [] 0 0 := by
  refine nw_X5 K 0 gw_0 dL_law_0 rfl (by decide) (by decide) (fun a0 pic1 f1 fr1 => ?_)
  refine v_dup K dL_law_3 rfl ?_
  refine cl_L_27 K dL_law_4 (c_X5_init l D cA base pic1 a0 f1 (fun q h1 h2 => fr1 q (by omega))) rfl rfl ⟨by decide, by decide⟩ (Nat.le_of_ble_eq_true rfl) ⟨by decide, by decide⟩ (fun pic2 hx2 => ?_)
  obtain ⟨ad, rfl, u1, u2, u3, ⟨w5, g5, u4⟩, u5, u6, u7, u8, fr2⟩ := hx2
  refine v_astore_n K 1 dL_law_7 rfl (by decide) ?_
  refine nw_X6 K 1000 gw_3 dL_law_8 ((fr2 1000 (by omega)).trans (fr1 1000 (by omega))) (by decide) (by decide) (fun aM pic3 f3 fr3 => ?_)
  refine v_dup K dL_law_11 rfl ?_
  refine cl_L_30 K dL_law_12 (c_X6_init l D cA base pic3 aM f3 (fun q h1 h2 => (fr3 q (by omega)).trans ((fr2 q (by omega)).trans (fr1 q (by omega))))) rfl rfl ⟨by decide, by decide⟩ (Nat.le_of_ble_eq_true rfl) ⟨by decide, by decide⟩ (fun pic4 hx4 => ?_)
  obtain ⟨am, rfl, m1, m2, m3, m4, m5, m6, m7, fr4⟩ := hx4
  refine v_astore_n K 2 dL_law_15 rfl (by decide) ?_
  refine v_iconst (v := nI 1) K dL_law_16 (by decide) ?_
  refine v_newL K 12 gw_6 dL_law_17 ((fr4 12 (by omega)).trans ((fr3 12 (by omega)).trans ((fr2 12 (by omega)).trans (fr1 12 (by omega))))) (by decide) (by decide) (by decide) (fun aO pic5 f5 fr5 => ?_)
  refine v_astore_n K 3 dL_law_19 rfl (by decide) ?_
  refine v_iconst (v := nI 0) K dL_law_20 (by decide) ?_
  refine v_istore K dL_law_21 (by decide) ?_
  have FA : ∀ q, q < 340 → q ≠ 12 → pic5 q = pic2 q := fun q h1 h2 => (fr5 q h2).trans ((fr4 q (by omega)).trans (fr3 q (by omega)))
  have had : ∀ r, r < 340 → r ≠ 12 → (fun r => if r = 12 then aO else if r < 340 then ad r else am r) r = ad r := fun r h1 h2 => by show (if r = 12 then aO else if r < 340 then ad r else am r) = ad r; rw [if_neg h2, if_pos h1]
  have ham : ∀ r, 340 ≤ r → (fun r => if r = 12 then aO else if r < 340 then ad r else am r) r = am r := fun r h1 => by show (if r = 12 then aO else if r < 340 then ad r else am r) = am r; rw [if_neg (by omega), if_neg (by omega)]
  have ha12 : (fun r => if r = 12 then aO else if r < 340 then ad r else am r) 12 = aO := if_pos rfl
  generalize (fun r => if r = 12 then aO else if r < 340 then ad r else am r) = adF at had ham ha12
  refine V.widen (k := 38) (n := 8459) (by decide) (by decide) ?_
  refine v_at [(0, .ref bS), (1, .ref (ad 0)), (2, .ref (am 1000)), (3, .ref aO), (4, .int (nI (9 * 0)))] (lcons rfl (lcons rfl (lcons rfl (lcons rfl (lcons rfl (lnil)))))) ?_
  refine kx pic5 (ad 0) (am 1000) aO ⟨adF, 0, 0, 0, 0, 0, 0, (fun _ => 0), (fun _ => 0), (fun _ => 0), (fun _ => 0), (fun _ => (0, 1, 0, 0, 0, (fun _ => 0), (fun _ => 0), (fun _ => 0), (fun _ => 0), (fun _ => 0))), (0, 1, 0, 0, 0, (fun _ => 0), (fun _ => 0), (fun _ => 0), (fun _ => 0), (fun _ => 0)), (fun _ => (0, 0, 0)), (fun _ => 0), ⟨had 0 (by omega) (by omega), ham 1000 (by omega), ha12⟩, ?_, ?_, ?_⟩
  · refine ⟨?_, CallsA.atA (u2.kept (fun q _ _ => FA q (by omega) (by omega))) (fun r hr => had r (by omega) (by omega)), (u3.kept (fun q hq => FA q (by omega) (by omega))).atA (fun r hr => had r (by omega) (by omega)), (u7.kept (fun q _ _ => FA q (by omega) (by omega))).atA (fun r h1 h2 => had r (by omega) (by omega)), ⟨w5, g5, ?_⟩, ?_, (u6.kept (fun q hq => FA q (by omega) (by omega))).atA (fun r hr => had r (by omega) (by omega)), fun q h1 h2 => (FA q (by omega) (by omega)).trans (u8 q (by omega) h2), fun j h1 h2 => (FA _ (by omega) (by omega)).trans ((fr2 _ (by omega)).trans (fr1 _ (by omega))), ⟨_, by rw [ha12]; exact f5⟩⟩
    · unfold EObj at u1 ⊢
      rw [had 0 (by omega) (by omega), had 1 (by omega) (by omega), had 6 (by omega) (by omega), had 7 (by omega) (by omega), had 9 (by omega) (by omega), had 11 (by omega) (by omega), had 94 (by omega) (by omega)]
      exact (FA 0 (by omega) (by omega)).trans u1
    · rw [had 7 (by omega) (by omega), had 8 (by omega) (by omega)]
      exact u4.kept (fun q _ _ => FA q (by omega) (by omega))
    · rw [had 9 (by omega) (by omega), had 10 (by omega) (by omega)]
      exact u5.kept (fun q _ _ => FA q (by omega) (by omega))
  · refine MS.moved (ad := am) ?_ ham
    exact ⟨0, _, _, _, _, _, _, _, _, _, _, _, _, (fr5 _ (by omega)).trans m1, m2.kept (fun q _ _ => fr5 q (by omega)), m3.kept (fun q _ _ => fr5 q (by omega)), m4.kept (fun q _ _ => fr5 q (by omega)), m5.kept (fr5 _ (by omega)), m6.kept (fun q _ _ => fr5 q (by omega)), m7.kept (fr5 _ (by omega)), fun j hj => absurd hj (Nat.not_lt_zero j), fun j hj => absurd hj (Nat.not_lt_zero j), fun j hj => absurd hj (Nat.not_lt_zero j)⟩
  · exact ⟨Nat.zero_le _, Nat.le_refl 0, Nat.zero_le _, Nat.zero_le _, Nat.zero_le _, Nat.zero_le _, rfl, fun j hj => absurd hj (Nat.not_lt_zero j), ⟨fun _ => 0, fun j hj => absurd hj (Nat.not_lt_zero j), fun j q h1 h2 => absurd h2 (Nat.not_lt_zero q), fun j hj => absurd hj (Nat.not_lt_zero j)⟩, fun j hj => absurd hj (Nat.not_lt_zero j)⟩

