theorem wF_stay {n k : Nat} (h : wF n k ≤ 1) : ∀ j, wF n (k + j) ≤ 1
  | 0 => h
  | j + 1 => by have := wF_stay h j; show (wF n (k + j) + 1) / 2 ≤ 1; omega
theorem bes_stop {n i k : Nat} (hi : i < n) (h : wF n k ≤ 1) : ¬ besF (nF i k) < wF n k := by
  have h1 := nF_lt hi k
  rw [show nF i k = 0 from by omega]
  show ¬ besF 0 < wF n k
  rw [show besF 0 = 1 from rfl]
  omega
theorem pdF_stop {f dg : Nat → Int64} {n i k : Nat} (hi : i < n) (h : wF n k ≤ 1) : ∀ j, pdF f n i dg (k + j) = pdF f n i dg k
  | 0 => rfl
  | j + 1 => by
    show pdF f n i dg ((k + j) + 1) = _
    rw [pdF, if_neg (bes_stop hi (wF_stay h j))]
    exact pdF_stop hi h j
theorem ldF_skip {dg : Nat → Int64} {no n i k t : Nat} {lf d : Int64} (h : ldF dg no lf n i k = some (d, t)) (hb : ¬ besF (nF i k) < wF n k) : ldF dg no lf n i (k + 1) = some (d, t) := by rw [ldF, h]; exact if_neg hb
theorem ldF_take {dg : Nat → Int64} {no n i k t : Nat} {lf d : Int64} (h : ldF dg no lf n i k = some (d, t)) (hb : besF (nF i k) < wF n k) (ht : t < no) : ldF dg no lf n i (k + 1) = some (mixS (nF i k) d (dg t), t + 1) := by rw [ldF, h]; exact (if_pos hb).trans (if_pos ht)
theorem ldF_stop {dg : Nat → Int64} {no n i k t : Nat} {lf d : Int64} (hi : i < n) (hw : wF n k ≤ 1) (h : ldF dg no lf n i k = some (d, t)) : ∀ j, ldF dg no lf n i (k + j) = some (d, t)
  | 0 => h
  | j + 1 => ldF_skip (k := k + j) (ldF_stop hi hw h j) (bes_stop hi (wF_stay hw j))
theorem lvF_stop {f : Nat → Int64} {n k : Nat} (h : wF n k ≤ 1) : ∀ j, lvF f n (k + j) 0 = lvF f n k 0
  | 0 => rfl
  | j + 1 => by
    have h1 := wF_stay h j
    show riseF (lvF f n (k + j)) (wF n (k + j)) 0 = _
    rw [riseF, if_neg (by omega)]
    exact lvF_stop h j
theorem RelE.leaf {o n : Nat} {E : Evs} {fs : Int32} {mac mtp : Nat → Int32} {mvl : Nat → Int64} {mse : Nat → Int32} (h : RelE o n E fs mac mtp mvl mse) : ∀ i, i < n → leafF (mac (o + i)) (mtp (3 * (o + i))) (mtp (3 * (o + i) + 1)) (mtp (3 * (o + i) + 2)) (mvl (o + i)) (nI i) = lfE E i := by
  intro i hi
  obtain ⟨⟨q1, q2, q3, q4, q5, q6⟩, q7⟩ := h i hi
  rw [q1, q2, q3, q4, q5]
  rfl
theorem RelE.tops {o n : Nat} {E : Evs} {fs : Int32} {mac mtp : Nat → Int32} {mvl : Nat → Int64} {mse : Nat → Int32} (h : RelE o n E fs mac mtp mvl mse) : ∀ i, i < n → -1 ≤ (mtp (3 * (o + i) + 1)).toInt ∧ -1 ≤ (mtp (3 * (o + i) + 2)).toInt := by
  intro i hi
  obtain ⟨⟨q1, q2, q3, q4, q5, q6⟩, q7, q8, q9, q10⟩ := h i hi
  rw [q3, q4]
  exact ⟨q8.1, q9.1⟩
set_option maxHeartbeats 4000000 in
set_option maxRecDepth 100000 in
theorem l_X6_path {p : Program} {l : Launch} {e : Env} {s : State} {m : MethodId} {args : Array Value} {below : List Frame} {meth : Method} {c : Code} {Q : State → Prop} {D : va_G} {cA : Nat → ClassId} {base : Nat} {cw : Cond} (K : KX p m c cX6_path 6 s args cw RX6 D cA) (ad : Nat → Nat) (th cl cnt : Int32) (nb d no ns : Nat) (n i : Nat) (f dg : Nat → Int64) (hn : n ≤ 32) (hi : i < n) (pic0 : PIC) (kx : ∀ (pic1 : PIC), pic1 1000 = some (ad 1000, moE ad th nb cl cnt d (pdF f n i dg 5).2 ns) → MOut pic1 cA ad (pdF f n i dg 5).1 → (∃ g, MLev pic1 cA ad g) → (∀ q, ¬ (q = 1000 ∨ q = 1017 ∨ q = 1023) → pic1 q = pic0 q) → V p l e { frames := 3, cells := 0, slots := 0, locals := 76 } s m args below meth c Q D base 6 pic1 (lvOf [(0, .ref (ad 1000))]) 131 [] 0 0) : ∀ (g k : Nat) (pic : PIC) (row : Nat → Int64), 5 - k < g → k ≤ 5 → pic 1000 = some (ad 1000, moE ad th nb cl cnt d (pdF f n i dg k).2 ns) → MOut pic cA ad (pdF f n i dg k).1 → MLev pic cA ad row → (∀ j, j < wF n k → row j = lvF f n k j) → (∀ q, ¬ (q = 1000 ∨ q = 1017 ∨ q = 1023) → pic q = pic0 q) → V p l e { frames := 3, cells := 0, slots := 0, locals := 76 } s m args below meth c Q D base 6 pic (lvOf [(0, .ref (ad 1000)), (3, .int (nI (nF i (k)))), (4, .int (nI (wF n (k))))]) 60 [] 0 0 := by
  intro g
  induction g with
  | zero => intro k pic row h; omega
  | succ g ih =>
    intro k pic row hg hk5 fM mw1 my1 hrow FR
    unfold MOut at mw1
    unfold MLev at my1
    have hw := wF_le n k
    have hnk := nF_le i k
    have hbes := besF_le (m := nF i k) (by omega)
    have hpd := pdF_le f n i dg k
    refine v_iload K dX6_path_60 rfl ?_
    refine v_iconst (v := nI 1) K dX6_path_62 (by decide) ?_
    refine v_icmp_le K 131 dX6_path_63 (by decide) (nI_toInt (by omega)) (nI_toInt (by omega)) (fun c63 => ?_) (fun c63 => ?_)
    · have hw1 : wF n k ≤ 1 := by omega
      have hpe : pdF f n i dg 5 = pdF f n i dg k := by
        have h5 := pdF_stop (f := f) (dg := dg) hi hw1 (5 - k)
        rw [show k + (5 - k) = 5 from by omega] at h5
        exact h5
      refine v_at [(0, .ref (ad 1000))] (lcons rfl (lnil)) ?_
      exact kx pic (by rw [hpe]; exact fM) (by rw [hpe]; exact mw1) ⟨row, my1⟩ FR
    · have hk4 : k < 5 := by
        have h5 := wF5 (n := n) hn
        by_cases h6 : k = 5
        · rw [h6] at c63; omega
        · omega
      refine v_iload_n K 3 dX6_path_66 rfl rfl ?_
      refine v_iconst (v := nI 2) K dX6_path_67 (by decide) ?_
      refine v_iremN K dX6_path_68 (by omega) (by omega) (by omega) ?_
      refine v_if_ne K 78 dX6_path_69 (by decide) (nI_toInt (by omega)) (fun c69 => ?_) (fun c69 => ?_)
      · refine v_iload_n K 3 dX6_path_78 rfl rfl ?_
        refine v_iconst (v := nI 1) K dX6_path_79 (by decide) ?_
        refine v_isubN K dX6_path_80 (by omega) ?_
        refine v_top (v := .int (nI (besF (nF i k)))) (by rw [besF, if_neg (by omega)]) ?_
        refine v_istore K dX6_path_81 (by decide) ?_
        refine v_iload K dX6_path_83 rfl ?_
        refine v_iload K dX6_path_85 rfl ?_
        refine v_icmp_ge K 116 dX6_path_87 (by decide) (nI_toInt (by omega)) (nI_toInt (by omega)) (fun c87 => ?_) (fun c87 => ?_)
        · refine v_aload_n K 0 dX6_path_116 rfl rfl ?_
          refine v_iload K dX6_path_117 rfl ?_
          refine cl_X6_130 K dX6_path_119 fM (c_X6_rises l D cA base pic ad th cl cnt nb d _ ns (wF n k) row fM my1 (by omega)) rfl rfl ⟨by decide, by decide⟩ (Nat.le_of_ble_eq_true rfl) ⟨by decide, by decide⟩ (fun x119 pic1 hx2 => ?_)
          obtain ⟨rfl, ⟨row1, k1, hk⟩, kf⟩ := hx2
          replace fM := (kf _ (by omega)).trans fM
          replace mw1 := (kf _ (by omega)).trans mw1
          replace my1 := k1
          have FR : ∀ q, ¬ (q = 1000 ∨ q = 1017 ∨ q = 1023) → pic1 q = pic0 q := fun q hq => (kf q (by omega)).trans (FR q hq)
          have hrow1 : ∀ j, j < wF n (k + 1) → row1 j = lvF f n (k + 1) j := fun j hj => (hk j hj).trans (rise_agree hrow j hj)
          refine v_istore K dX6_path_122 (by decide) ?_
          refine v_iload_n K 3 dX6_path_124 rfl rfl ?_
          refine v_iconst (v := nI 2) K dX6_path_125 (by decide) ?_
          refine v_idivN K dX6_path_126 (by omega) (by omega) (by omega) ?_
          refine v_istore_n K 3 dX6_path_127 rfl (by decide) ?_
          refine v_goto K 60 dX6_path_128 (by decide) ?_
          have hpe : pdF f n i dg (k + 1) = pdF f n i dg k := by rw [pdF, if_neg (by omega)]
          refine v_at [(0, .ref (ad 1000)), (3, .int (nI (nF i (k + 1)))), (4, .int (nI (wF n (k + 1))))] (lcons rfl (lcons rfl (lcons rfl (lnil)))) ?_
          exact ih (k + 1) pic1 row1 (by omega) (by omega) (by rw [hpe]; exact fM) (by rw [hpe]; exact mw1) my1 hrow1 FR
        · refine v_aload_n K 0 dX6_path_90 rfl rfl ?_
          refine gf_X6_48 K dX6_path_91 fM rfl ?_
          refine v_aload_n K 0 dX6_path_94 rfl rfl ?_
          refine gf_X6_147 K dX6_path_95 fM rfl ?_
          refine v_aload_n K 0 dX6_path_98 rfl rfl ?_
          refine gf_X6_60 K dX6_path_99 fM rfl ?_
          refine v_iload K dX6_path_102 rfl ?_
          refine v_lald K dX6_path_104 my1 (by omega) (by decide) ?_
          refine v_top (v := .long (lvF f n k (besF (nF i k)))) (by rw [hrow _ (by omega)]) ?_
          refine v_last K dX6_path_105 mw1 (by omega) (by decide) (fun pic5 zg3 zf4 => ?_)
          replace fM := (zf4 _ (by omega)).trans fM
          replace mw1 := zg3
          replace my1 := (zf4 _ (by omega)).trans my1
          have FR : ∀ q, ¬ (q = 1000 ∨ q = 1017 ∨ q = 1023) → pic5 q = pic0 q := fun q hq => (zf4 q (by omega)).trans (FR q hq)
          refine v_aload_n K 0 dX6_path_106 rfl rfl ?_
          refine v_dup K dX6_path_107 rfl ?_
          refine gf_X6_147 K dX6_path_108 fM rfl ?_
          refine v_iconst (v := nI 1) K dX6_path_111 (by decide) ?_
          refine v_iaddN K dX6_path_112 ?_
          refine pf_X6_147 K dX6_path_113 fM (Nat.le_of_ble_eq_true rfl) (fun pic8 zg6 zf7 => ?_)
          replace fM := zg6
          replace mw1 := (zf7 _ (by omega)).trans mw1
          replace my1 := (zf7 _ (by omega)).trans my1
          have FR : ∀ q, ¬ (q = 1000 ∨ q = 1017 ∨ q = 1023) → pic8 q = pic0 q := fun q hq => (zf7 q (by omega)).trans (FR q hq)
          refine v_aload_n K 0 dX6_path_116 rfl rfl ?_
          refine v_iload K dX6_path_117 rfl ?_
          refine cl_X6_130 K dX6_path_119 fM (c_X6_rises l D cA base pic8 ad th cl cnt nb d _ ns (wF n k) row fM my1 (by omega)) rfl rfl ⟨by decide, by decide⟩ (Nat.le_of_ble_eq_true rfl) ⟨by decide, by decide⟩ (fun x119 pic9 hx10 => ?_)
          obtain ⟨rfl, ⟨row1, k1, hk⟩, kf⟩ := hx10
          replace fM := (kf _ (by omega)).trans fM
          replace mw1 := (kf _ (by omega)).trans mw1
          replace my1 := k1
          have FR : ∀ q, ¬ (q = 1000 ∨ q = 1017 ∨ q = 1023) → pic9 q = pic0 q := fun q hq => (kf q (by omega)).trans (FR q hq)
          have hrow1 : ∀ j, j < wF n (k + 1) → row1 j = lvF f n (k + 1) j := fun j hj => (hk j hj).trans (rise_agree hrow j hj)
          refine v_istore K dX6_path_122 (by decide) ?_
          refine v_iload_n K 3 dX6_path_124 rfl rfl ?_
          refine v_iconst (v := nI 2) K dX6_path_125 (by decide) ?_
          refine v_idivN K dX6_path_126 (by omega) (by omega) (by omega) ?_
          refine v_istore_n K 3 dX6_path_127 rfl (by decide) ?_
          refine v_goto K 60 dX6_path_128 (by decide) ?_
          have hpe : pdF f n i dg (k + 1) = (vp_updL (pdF f n i dg k).1 (pdF f n i dg k).2 (lvF f n k (besF (nF i k))), (pdF f n i dg k).2 + 1) := by rw [pdF, if_pos (by omega)]
          refine v_at [(0, .ref (ad 1000)), (3, .int (nI (nF i (k + 1)))), (4, .int (nI (wF n (k + 1))))] (lcons rfl (lcons rfl (lcons rfl (lnil)))) ?_
          exact ih (k + 1) pic9 row1 (by omega) (by omega) (by rw [hpe]; exact fM) (by rw [hpe]; exact mw1) my1 hrow1 FR
      · refine v_iload_n K 3 dX6_path_72 rfl rfl ?_
        refine v_iconst (v := nI 1) K dX6_path_73 (by decide) ?_
        refine v_iaddN K dX6_path_74 ?_
        refine v_goto K 81 dX6_path_75 (by decide) ?_
        refine v_top (v := .int (nI (besF (nF i k)))) (by rw [besF, if_pos (by omega)]) ?_
        refine v_istore K dX6_path_81 (by decide) ?_
        refine v_iload K dX6_path_83 rfl ?_
        refine v_iload K dX6_path_85 rfl ?_
        refine v_icmp_ge K 116 dX6_path_87 (by decide) (nI_toInt (by omega)) (nI_toInt (by omega)) (fun c87 => ?_) (fun c87 => ?_)
        · refine v_aload_n K 0 dX6_path_116 rfl rfl ?_
          refine v_iload K dX6_path_117 rfl ?_
          refine cl_X6_130 K dX6_path_119 fM (c_X6_rises l D cA base pic ad th cl cnt nb d _ ns (wF n k) row fM my1 (by omega)) rfl rfl ⟨by decide, by decide⟩ (Nat.le_of_ble_eq_true rfl) ⟨by decide, by decide⟩ (fun x119 pic11 hx12 => ?_)
          obtain ⟨rfl, ⟨row1, k1, hk⟩, kf⟩ := hx12
          replace fM := (kf _ (by omega)).trans fM
          replace mw1 := (kf _ (by omega)).trans mw1
          replace my1 := k1
          have FR : ∀ q, ¬ (q = 1000 ∨ q = 1017 ∨ q = 1023) → pic11 q = pic0 q := fun q hq => (kf q (by omega)).trans (FR q hq)
          have hrow1 : ∀ j, j < wF n (k + 1) → row1 j = lvF f n (k + 1) j := fun j hj => (hk j hj).trans (rise_agree hrow j hj)
          refine v_istore K dX6_path_122 (by decide) ?_
          refine v_iload_n K 3 dX6_path_124 rfl rfl ?_
          refine v_iconst (v := nI 2) K dX6_path_125 (by decide) ?_
          refine v_idivN K dX6_path_126 (by omega) (by omega) (by omega) ?_
          refine v_istore_n K 3 dX6_path_127 rfl (by decide) ?_
          refine v_goto K 60 dX6_path_128 (by decide) ?_
          have hpe : pdF f n i dg (k + 1) = pdF f n i dg k := by rw [pdF, if_neg (by omega)]
          refine v_at [(0, .ref (ad 1000)), (3, .int (nI (nF i (k + 1)))), (4, .int (nI (wF n (k + 1))))] (lcons rfl (lcons rfl (lcons rfl (lnil)))) ?_
          exact ih (k + 1) pic11 row1 (by omega) (by omega) (by rw [hpe]; exact fM) (by rw [hpe]; exact mw1) my1 hrow1 FR
        · refine v_aload_n K 0 dX6_path_90 rfl rfl ?_
          refine gf_X6_48 K dX6_path_91 fM rfl ?_
          refine v_aload_n K 0 dX6_path_94 rfl rfl ?_
          refine gf_X6_147 K dX6_path_95 fM rfl ?_
          refine v_aload_n K 0 dX6_path_98 rfl rfl ?_
          refine gf_X6_60 K dX6_path_99 fM rfl ?_
          refine v_iload K dX6_path_102 rfl ?_
          refine v_lald K dX6_path_104 my1 (by omega) (by decide) ?_
          refine v_top (v := .long (lvF f n k (besF (nF i k)))) (by rw [hrow _ (by omega)]) ?_
          refine v_last K dX6_path_105 mw1 (by omega) (by decide) (fun pic15 zg13 zf14 => ?_)
          replace fM := (zf14 _ (by omega)).trans fM
          replace mw1 := zg13
          replace my1 := (zf14 _ (by omega)).trans my1
          have FR : ∀ q, ¬ (q = 1000 ∨ q = 1017 ∨ q = 1023) → pic15 q = pic0 q := fun q hq => (zf14 q (by omega)).trans (FR q hq)
          refine v_aload_n K 0 dX6_path_106 rfl rfl ?_
          refine v_dup K dX6_path_107 rfl ?_
          refine gf_X6_147 K dX6_path_108 fM rfl ?_
          refine v_iconst (v := nI 1) K dX6_path_111 (by decide) ?_
          refine v_iaddN K dX6_path_112 ?_
          refine pf_X6_147 K dX6_path_113 fM (Nat.le_of_ble_eq_true rfl) (fun pic18 zg16 zf17 => ?_)
          replace fM := zg16
          replace mw1 := (zf17 _ (by omega)).trans mw1
          replace my1 := (zf17 _ (by omega)).trans my1
          have FR : ∀ q, ¬ (q = 1000 ∨ q = 1017 ∨ q = 1023) → pic18 q = pic0 q := fun q hq => (zf17 q (by omega)).trans (FR q hq)
          refine v_aload_n K 0 dX6_path_116 rfl rfl ?_
          refine v_iload K dX6_path_117 rfl ?_
          refine cl_X6_130 K dX6_path_119 fM (c_X6_rises l D cA base pic18 ad th cl cnt nb d _ ns (wF n k) row fM my1 (by omega)) rfl rfl ⟨by decide, by decide⟩ (Nat.le_of_ble_eq_true rfl) ⟨by decide, by decide⟩ (fun x119 pic19 hx20 => ?_)
          obtain ⟨rfl, ⟨row1, k1, hk⟩, kf⟩ := hx20
          replace fM := (kf _ (by omega)).trans fM
          replace mw1 := (kf _ (by omega)).trans mw1
          replace my1 := k1
          have FR : ∀ q, ¬ (q = 1000 ∨ q = 1017 ∨ q = 1023) → pic19 q = pic0 q := fun q hq => (kf q (by omega)).trans (FR q hq)
          have hrow1 : ∀ j, j < wF n (k + 1) → row1 j = lvF f n (k + 1) j := fun j hj => (hk j hj).trans (rise_agree hrow j hj)
          refine v_istore K dX6_path_122 (by decide) ?_
          refine v_iload_n K 3 dX6_path_124 rfl rfl ?_
          refine v_iconst (v := nI 2) K dX6_path_125 (by decide) ?_
          refine v_idivN K dX6_path_126 (by omega) (by omega) (by omega) ?_
          refine v_istore_n K 3 dX6_path_127 rfl (by decide) ?_
          refine v_goto K 60 dX6_path_128 (by decide) ?_
          have hpe : pdF f n i dg (k + 1) = (vp_updL (pdF f n i dg k).1 (pdF f n i dg k).2 (lvF f n k (besF (nF i k))), (pdF f n i dg k).2 + 1) := by rw [pdF, if_pos (by omega)]
          refine v_at [(0, .ref (ad 1000)), (3, .int (nI (nF i (k + 1)))), (4, .int (nI (wF n (k + 1))))] (lcons rfl (lcons rfl (lcons rfl (lnil)))) ?_
          exact ih (k + 1) pic19 row1 (by omega) (by omega) (by rw [hpe]; exact fM) (by rw [hpe]; exact mw1) my1 hrow1 FR

set_option maxHeartbeats 4000000 in
set_option maxRecDepth 100000 in
theorem c_X6_path (l : Launch) (D : va_G) (cA : Nat → ClassId) (base : Nat) (pic : PIC) (ad : Nat → Nat) (th cl cnt : Int32) (nb d no ns : Nat) (mac mtp : Nat → Int32) (mvl : Nat → Int64) (mse : Nat → Int32) (msz mpr : Nat → Int32) (mro mfi : Nat → Int64) (B : Nat → Bk) (mlv dg : Nat → Int64) (b i : Int32) (fM : pic 1000 = some (ad 1000, moE ad th nb cl cnt d no ns)) (hV : MEv pic cA ad mac mtp mvl mse) (hBl : MBl pic cA ad msz mpr mro mfi) (hB : RelB nb B msz mpr mro mfi mac mtp mvl mse) (hnb : nb ≤ 40) (mw1 : MOut pic cA ad dg) (my1 : MLev pic cA ad mlv)  : CI l yX6_path cX6_path 6 (some .int) { frames := 3, cells := 0, slots := 0, locals := 76 } 0 0 D cA base pic [.ref (ad 1000), .int b, .int i] (fun x9 pic1 => x9 = (pathF nb B no dg b i).1 ∧ pic1 1000 = some (ad 1000, moE ad th nb cl cnt d (pathF nb B no dg b i).2.1 ns) ∧ MOut pic1 cA ad (pathF nb B no dg b i).2.2 ∧ (∃ g, MLev pic1 cA ad g) ∧ ∀ q, ¬ (q = 1000 ∨ q = 1017 ∨ q = 1023) → pic1 q = pic q) := by
  refine ofI (by decide) (Nat.le_of_ble_eq_true rfl) ?_
  intro p e s m below meth c K hr hlk hnm
  have FR : ∀ q, ¬ (q = 1000 ∨ q = 1017 ∨ q = 1023) → pic q = pic q := fun _ _ => rfl
  unfold MOut at mw1
  unfold MLev at my1
  have ⟨mv1, mv2, mv3, mv4⟩ := hV
  have ⟨mb1, mb2, mb3, mb4⟩ := hBl
  refine v_aload_n K 0 dX6_path_0 rfl rfl ?_
  refine v_iload_n K 1 dX6_path_1 rfl rfl ?_
  refine cl_X6_134 K dX6_path_2 fM (c_X6_isBlock l D cA base pic ad th cl cnt nb d no ns b fM hnb) rfl rfl ⟨by decide, by decide⟩ (Nat.le_of_ble_eq_true rfl) ⟨by decide, by decide⟩ (fun x2 pic1 hx2 => ?_)
  rcases hx2 with ⟨rfl, rfl, hpb⟩ | ⟨rfl, rfl, hqb⟩
  · obtain ⟨j, hj, rfl⟩ := ixN b nb (by omega) (by omega) (by omega)
    obtain ⟨hs, hn, ⟨hp1, hp2⟩, hro, hfi, hEv⟩ := hB j hj
    have hbI := nI_toInt (n := j) (by omega)
    have hbx := bx_nI (j := j) (by omega)
    refine v_if_eq K 26 dX6_path_5 (by decide) rfl (fun c => absurd c (by decide)) (fun _ => ?_)
    refine v_iload_n K 2 dX6_path_8 rfl rfl ?_
    refine v_i2l K dX6_path_9 ?_
    refine v_lconst (v := 0) K dX6_path_10 (by decide) ?_
    refine v_aload_n K 0 dX6_path_11 rfl rfl ?_
    refine gf_X6_23 K dX6_path_12 fM rfl ?_
    refine v_iload_n K 1 dX6_path_15 rfl rfl ?_
    refine v_iald K dX6_path_16 mb1 (by omega) (by decide) ?_
    refine v_top (v := .int (nI (bN (B j)))) (by rw [hs]) ?_
    refine v_iconst (v := nI 1) K dX6_path_17 (by decide) ?_
    refine v_isub K dX6_path_18 ?_
    refine v_i2l K dX6_path_19 ?_
    refine cl_X6_70 K dX6_path_20 (c_X6_in l D cA base pic _ _ _) rfl rfl ⟨by decide, by decide⟩ (Nat.le_of_ble_eq_true rfl) ⟨by decide, by decide⟩ (fun x20 pic3 hx4 => ?_)
    rcases hx4 with ⟨rfl, rfl, hpi⟩ | ⟨rfl, rfl, hqi⟩
    · simp only [i2lT, show (0 : Int64).toInt = 0 from by decide, show (nI (bN (B j)) - nI 1).toInt = (((bN (B j)) : Nat) : Int) - 1 from pk_sub_toInt (by omega) (by omega)] at hpi
      refine v_if_ne K 28 dX6_path_23 (by decide) rfl (fun _ => ?_) (fun c => absurd c (by decide))
      refine v_aload_n K 0 dX6_path_28 rfl rfl ?_
      refine gf_X6_26 K dX6_path_29 fM rfl ?_
      refine v_iload_n K 1 dX6_path_32 rfl rfl ?_
      refine v_zald K dX6_path_33 mb2 (by omega) (by decide) ?_
      refine v_if_eq K 40 dX6_path_34 (by decide) rfl (fun c34 => ?_) (fun c34 => ?_)
      · obtain ⟨i1, hi1, rfl⟩ := ixN i (bN (B j)) (by omega) (by omega) (by omega)
        have hiI := nI_toInt (n := i1) (by omega)
        have hix := bx_nI (j := i1) (by omega)
        refine v_aload_n K 0 dX6_path_40 rfl rfl ?_
        refine v_iload_n K 1 dX6_path_41 rfl rfl ?_
        refine cl_X6_126 K dX6_path_42 fM (c_X6_leaves l D cA base pic ad th cl cnt nb d no ns mac mtp mvl mse msz mpr mro mfi mlv j (bN (B j)) fM ⟨mv1, mv2, mv3, mv4⟩ ⟨mb1, mb2, mb3, mb4⟩ my1 (by omega) hs hn hEv.tops) rfl rfl ⟨by decide, by decide⟩ (Nat.le_of_ble_eq_true rfl) ⟨by decide, by decide⟩ (fun pic5 hx6 => ?_)
        obtain ⟨⟨g1, k1, hg1⟩, kf⟩ := hx6
        replace fM := (kf _ (by omega)).trans fM
        replace mv1 := (kf _ (by omega)).trans mv1
        replace mv2 := (kf _ (by omega)).trans mv2
        replace mv3 := (kf _ (by omega)).trans mv3
        replace mv4 := (kf _ (by omega)).trans mv4
        replace mb1 := (kf _ (by omega)).trans mb1
        replace mb2 := (kf _ (by omega)).trans mb2
        replace mb3 := (kf _ (by omega)).trans mb3
        replace mb4 := (kf _ (by omega)).trans mb4
        replace mw1 := (kf _ (by omega)).trans mw1
        replace my1 := k1
        have FR : ∀ q, ¬ (q = 1000 ∨ q = 1017 ∨ q = 1023) → pic5 q = pic q := fun q hq => (kf q (by omega)).trans (FR q hq)
        replace hg1 : ∀ i, i < bN (B j) → g1 i = lfE (bE (B j)) i := fun i hi => (hg1 i hi).trans (hEv.leaf i hi)
        refine v_aload_n K 0 dX6_path_45 rfl rfl ?_
        refine v_iconst (v := nI 0) K dX6_path_46 (by decide) ?_
        refine pf_X6_147 K dX6_path_47 fM (Nat.le_of_ble_eq_true rfl) (fun pic9 zg7 zf8 => ?_)
        replace fM := zg7
        replace mv1 := (zf8 _ (by omega)).trans mv1
        replace mv2 := (zf8 _ (by omega)).trans mv2
        replace mv3 := (zf8 _ (by omega)).trans mv3
        replace mv4 := (zf8 _ (by omega)).trans mv4
        replace mb1 := (zf8 _ (by omega)).trans mb1
        replace mb2 := (zf8 _ (by omega)).trans mb2
        replace mb3 := (zf8 _ (by omega)).trans mb3
        replace mb4 := (zf8 _ (by omega)).trans mb4
        replace mw1 := (zf8 _ (by omega)).trans mw1
        replace my1 := (zf8 _ (by omega)).trans my1
        have FR : ∀ q, ¬ (q = 1000 ∨ q = 1017 ∨ q = 1023) → pic9 q = pic q := fun q hq => (zf8 q (by omega)).trans (FR q hq)
        refine v_iload_n K 2 dX6_path_50 rfl rfl ?_
        refine v_istore_n K 3 dX6_path_51 rfl (by decide) ?_
        refine v_aload_n K 0 dX6_path_52 rfl rfl ?_
        refine gf_X6_23 K dX6_path_53 fM rfl ?_
        refine v_iload_n K 1 dX6_path_56 rfl rfl ?_
        refine v_iald K dX6_path_57 mb1 (by omega) (by decide) ?_
        refine v_top (v := .int (nI (bN (B j)))) (by rw [hs]) ?_
        refine v_istore K dX6_path_58 (by decide) ?_
        refine v_at [(0, .ref (ad 1000)), (3, .int (nI (nF i1 0))), (4, .int (nI (wF (bN (B j)) 0)))] (lcons rfl (lcons rfl (lcons rfl (lnil)))) ?_
        refine l_X6_path K ad th cl cnt nb d no ns (bN (B j)) i1 (lfE (bE (B j))) dg hn hi1 pic9 (fun pic1 h1 h2 h3 h4 => ?_) 6 0 pic9 g1 (by omega) (by omega) fM mw1 my1 hg1 (fun _ _ => rfl)
        replace fM := h1
        have FR : ∀ q, ¬ (q = 1000 ∨ q = 1017 ∨ q = 1023) → pic1 q = pic q := fun q hq => (h4 q hq).trans (FR q hq)
        refine v_aload_n K 0 dX6_path_131 rfl rfl ?_
        refine gf_X6_147 K dX6_path_132 fM rfl ?_
        exact v_iret K dX6_path_135 hr hlk (by decide) (by decide) (by first | exact (by rw [pathF_0 (by omega)]; exact ⟨rfl, fM, mw1, ⟨_, my1⟩, FR⟩) | exact (by rw [pathF_0 (by rw [hbx]; omega)]; exact ⟨rfl, fM, mw1, ⟨_, my1⟩, FR⟩) | exact (by rw [pathF_1 (by rw [hbx]; omega) (by rw [hbx]; omega)]; exact ⟨rfl, fM, mw1, ⟨_, my1⟩, FR⟩) | exact (by rw [pathF_2 (by rw [hbx]; omega) (by rw [hbx]; omega), hbx, hix]; exact ⟨rfl, fM, h2, h3, FR⟩))
      · refine v_bipush (v := -4) K dX6_path_37 (by decide) ?_
        exact v_iret K dX6_path_39 hr hlk (by decide) (by decide) (by first | exact (by rw [pathF_0 (by omega)]; exact ⟨rfl, fM, mw1, ⟨_, my1⟩, FR⟩) | exact (by rw [pathF_0 (by rw [hbx]; omega)]; exact ⟨rfl, fM, mw1, ⟨_, my1⟩, FR⟩) | exact (by rw [pathF_1 (by rw [hbx]; omega) (by rw [hbx]; omega)]; exact ⟨rfl, fM, mw1, ⟨_, my1⟩, FR⟩) | exact (by rw [pathF_2 (by rw [hbx]; omega) (by rw [hbx]; omega), hbx, hix]; exact ⟨rfl, fM, h2, h3, FR⟩))
    · simp only [i2lT, show (0 : Int64).toInt = 0 from by decide, show (nI (bN (B j)) - nI 1).toInt = (((bN (B j)) : Nat) : Int) - 1 from pk_sub_toInt (by omega) (by omega)] at hqi
      refine v_if_ne K 28 dX6_path_23 (by decide) rfl (fun c => absurd c (by decide)) (fun _ => ?_)
      refine v_iconst (v := -1) K dX6_path_26 (by decide) ?_
      exact v_iret K dX6_path_27 hr hlk (by decide) (by decide) (by first | exact (by rw [pathF_0 (by omega)]; exact ⟨rfl, fM, mw1, ⟨_, my1⟩, FR⟩) | exact (by rw [pathF_0 (by rw [hbx]; omega)]; exact ⟨rfl, fM, mw1, ⟨_, my1⟩, FR⟩) | exact (by rw [pathF_1 (by rw [hbx]; omega) (by rw [hbx]; omega)]; exact ⟨rfl, fM, mw1, ⟨_, my1⟩, FR⟩) | exact (by rw [pathF_2 (by rw [hbx]; omega) (by rw [hbx]; omega), hbx, hix]; exact ⟨rfl, fM, h2, h3, FR⟩))
  · refine v_if_eq K 26 dX6_path_5 (by decide) rfl (fun _ => ?_) (fun c => absurd c (by decide))
    refine v_iconst (v := -1) K dX6_path_26 (by decide) ?_
    exact v_iret K dX6_path_27 hr hlk (by decide) (by decide) (by first | exact (by rw [pathF_0 (by omega)]; exact ⟨rfl, fM, mw1, ⟨_, my1⟩, FR⟩) | exact (by rw [pathF_0 (by rw [hbx]; omega)]; exact ⟨rfl, fM, mw1, ⟨_, my1⟩, FR⟩) | exact (by rw [pathF_1 (by rw [hbx]; omega) (by rw [hbx]; omega)]; exact ⟨rfl, fM, mw1, ⟨_, my1⟩, FR⟩) | exact (by rw [pathF_2 (by rw [hbx]; omega) (by rw [hbx]; omega), hbx, hix]; exact ⟨rfl, fM, h2, h3, FR⟩))

set_option maxHeartbeats 4000000 in
set_option maxRecDepth 100000 in
theorem l_X6_provedN {p : Program} {l : Launch} {e : Env} {s : State} {m : MethodId} {args : Array Value} {below : List Frame} {meth : Method} {c : Code} {Q : State → Prop} {D : va_G} {cA : Nat → ClassId} {base : Nat} {cw : Cond} (K : KX p m c cX6_proved 18 s args cw RX6 D cA) (pic : PIC) (ad : Nat → Nat) (th cl cnt : Int32) (nb d no ns : Nat) (mro dg : Nat → Int64) (j n i : Nat) (lf : Int64) (fM : pic 1000 = some (ad 1000, moE ad th nb cl cnt d no ns)) (mw1 : MOut pic cA ad dg) (mb3 : pic 1007 = some (ad 1007, .inl (cA 1, 41, .inr (.inl mro)))) (hj : j < 41) (hno5 : no ≤ 5) (hn : n ≤ 32) (hi : i < n) (kr : ∀ (pc : Nat) (lv : LV), decode cX6_proved pc = .ok (.ireturn, 1) → V p l e { frames := 2, cells := 0, slots := 0, locals := 53 } s m args below meth c Q D base 18 pic lv pc [.int (nI 0)] 0 0) : ∀ (g k : Nat) (d9 : Int64) (u : Nat), 5 - k < g → k ≤ 5 → u ≤ k → V p l e { frames := 2, cells := 0, slots := 0, locals := 53 } s m args below meth c Q D base 18 pic (lvOf [(0, .ref (ad 1000)), (1, .int (nI j)), (9, .long (d9)), (11, .int (nI (nF i (k)))), (12, .int (nI (wF n (k)))), (13, .int (nI (u))), (14, .int (nI 0))]) 73 [] 0 0 := by
  unfold MOut at mw1
  intro g
  induction g with
  | zero => intro k d9 u h; omega
  | succ g ih =>
    intro k d9 u hg hk5 hu
    have hw := wF_le n k
    have hnk := nF_le i k
    have hbes := besF_le (m := nF i k) (by omega)
    refine v_iload K dX6_proved_73 rfl ?_
    refine v_iconst (v := nI 1) K dX6_proved_75 (by decide) ?_
    refine v_icmp_le K 191 dX6_proved_76 (by decide) (nI_toInt (by omega)) (nI_toInt (by omega)) (fun c76 => ?_) (fun c76 => ?_)
    · refine v_iload K dX6_proved_191 rfl ?_
      refine v_if_eq K 221 dX6_proved_193 (by decide) rfl (fun _ => ?_) (fun c => absurd c (by decide))
      refine v_iconst (v := nI 0) K dX6_proved_221 (by decide) ?_
      exact kr 222 _ dX6_proved_222
    · have hk4 : k < 5 := by
        have h5 := wF5 (n := n) hn
        by_cases h6 : k = 5
        · rw [h6] at c76; omega
        · omega
      refine v_iload K dX6_proved_79 rfl ?_
      refine v_iconst (v := nI 2) K dX6_proved_81 (by decide) ?_
      refine v_iremN K dX6_proved_82 (by omega) (by omega) (by omega) ?_
      refine v_if_ne K 93 dX6_proved_83 (by decide) (nI_toInt (by omega)) (fun c83 => ?_) (fun c83 => ?_)
      · refine v_iload K dX6_proved_93 rfl ?_
        refine v_iconst (v := nI 1) K dX6_proved_95 (by decide) ?_
        refine v_isubN K dX6_proved_96 (by omega) ?_
        refine v_top (v := .int (nI (besF (nF i k)))) (by rw [besF, if_neg (by omega)]) ?_
        refine v_istore K dX6_proved_97 (by decide) ?_
        refine v_iload K dX6_proved_99 rfl ?_
        refine v_iload K dX6_proved_101 rfl ?_
        refine v_icmp_ge K 174 dX6_proved_103 (by decide) (nI_toInt (by omega)) (nI_toInt (by omega)) (fun c103 => ?_) (fun c103 => ?_)
        · refine v_iload K dX6_proved_174 rfl ?_
          refine v_iconst (v := nI 1) K dX6_proved_176 (by decide) ?_
          refine v_iaddN K dX6_proved_177 ?_
          refine v_iconst (v := nI 2) K dX6_proved_178 (by decide) ?_
          refine v_idivN K dX6_proved_179 (by omega) (by omega) (by omega) ?_
          refine v_istore K dX6_proved_180 (by decide) ?_
          refine v_iload K dX6_proved_182 rfl ?_
          refine v_iconst (v := nI 2) K dX6_proved_184 (by decide) ?_
          refine v_idivN K dX6_proved_185 (by omega) (by omega) (by omega) ?_
          refine v_istore K dX6_proved_186 (by decide) ?_
          refine v_goto K 73 dX6_proved_188 (by decide) ?_
          refine v_at [(0, .ref (ad 1000)), (1, .int (nI j)), (9, .long (d9)), (11, .int (nI (nF i (k + 1)))), (12, .int (nI (wF n (k + 1)))), (13, .int (nI (u))), (14, .int (nI 0))] (lcons rfl (lcons rfl (lcons rfl (lcons rfl (lcons rfl (lcons rfl (lcons rfl (lnil)))))))) ?_
          exact ih (k + 1) _ _ (by omega) (by omega) (by omega)
        · refine v_iload K dX6_proved_106 rfl ?_
          refine v_if_eq K 124 dX6_proved_108 (by decide) rfl (fun _ => ?_) (fun c => absurd c (by decide))
          refine v_iconst (v := nI 0) K dX6_proved_124 (by decide) ?_
          refine v_istore K dX6_proved_125 (by decide) ?_
          refine v_iload K dX6_proved_127 rfl ?_
          refine v_if_eq K 142 dX6_proved_129 (by decide) rfl (fun _ => ?_) (fun c => absurd c (by decide))
          refine v_lconst (v := 0) K dX6_proved_142 (by decide) ?_
          refine v_lstore K dX6_proved_143 (by decide) ?_
          refine v_iload K dX6_proved_145 rfl ?_
          refine v_iconst (v := nI 2) K dX6_proved_147 (by decide) ?_
          refine v_iremN K dX6_proved_148 (by omega) (by omega) (by omega) ?_
          refine v_if_ne K 162 dX6_proved_149 (by decide) (nI_toInt (by omega)) (fun c149 => ?_) (fun c149 => ?_)
          · refine v_lload K dX6_proved_162 rfl ?_
            refine v_lload K dX6_proved_164 rfl ?_
            refine cl_X6_114 K dX6_proved_166 (c_X6_mix l D cA base pic _ _) rfl rfl ⟨by decide, by decide⟩ (Nat.le_of_ble_eq_true rfl) ⟨by decide, by decide⟩ (fun x166 pic1 hx2 => ?_)
            obtain ⟨rfl, rfl⟩ := hx2
            refine v_lstore K dX6_proved_169 (by decide) ?_
            refine v_iincN K 1 dX6_proved_171 rfl (by decide) (by decide) ?_
            refine v_iload K dX6_proved_174 rfl ?_
            refine v_iconst (v := nI 1) K dX6_proved_176 (by decide) ?_
            refine v_iaddN K dX6_proved_177 ?_
            refine v_iconst (v := nI 2) K dX6_proved_178 (by decide) ?_
            refine v_idivN K dX6_proved_179 (by omega) (by omega) (by omega) ?_
            refine v_istore K dX6_proved_180 (by decide) ?_
            refine v_iload K dX6_proved_182 rfl ?_
            refine v_iconst (v := nI 2) K dX6_proved_184 (by decide) ?_
            refine v_idivN K dX6_proved_185 (by omega) (by omega) (by omega) ?_
            refine v_istore K dX6_proved_186 (by decide) ?_
            refine v_goto K 73 dX6_proved_188 (by decide) ?_
            refine v_at [(0, .ref (ad 1000)), (1, .int (nI j)), (9, .long (mixF 0 d9)), (11, .int (nI (nF i (k + 1)))), (12, .int (nI (wF n (k + 1)))), (13, .int (nI (u + 1))), (14, .int (nI 0))] (lcons rfl (lcons rfl (lcons rfl (lcons rfl (lcons rfl (lcons rfl (lcons rfl (lnil)))))))) ?_
            exact ih (k + 1) _ _ (by omega) (by omega) (by omega)
          · refine v_lload K dX6_proved_152 rfl ?_
            refine v_lload K dX6_proved_154 rfl ?_
            refine cl_X6_114 K dX6_proved_156 (c_X6_mix l D cA base pic _ _) rfl rfl ⟨by decide, by decide⟩ (Nat.le_of_ble_eq_true rfl) ⟨by decide, by decide⟩ (fun x156 pic3 hx4 => ?_)
            obtain ⟨rfl, rfl⟩ := hx4
            refine v_goto K 169 dX6_proved_159 (by decide) ?_
            refine v_lstore K dX6_proved_169 (by decide) ?_
            refine v_iincN K 1 dX6_proved_171 rfl (by decide) (by decide) ?_
            refine v_iload K dX6_proved_174 rfl ?_
            refine v_iconst (v := nI 1) K dX6_proved_176 (by decide) ?_
            refine v_iaddN K dX6_proved_177 ?_
            refine v_iconst (v := nI 2) K dX6_proved_178 (by decide) ?_
            refine v_idivN K dX6_proved_179 (by omega) (by omega) (by omega) ?_
            refine v_istore K dX6_proved_180 (by decide) ?_
            refine v_iload K dX6_proved_182 rfl ?_
            refine v_iconst (v := nI 2) K dX6_proved_184 (by decide) ?_
            refine v_idivN K dX6_proved_185 (by omega) (by omega) (by omega) ?_
            refine v_istore K dX6_proved_186 (by decide) ?_
            refine v_goto K 73 dX6_proved_188 (by decide) ?_
            refine v_at [(0, .ref (ad 1000)), (1, .int (nI j)), (9, .long (mixF d9 0)), (11, .int (nI (nF i (k + 1)))), (12, .int (nI (wF n (k + 1)))), (13, .int (nI (u + 1))), (14, .int (nI 0))] (lcons rfl (lcons rfl (lcons rfl (lcons rfl (lcons rfl (lcons rfl (lcons rfl (lnil)))))))) ?_
            exact ih (k + 1) _ _ (by omega) (by omega) (by omega)
      · refine v_iload K dX6_proved_86 rfl ?_
        refine v_iconst (v := nI 1) K dX6_proved_88 (by decide) ?_
        refine v_iaddN K dX6_proved_89 ?_
        refine v_goto K 97 dX6_proved_90 (by decide) ?_
        refine v_top (v := .int (nI (besF (nF i k)))) (by rw [besF, if_pos (by omega)]) ?_
        refine v_istore K dX6_proved_97 (by decide) ?_
        refine v_iload K dX6_proved_99 rfl ?_
        refine v_iload K dX6_proved_101 rfl ?_
        refine v_icmp_ge K 174 dX6_proved_103 (by decide) (nI_toInt (by omega)) (nI_toInt (by omega)) (fun c103 => ?_) (fun c103 => ?_)
        · refine v_iload K dX6_proved_174 rfl ?_
          refine v_iconst (v := nI 1) K dX6_proved_176 (by decide) ?_
          refine v_iaddN K dX6_proved_177 ?_
          refine v_iconst (v := nI 2) K dX6_proved_178 (by decide) ?_
          refine v_idivN K dX6_proved_179 (by omega) (by omega) (by omega) ?_
          refine v_istore K dX6_proved_180 (by decide) ?_
          refine v_iload K dX6_proved_182 rfl ?_
          refine v_iconst (v := nI 2) K dX6_proved_184 (by decide) ?_
          refine v_idivN K dX6_proved_185 (by omega) (by omega) (by omega) ?_
          refine v_istore K dX6_proved_186 (by decide) ?_
          refine v_goto K 73 dX6_proved_188 (by decide) ?_
          refine v_at [(0, .ref (ad 1000)), (1, .int (nI j)), (9, .long (d9)), (11, .int (nI (nF i (k + 1)))), (12, .int (nI (wF n (k + 1)))), (13, .int (nI (u))), (14, .int (nI 0))] (lcons rfl (lcons rfl (lcons rfl (lcons rfl (lcons rfl (lcons rfl (lcons rfl (lnil)))))))) ?_
          exact ih (k + 1) _ _ (by omega) (by omega) (by omega)
        · refine v_iload K dX6_proved_106 rfl ?_
          refine v_if_eq K 124 dX6_proved_108 (by decide) rfl (fun _ => ?_) (fun c => absurd c (by decide))
          refine v_iconst (v := nI 0) K dX6_proved_124 (by decide) ?_
          refine v_istore K dX6_proved_125 (by decide) ?_
          refine v_iload K dX6_proved_127 rfl ?_
          refine v_if_eq K 142 dX6_proved_129 (by decide) rfl (fun _ => ?_) (fun c => absurd c (by decide))
          refine v_lconst (v := 0) K dX6_proved_142 (by decide) ?_
          refine v_lstore K dX6_proved_143 (by decide) ?_
          refine v_iload K dX6_proved_145 rfl ?_
          refine v_iconst (v := nI 2) K dX6_proved_147 (by decide) ?_
          refine v_iremN K dX6_proved_148 (by omega) (by omega) (by omega) ?_
          refine v_if_ne K 162 dX6_proved_149 (by decide) (nI_toInt (by omega)) (fun c149 => ?_) (fun c149 => ?_)
          · refine v_lload K dX6_proved_162 rfl ?_
            refine v_lload K dX6_proved_164 rfl ?_
            refine cl_X6_114 K dX6_proved_166 (c_X6_mix l D cA base pic _ _) rfl rfl ⟨by decide, by decide⟩ (Nat.le_of_ble_eq_true rfl) ⟨by decide, by decide⟩ (fun x166 pic5 hx6 => ?_)
            obtain ⟨rfl, rfl⟩ := hx6
            refine v_lstore K dX6_proved_169 (by decide) ?_
            refine v_iincN K 1 dX6_proved_171 rfl (by decide) (by decide) ?_
            refine v_iload K dX6_proved_174 rfl ?_
            refine v_iconst (v := nI 1) K dX6_proved_176 (by decide) ?_
            refine v_iaddN K dX6_proved_177 ?_
            refine v_iconst (v := nI 2) K dX6_proved_178 (by decide) ?_
            refine v_idivN K dX6_proved_179 (by omega) (by omega) (by omega) ?_
            refine v_istore K dX6_proved_180 (by decide) ?_
            refine v_iload K dX6_proved_182 rfl ?_
            refine v_iconst (v := nI 2) K dX6_proved_184 (by decide) ?_
            refine v_idivN K dX6_proved_185 (by omega) (by omega) (by omega) ?_
            refine v_istore K dX6_proved_186 (by decide) ?_
            refine v_goto K 73 dX6_proved_188 (by decide) ?_
            refine v_at [(0, .ref (ad 1000)), (1, .int (nI j)), (9, .long (mixF 0 d9)), (11, .int (nI (nF i (k + 1)))), (12, .int (nI (wF n (k + 1)))), (13, .int (nI (u + 1))), (14, .int (nI 0))] (lcons rfl (lcons rfl (lcons rfl (lcons rfl (lcons rfl (lcons rfl (lcons rfl (lnil)))))))) ?_
            exact ih (k + 1) _ _ (by omega) (by omega) (by omega)
          · refine v_lload K dX6_proved_152 rfl ?_
            refine v_lload K dX6_proved_154 rfl ?_
            refine cl_X6_114 K dX6_proved_156 (c_X6_mix l D cA base pic _ _) rfl rfl ⟨by decide, by decide⟩ (Nat.le_of_ble_eq_true rfl) ⟨by decide, by decide⟩ (fun x156 pic7 hx8 => ?_)
            obtain ⟨rfl, rfl⟩ := hx8
            refine v_goto K 169 dX6_proved_159 (by decide) ?_
            refine v_lstore K dX6_proved_169 (by decide) ?_
            refine v_iincN K 1 dX6_proved_171 rfl (by decide) (by decide) ?_
            refine v_iload K dX6_proved_174 rfl ?_
            refine v_iconst (v := nI 1) K dX6_proved_176 (by decide) ?_
            refine v_iaddN K dX6_proved_177 ?_
            refine v_iconst (v := nI 2) K dX6_proved_178 (by decide) ?_
            refine v_idivN K dX6_proved_179 (by omega) (by omega) (by omega) ?_
            refine v_istore K dX6_proved_180 (by decide) ?_
            refine v_iload K dX6_proved_182 rfl ?_
            refine v_iconst (v := nI 2) K dX6_proved_184 (by decide) ?_
            refine v_idivN K dX6_proved_185 (by omega) (by omega) (by omega) ?_
            refine v_istore K dX6_proved_186 (by decide) ?_
            refine v_goto K 73 dX6_proved_188 (by decide) ?_
            refine v_at [(0, .ref (ad 1000)), (1, .int (nI j)), (9, .long (mixF d9 0)), (11, .int (nI (nF i (k + 1)))), (12, .int (nI (wF n (k + 1)))), (13, .int (nI (u + 1))), (14, .int (nI 0))] (lcons rfl (lcons rfl (lcons rfl (lcons rfl (lcons rfl (lcons rfl (lcons rfl (lnil)))))))) ?_
            exact ih (k + 1) _ _ (by omega) (by omega) (by omega)

set_option maxHeartbeats 4000000 in
set_option maxRecDepth 100000 in
theorem l_X6_proved {p : Program} {l : Launch} {e : Env} {s : State} {m : MethodId} {args : Array Value} {below : List Frame} {meth : Method} {c : Code} {Q : State → Prop} {D : va_G} {cA : Nat → ClassId} {base : Nat} {cw : Cond} (K : KX p m c cX6_proved 18 s args cw RX6 D cA) (pic : PIC) (ad : Nat → Nat) (th cl cnt : Int32) (nb d no ns : Nat) (mro dg : Nat → Int64) (j n i : Nat) (lf : Int64) (fM : pic 1000 = some (ad 1000, moE ad th nb cl cnt d no ns)) (mw1 : MOut pic cA ad dg) (mb3 : pic 1007 = some (ad 1007, .inl (cA 1, 41, .inr (.inl mro)))) (hj : j < 41) (hno5 : no ≤ 5) (hn : n ≤ 32) (hi : i < n) (kr : ∀ (x : Int32) (pc : Nat) (lv : LV), decode cX6_proved pc = .ok (.ireturn, 1) → ((x = nI 1 ∧ ldOK dg no lf n i (mro j)) ∨ (x = nI 0 ∧ ¬ ldOK dg no lf n i (mro j))) → V p l e { frames := 2, cells := 0, slots := 0, locals := 53 } s m args below meth c Q D base 18 pic lv pc [.int x] 0 0) : ∀ (g k : Nat) (d9 : Int64) (u : Nat), 5 - k < g → k ≤ 5 → ldF dg no lf n i k = some (d9, u) → u ≤ k → V p l e { frames := 2, cells := 0, slots := 0, locals := 53 } s m args below meth c Q D base 18 pic (lvOf [(0, .ref (ad 1000)), (1, .int (nI j)), (9, .long (d9)), (11, .int (nI (nF i (k)))), (12, .int (nI (wF n (k)))), (13, .int (nI (u))), (14, .int (nI 1))]) 73 [] 0 0 := by
  unfold MOut at mw1
  intro g
  induction g with
  | zero => intro k d9 u h; omega
  | succ g ih =>
    intro k d9 u hg hk5 hld hu
    have hw := wF_le n k
    have hnk := nF_le i k
    have hbes := besF_le (m := nF i k) (by omega)
    refine v_iload K dX6_proved_73 rfl ?_
    refine v_iconst (v := nI 1) K dX6_proved_75 (by decide) ?_
    refine v_icmp_le K 191 dX6_proved_76 (by decide) (nI_toInt (by omega)) (nI_toInt (by omega)) (fun c76 => ?_) (fun c76 => ?_)
    · have hw1 : wF n k ≤ 1 := by omega
      refine v_iload K dX6_proved_191 rfl ?_
      refine v_if_eq K 221 dX6_proved_193 (by decide) rfl (fun c => absurd c (by decide)) (fun _ => ?_)
      refine v_iload K dX6_proved_196 rfl ?_
      refine v_aload_n K 0 dX6_proved_198 rfl rfl ?_
      refine gf_X6_147 K dX6_proved_199 fM rfl ?_
      refine v_icmp_ne K 221 dX6_proved_202 (by decide) (nI_toInt (by omega)) (nI_toInt (by omega)) (fun c202 => ?_) (fun c202 => ?_)
      · refine v_iconst (v := nI 0) K dX6_proved_221 (by decide) ?_
        exact kr _ 222 _ dX6_proved_222 (Or.inr ⟨rfl, ld_ne (show ldF dg no lf n i 5 = some (d9, u) from by have h5 := ldF_stop hi hw1 hld (5 - k); rw [show k + (5 - k) = 5 from by omega] at h5; exact h5) rfl (by omega)⟩)
      · refine v_lload K dX6_proved_205 rfl ?_
        refine v_aload_n K 0 dX6_proved_207 rfl rfl ?_
        refine gf_X6_30 K dX6_proved_208 fM rfl ?_
        refine v_iload_n K 1 dX6_proved_211 rfl rfl ?_
        refine v_lald K dX6_proved_212 mb3 (by omega) (by decide) ?_
        refine v_lcmp K dX6_proved_213 ?_
        refine v_if_ne K 221 dX6_proved_214 (by decide) rfl (fun c214 => ?_) (fun c214 => ?_)
        · refine v_iconst (v := nI 0) K dX6_proved_221 (by decide) ?_
          exact kr _ 222 _ dX6_proved_222 (Or.inr ⟨rfl, ld_nd (show ldF dg no lf n i 5 = some (d9, u) from by have h5 := ldF_stop hi hw1 hld (5 - k); rw [show k + (5 - k) = 5 from by omega] at h5; exact h5) rfl (fun h => c214 (lgc0.mpr h))⟩)
        · refine v_iconst (v := nI 1) K dX6_proved_217 (by decide) ?_
          refine v_goto K 222 dX6_proved_218 (by decide) ?_
          exact kr _ 222 _ dX6_proved_222 (Or.inl ⟨rfl, ld_ok (show ldF dg no lf n i 5 = some (d9, u) from by have h5 := ldF_stop hi hw1 hld (5 - k); rw [show k + (5 - k) = 5 from by omega] at h5; exact h5) rfl (by omega) (lgc0.mp c214)⟩)
    · have hk4 : k < 5 := by
        have h5 := wF5 (n := n) hn
        by_cases h6 : k = 5
        · rw [h6] at c76; omega
        · omega
      refine v_iload K dX6_proved_79 rfl ?_
      refine v_iconst (v := nI 2) K dX6_proved_81 (by decide) ?_
      refine v_iremN K dX6_proved_82 (by omega) (by omega) (by omega) ?_
      refine v_if_ne K 93 dX6_proved_83 (by decide) (nI_toInt (by omega)) (fun c83 => ?_) (fun c83 => ?_)
      · refine v_iload K dX6_proved_93 rfl ?_
        refine v_iconst (v := nI 1) K dX6_proved_95 (by decide) ?_
        refine v_isubN K dX6_proved_96 (by omega) ?_
        refine v_top (v := .int (nI (besF (nF i k)))) (by rw [besF, if_neg (by omega)]) ?_
        refine v_istore K dX6_proved_97 (by decide) ?_
        refine v_iload K dX6_proved_99 rfl ?_
        refine v_iload K dX6_proved_101 rfl ?_
        refine v_icmp_ge K 174 dX6_proved_103 (by decide) (nI_toInt (by omega)) (nI_toInt (by omega)) (fun c103 => ?_) (fun c103 => ?_)
        · refine v_iload K dX6_proved_174 rfl ?_
          refine v_iconst (v := nI 1) K dX6_proved_176 (by decide) ?_
          refine v_iaddN K dX6_proved_177 ?_
          refine v_iconst (v := nI 2) K dX6_proved_178 (by decide) ?_
          refine v_idivN K dX6_proved_179 (by omega) (by omega) (by omega) ?_
          refine v_istore K dX6_proved_180 (by decide) ?_
          refine v_iload K dX6_proved_182 rfl ?_
          refine v_iconst (v := nI 2) K dX6_proved_184 (by decide) ?_
          refine v_idivN K dX6_proved_185 (by omega) (by omega) (by omega) ?_
          refine v_istore K dX6_proved_186 (by decide) ?_
          refine v_goto K 73 dX6_proved_188 (by decide) ?_
          refine v_at [(0, .ref (ad 1000)), (1, .int (nI j)), (9, .long (d9)), (11, .int (nI (nF i (k + 1)))), (12, .int (nI (wF n (k + 1)))), (13, .int (nI (u))), (14, .int (nI 1))] (lcons rfl (lcons rfl (lcons rfl (lcons rfl (lcons rfl (lcons rfl (lcons rfl (lnil)))))))) ?_
          exact ih (k + 1) _ _ (by omega) (by omega) (ldF_skip hld (by omega)) (by omega)
        · refine v_iload K dX6_proved_106 rfl ?_
          refine v_if_eq K 124 dX6_proved_108 (by decide) rfl (fun c => absurd c (by decide)) (fun _ => ?_)
          refine v_iload K dX6_proved_111 rfl ?_
          refine v_aload_n K 0 dX6_proved_113 rfl rfl ?_
          refine gf_X6_147 K dX6_proved_114 fM rfl ?_
          refine v_icmp_ge K 124 dX6_proved_117 (by decide) (nI_toInt (by omega)) (nI_toInt (by omega)) (fun c117 => ?_) (fun c117 => ?_)
          · refine v_iconst (v := nI 0) K dX6_proved_124 (by decide) ?_
            refine v_istore K dX6_proved_125 (by decide) ?_
            refine v_iload K dX6_proved_127 rfl ?_
            refine v_if_eq K 142 dX6_proved_129 (by decide) rfl (fun _ => ?_) (fun c => absurd c (by decide))
            refine v_lconst (v := 0) K dX6_proved_142 (by decide) ?_
            refine v_lstore K dX6_proved_143 (by decide) ?_
            refine v_iload K dX6_proved_145 rfl ?_
            refine v_iconst (v := nI 2) K dX6_proved_147 (by decide) ?_
            refine v_iremN K dX6_proved_148 (by omega) (by omega) (by omega) ?_
            refine v_if_ne K 162 dX6_proved_149 (by decide) (nI_toInt (by omega)) (fun c149 => ?_) (fun c149 => ?_)
            · refine v_lload K dX6_proved_162 rfl ?_
              refine v_lload K dX6_proved_164 rfl ?_
              refine cl_X6_114 K dX6_proved_166 (c_X6_mix l D cA base pic _ _) rfl rfl ⟨by decide, by decide⟩ (Nat.le_of_ble_eq_true rfl) ⟨by decide, by decide⟩ (fun x166 pic1 hx2 => ?_)
              obtain ⟨rfl, rfl⟩ := hx2
              refine v_lstore K dX6_proved_169 (by decide) ?_
              refine v_iincN K 1 dX6_proved_171 rfl (by decide) (by decide) ?_
              refine v_iload K dX6_proved_174 rfl ?_
              refine v_iconst (v := nI 1) K dX6_proved_176 (by decide) ?_
              refine v_iaddN K dX6_proved_177 ?_
              refine v_iconst (v := nI 2) K dX6_proved_178 (by decide) ?_
              refine v_idivN K dX6_proved_179 (by omega) (by omega) (by omega) ?_
              refine v_istore K dX6_proved_180 (by decide) ?_
              refine v_iload K dX6_proved_182 rfl ?_
              refine v_iconst (v := nI 2) K dX6_proved_184 (by decide) ?_
              refine v_idivN K dX6_proved_185 (by omega) (by omega) (by omega) ?_
              refine v_istore K dX6_proved_186 (by decide) ?_
              refine v_goto K 73 dX6_proved_188 (by decide) ?_
              refine v_at [(0, .ref (ad 1000)), (1, .int (nI j)), (9, .long (mixF 0 d9)), (11, .int (nI (nF i (k + 1)))), (12, .int (nI (wF n (k + 1)))), (13, .int (nI (u + 1))), (14, .int (nI 0))] (lcons rfl (lcons rfl (lcons rfl (lcons rfl (lcons rfl (lcons rfl (lcons rfl (lnil)))))))) ?_
              exact l_X6_provedN K pic ad th cl cnt nb d no ns mro dg j n i lf fM mw1 mb3 hj hno5 hn hi (fun pc lv d => kr _ pc lv d (Or.inr ⟨rfl, ld_out hld hk4 (by omega) (by omega)⟩)) (5 - (k + 1) + 1) (k + 1) _ _ (by omega) (by omega) (by omega)
            · refine v_lload K dX6_proved_152 rfl ?_
              refine v_lload K dX6_proved_154 rfl ?_
              refine cl_X6_114 K dX6_proved_156 (c_X6_mix l D cA base pic _ _) rfl rfl ⟨by decide, by decide⟩ (Nat.le_of_ble_eq_true rfl) ⟨by decide, by decide⟩ (fun x156 pic3 hx4 => ?_)
              obtain ⟨rfl, rfl⟩ := hx4
              refine v_goto K 169 dX6_proved_159 (by decide) ?_
              refine v_lstore K dX6_proved_169 (by decide) ?_
              refine v_iincN K 1 dX6_proved_171 rfl (by decide) (by decide) ?_
              refine v_iload K dX6_proved_174 rfl ?_
              refine v_iconst (v := nI 1) K dX6_proved_176 (by decide) ?_
              refine v_iaddN K dX6_proved_177 ?_
              refine v_iconst (v := nI 2) K dX6_proved_178 (by decide) ?_
              refine v_idivN K dX6_proved_179 (by omega) (by omega) (by omega) ?_
              refine v_istore K dX6_proved_180 (by decide) ?_
              refine v_iload K dX6_proved_182 rfl ?_
              refine v_iconst (v := nI 2) K dX6_proved_184 (by decide) ?_
              refine v_idivN K dX6_proved_185 (by omega) (by omega) (by omega) ?_
              refine v_istore K dX6_proved_186 (by decide) ?_
              refine v_goto K 73 dX6_proved_188 (by decide) ?_
              refine v_at [(0, .ref (ad 1000)), (1, .int (nI j)), (9, .long (mixF d9 0)), (11, .int (nI (nF i (k + 1)))), (12, .int (nI (wF n (k + 1)))), (13, .int (nI (u + 1))), (14, .int (nI 0))] (lcons rfl (lcons rfl (lcons rfl (lcons rfl (lcons rfl (lcons rfl (lcons rfl (lnil)))))))) ?_
              exact l_X6_provedN K pic ad th cl cnt nb d no ns mro dg j n i lf fM mw1 mb3 hj hno5 hn hi (fun pc lv d => kr _ pc lv d (Or.inr ⟨rfl, ld_out hld hk4 (by omega) (by omega)⟩)) (5 - (k + 1) + 1) (k + 1) _ _ (by omega) (by omega) (by omega)
          · refine v_iconst (v := nI 1) K dX6_proved_120 (by decide) ?_
            refine v_goto K 125 dX6_proved_121 (by decide) ?_
            refine v_istore K dX6_proved_125 (by decide) ?_
            refine v_iload K dX6_proved_127 rfl ?_
            refine v_if_eq K 142 dX6_proved_129 (by decide) rfl (fun c => absurd c (by decide)) (fun _ => ?_)
            refine v_aload_n K 0 dX6_proved_132 rfl rfl ?_
            refine gf_X6_48 K dX6_proved_133 fM rfl ?_
            refine v_iload K dX6_proved_136 rfl ?_
            refine v_lald K dX6_proved_138 mw1 (by omega) (by decide) ?_
            refine v_goto K 143 dX6_proved_139 (by decide) ?_
            refine v_lstore K dX6_proved_143 (by decide) ?_
            refine v_iload K dX6_proved_145 rfl ?_
            refine v_iconst (v := nI 2) K dX6_proved_147 (by decide) ?_
            refine v_iremN K dX6_proved_148 (by omega) (by omega) (by omega) ?_
            refine v_if_ne K 162 dX6_proved_149 (by decide) (nI_toInt (by omega)) (fun c149 => ?_) (fun c149 => ?_)
            · refine v_lload K dX6_proved_162 rfl ?_
              refine v_lload K dX6_proved_164 rfl ?_
              refine cl_X6_114 K dX6_proved_166 (c_X6_mix l D cA base pic _ _) rfl rfl ⟨by decide, by decide⟩ (Nat.le_of_ble_eq_true rfl) ⟨by decide, by decide⟩ (fun x166 pic5 hx6 => ?_)
              obtain ⟨rfl, rfl⟩ := hx6
              refine v_lstore K dX6_proved_169 (by decide) ?_
              refine v_iincN K 1 dX6_proved_171 rfl (by decide) (by decide) ?_
              refine v_iload K dX6_proved_174 rfl ?_
              refine v_iconst (v := nI 1) K dX6_proved_176 (by decide) ?_
              refine v_iaddN K dX6_proved_177 ?_
              refine v_iconst (v := nI 2) K dX6_proved_178 (by decide) ?_
              refine v_idivN K dX6_proved_179 (by omega) (by omega) (by omega) ?_
              refine v_istore K dX6_proved_180 (by decide) ?_
              refine v_iload K dX6_proved_182 rfl ?_
              refine v_iconst (v := nI 2) K dX6_proved_184 (by decide) ?_
              refine v_idivN K dX6_proved_185 (by omega) (by omega) (by omega) ?_
              refine v_istore K dX6_proved_186 (by decide) ?_
              refine v_goto K 73 dX6_proved_188 (by decide) ?_
              refine v_at [(0, .ref (ad 1000)), (1, .int (nI j)), (9, .long (mixF (dg u) d9)), (11, .int (nI (nF i (k + 1)))), (12, .int (nI (wF n (k + 1)))), (13, .int (nI (u + 1))), (14, .int (nI 1))] (lcons rfl (lcons rfl (lcons rfl (lcons rfl (lcons rfl (lcons rfl (lcons rfl (lnil)))))))) ?_
              exact ih (k + 1) _ _ (by omega) (by omega) (by rw [ldF_take hld (by omega) (by omega), mixS, if_neg (by omega)]) (by omega)
            · refine v_lload K dX6_proved_152 rfl ?_
              refine v_lload K dX6_proved_154 rfl ?_
              refine cl_X6_114 K dX6_proved_156 (c_X6_mix l D cA base pic _ _) rfl rfl ⟨by decide, by decide⟩ (Nat.le_of_ble_eq_true rfl) ⟨by decide, by decide⟩ (fun x156 pic7 hx8 => ?_)
              obtain ⟨rfl, rfl⟩ := hx8
              refine v_goto K 169 dX6_proved_159 (by decide) ?_
              refine v_lstore K dX6_proved_169 (by decide) ?_
              refine v_iincN K 1 dX6_proved_171 rfl (by decide) (by decide) ?_
              refine v_iload K dX6_proved_174 rfl ?_
              refine v_iconst (v := nI 1) K dX6_proved_176 (by decide) ?_
              refine v_iaddN K dX6_proved_177 ?_
              refine v_iconst (v := nI 2) K dX6_proved_178 (by decide) ?_
              refine v_idivN K dX6_proved_179 (by omega) (by omega) (by omega) ?_
              refine v_istore K dX6_proved_180 (by decide) ?_
              refine v_iload K dX6_proved_182 rfl ?_
              refine v_iconst (v := nI 2) K dX6_proved_184 (by decide) ?_
              refine v_idivN K dX6_proved_185 (by omega) (by omega) (by omega) ?_
              refine v_istore K dX6_proved_186 (by decide) ?_
              refine v_goto K 73 dX6_proved_188 (by decide) ?_
              refine v_at [(0, .ref (ad 1000)), (1, .int (nI j)), (9, .long (mixF d9 (dg u))), (11, .int (nI (nF i (k + 1)))), (12, .int (nI (wF n (k + 1)))), (13, .int (nI (u + 1))), (14, .int (nI 1))] (lcons rfl (lcons rfl (lcons rfl (lcons rfl (lcons rfl (lcons rfl (lcons rfl (lnil)))))))) ?_
              exact ih (k + 1) _ _ (by omega) (by omega) (by rw [ldF_take hld (by omega) (by omega), mixS, if_pos (by omega)]) (by omega)
      · refine v_iload K dX6_proved_86 rfl ?_
        refine v_iconst (v := nI 1) K dX6_proved_88 (by decide) ?_
        refine v_iaddN K dX6_proved_89 ?_
        refine v_goto K 97 dX6_proved_90 (by decide) ?_
        refine v_top (v := .int (nI (besF (nF i k)))) (by rw [besF, if_pos (by omega)]) ?_
        refine v_istore K dX6_proved_97 (by decide) ?_
        refine v_iload K dX6_proved_99 rfl ?_
        refine v_iload K dX6_proved_101 rfl ?_
        refine v_icmp_ge K 174 dX6_proved_103 (by decide) (nI_toInt (by omega)) (nI_toInt (by omega)) (fun c103 => ?_) (fun c103 => ?_)
        · refine v_iload K dX6_proved_174 rfl ?_
          refine v_iconst (v := nI 1) K dX6_proved_176 (by decide) ?_
          refine v_iaddN K dX6_proved_177 ?_
          refine v_iconst (v := nI 2) K dX6_proved_178 (by decide) ?_
          refine v_idivN K dX6_proved_179 (by omega) (by omega) (by omega) ?_
          refine v_istore K dX6_proved_180 (by decide) ?_
          refine v_iload K dX6_proved_182 rfl ?_
          refine v_iconst (v := nI 2) K dX6_proved_184 (by decide) ?_
          refine v_idivN K dX6_proved_185 (by omega) (by omega) (by omega) ?_
          refine v_istore K dX6_proved_186 (by decide) ?_
          refine v_goto K 73 dX6_proved_188 (by decide) ?_
          refine v_at [(0, .ref (ad 1000)), (1, .int (nI j)), (9, .long (d9)), (11, .int (nI (nF i (k + 1)))), (12, .int (nI (wF n (k + 1)))), (13, .int (nI (u))), (14, .int (nI 1))] (lcons rfl (lcons rfl (lcons rfl (lcons rfl (lcons rfl (lcons rfl (lcons rfl (lnil)))))))) ?_
          exact ih (k + 1) _ _ (by omega) (by omega) (ldF_skip hld (by omega)) (by omega)
        · refine v_iload K dX6_proved_106 rfl ?_
          refine v_if_eq K 124 dX6_proved_108 (by decide) rfl (fun c => absurd c (by decide)) (fun _ => ?_)
          refine v_iload K dX6_proved_111 rfl ?_
          refine v_aload_n K 0 dX6_proved_113 rfl rfl ?_
          refine gf_X6_147 K dX6_proved_114 fM rfl ?_
          refine v_icmp_ge K 124 dX6_proved_117 (by decide) (nI_toInt (by omega)) (nI_toInt (by omega)) (fun c117 => ?_) (fun c117 => ?_)
          · refine v_iconst (v := nI 0) K dX6_proved_124 (by decide) ?_
            refine v_istore K dX6_proved_125 (by decide) ?_
            refine v_iload K dX6_proved_127 rfl ?_
            refine v_if_eq K 142 dX6_proved_129 (by decide) rfl (fun _ => ?_) (fun c => absurd c (by decide))
            refine v_lconst (v := 0) K dX6_proved_142 (by decide) ?_
            refine v_lstore K dX6_proved_143 (by decide) ?_
            refine v_iload K dX6_proved_145 rfl ?_
            refine v_iconst (v := nI 2) K dX6_proved_147 (by decide) ?_
            refine v_iremN K dX6_proved_148 (by omega) (by omega) (by omega) ?_
            refine v_if_ne K 162 dX6_proved_149 (by decide) (nI_toInt (by omega)) (fun c149 => ?_) (fun c149 => ?_)
            · refine v_lload K dX6_proved_162 rfl ?_
              refine v_lload K dX6_proved_164 rfl ?_
              refine cl_X6_114 K dX6_proved_166 (c_X6_mix l D cA base pic _ _) rfl rfl ⟨by decide, by decide⟩ (Nat.le_of_ble_eq_true rfl) ⟨by decide, by decide⟩ (fun x166 pic9 hx10 => ?_)
              obtain ⟨rfl, rfl⟩ := hx10
              refine v_lstore K dX6_proved_169 (by decide) ?_
              refine v_iincN K 1 dX6_proved_171 rfl (by decide) (by decide) ?_
              refine v_iload K dX6_proved_174 rfl ?_
              refine v_iconst (v := nI 1) K dX6_proved_176 (by decide) ?_
              refine v_iaddN K dX6_proved_177 ?_
              refine v_iconst (v := nI 2) K dX6_proved_178 (by decide) ?_
              refine v_idivN K dX6_proved_179 (by omega) (by omega) (by omega) ?_
              refine v_istore K dX6_proved_180 (by decide) ?_
              refine v_iload K dX6_proved_182 rfl ?_
              refine v_iconst (v := nI 2) K dX6_proved_184 (by decide) ?_
              refine v_idivN K dX6_proved_185 (by omega) (by omega) (by omega) ?_
              refine v_istore K dX6_proved_186 (by decide) ?_
              refine v_goto K 73 dX6_proved_188 (by decide) ?_
              refine v_at [(0, .ref (ad 1000)), (1, .int (nI j)), (9, .long (mixF 0 d9)), (11, .int (nI (nF i (k + 1)))), (12, .int (nI (wF n (k + 1)))), (13, .int (nI (u + 1))), (14, .int (nI 0))] (lcons rfl (lcons rfl (lcons rfl (lcons rfl (lcons rfl (lcons rfl (lcons rfl (lnil)))))))) ?_
              exact l_X6_provedN K pic ad th cl cnt nb d no ns mro dg j n i lf fM mw1 mb3 hj hno5 hn hi (fun pc lv d => kr _ pc lv d (Or.inr ⟨rfl, ld_out hld hk4 (by omega) (by omega)⟩)) (5 - (k + 1) + 1) (k + 1) _ _ (by omega) (by omega) (by omega)
            · refine v_lload K dX6_proved_152 rfl ?_
              refine v_lload K dX6_proved_154 rfl ?_
              refine cl_X6_114 K dX6_proved_156 (c_X6_mix l D cA base pic _ _) rfl rfl ⟨by decide, by decide⟩ (Nat.le_of_ble_eq_true rfl) ⟨by decide, by decide⟩ (fun x156 pic11 hx12 => ?_)
              obtain ⟨rfl, rfl⟩ := hx12
              refine v_goto K 169 dX6_proved_159 (by decide) ?_
              refine v_lstore K dX6_proved_169 (by decide) ?_
              refine v_iincN K 1 dX6_proved_171 rfl (by decide) (by decide) ?_
              refine v_iload K dX6_proved_174 rfl ?_
              refine v_iconst (v := nI 1) K dX6_proved_176 (by decide) ?_
              refine v_iaddN K dX6_proved_177 ?_
              refine v_iconst (v := nI 2) K dX6_proved_178 (by decide) ?_
              refine v_idivN K dX6_proved_179 (by omega) (by omega) (by omega) ?_
              refine v_istore K dX6_proved_180 (by decide) ?_
              refine v_iload K dX6_proved_182 rfl ?_
              refine v_iconst (v := nI 2) K dX6_proved_184 (by decide) ?_
              refine v_idivN K dX6_proved_185 (by omega) (by omega) (by omega) ?_
              refine v_istore K dX6_proved_186 (by decide) ?_
              refine v_goto K 73 dX6_proved_188 (by decide) ?_
              refine v_at [(0, .ref (ad 1000)), (1, .int (nI j)), (9, .long (mixF d9 0)), (11, .int (nI (nF i (k + 1)))), (12, .int (nI (wF n (k + 1)))), (13, .int (nI (u + 1))), (14, .int (nI 0))] (lcons rfl (lcons rfl (lcons rfl (lcons rfl (lcons rfl (lcons rfl (lcons rfl (lnil)))))))) ?_
              exact l_X6_provedN K pic ad th cl cnt nb d no ns mro dg j n i lf fM mw1 mb3 hj hno5 hn hi (fun pc lv d => kr _ pc lv d (Or.inr ⟨rfl, ld_out hld hk4 (by omega) (by omega)⟩)) (5 - (k + 1) + 1) (k + 1) _ _ (by omega) (by omega) (by omega)
          · refine v_iconst (v := nI 1) K dX6_proved_120 (by decide) ?_
            refine v_goto K 125 dX6_proved_121 (by decide) ?_
            refine v_istore K dX6_proved_125 (by decide) ?_
            refine v_iload K dX6_proved_127 rfl ?_
            refine v_if_eq K 142 dX6_proved_129 (by decide) rfl (fun c => absurd c (by decide)) (fun _ => ?_)
            refine v_aload_n K 0 dX6_proved_132 rfl rfl ?_
            refine gf_X6_48 K dX6_proved_133 fM rfl ?_
            refine v_iload K dX6_proved_136 rfl ?_
            refine v_lald K dX6_proved_138 mw1 (by omega) (by decide) ?_
            refine v_goto K 143 dX6_proved_139 (by decide) ?_
            refine v_lstore K dX6_proved_143 (by decide) ?_
            refine v_iload K dX6_proved_145 rfl ?_
            refine v_iconst (v := nI 2) K dX6_proved_147 (by decide) ?_
            refine v_iremN K dX6_proved_148 (by omega) (by omega) (by omega) ?_
            refine v_if_ne K 162 dX6_proved_149 (by decide) (nI_toInt (by omega)) (fun c149 => ?_) (fun c149 => ?_)
            · refine v_lload K dX6_proved_162 rfl ?_
              refine v_lload K dX6_proved_164 rfl ?_
              refine cl_X6_114 K dX6_proved_166 (c_X6_mix l D cA base pic _ _) rfl rfl ⟨by decide, by decide⟩ (Nat.le_of_ble_eq_true rfl) ⟨by decide, by decide⟩ (fun x166 pic13 hx14 => ?_)
              obtain ⟨rfl, rfl⟩ := hx14
              refine v_lstore K dX6_proved_169 (by decide) ?_
              refine v_iincN K 1 dX6_proved_171 rfl (by decide) (by decide) ?_
              refine v_iload K dX6_proved_174 rfl ?_
              refine v_iconst (v := nI 1) K dX6_proved_176 (by decide) ?_
              refine v_iaddN K dX6_proved_177 ?_
              refine v_iconst (v := nI 2) K dX6_proved_178 (by decide) ?_
              refine v_idivN K dX6_proved_179 (by omega) (by omega) (by omega) ?_
              refine v_istore K dX6_proved_180 (by decide) ?_
              refine v_iload K dX6_proved_182 rfl ?_
              refine v_iconst (v := nI 2) K dX6_proved_184 (by decide) ?_
              refine v_idivN K dX6_proved_185 (by omega) (by omega) (by omega) ?_
              refine v_istore K dX6_proved_186 (by decide) ?_
              refine v_goto K 73 dX6_proved_188 (by decide) ?_
              refine v_at [(0, .ref (ad 1000)), (1, .int (nI j)), (9, .long (mixF (dg u) d9)), (11, .int (nI (nF i (k + 1)))), (12, .int (nI (wF n (k + 1)))), (13, .int (nI (u + 1))), (14, .int (nI 1))] (lcons rfl (lcons rfl (lcons rfl (lcons rfl (lcons rfl (lcons rfl (lcons rfl (lnil)))))))) ?_
              exact ih (k + 1) _ _ (by omega) (by omega) (by rw [ldF_take hld (by omega) (by omega), mixS, if_neg (by omega)]) (by omega)
            · refine v_lload K dX6_proved_152 rfl ?_
              refine v_lload K dX6_proved_154 rfl ?_
              refine cl_X6_114 K dX6_proved_156 (c_X6_mix l D cA base pic _ _) rfl rfl ⟨by decide, by decide⟩ (Nat.le_of_ble_eq_true rfl) ⟨by decide, by decide⟩ (fun x156 pic15 hx16 => ?_)
              obtain ⟨rfl, rfl⟩ := hx16
              refine v_goto K 169 dX6_proved_159 (by decide) ?_
              refine v_lstore K dX6_proved_169 (by decide) ?_
              refine v_iincN K 1 dX6_proved_171 rfl (by decide) (by decide) ?_
              refine v_iload K dX6_proved_174 rfl ?_
              refine v_iconst (v := nI 1) K dX6_proved_176 (by decide) ?_
              refine v_iaddN K dX6_proved_177 ?_
              refine v_iconst (v := nI 2) K dX6_proved_178 (by decide) ?_
              refine v_idivN K dX6_proved_179 (by omega) (by omega) (by omega) ?_
              refine v_istore K dX6_proved_180 (by decide) ?_
              refine v_iload K dX6_proved_182 rfl ?_
              refine v_iconst (v := nI 2) K dX6_proved_184 (by decide) ?_
              refine v_idivN K dX6_proved_185 (by omega) (by omega) (by omega) ?_
              refine v_istore K dX6_proved_186 (by decide) ?_
              refine v_goto K 73 dX6_proved_188 (by decide) ?_
              refine v_at [(0, .ref (ad 1000)), (1, .int (nI j)), (9, .long (mixF d9 (dg u))), (11, .int (nI (nF i (k + 1)))), (12, .int (nI (wF n (k + 1)))), (13, .int (nI (u + 1))), (14, .int (nI 1))] (lcons rfl (lcons rfl (lcons rfl (lcons rfl (lcons rfl (lcons rfl (lcons rfl (lnil)))))))) ?_
              exact ih (k + 1) _ _ (by omega) (by omega) (by rw [ldF_take hld (by omega) (by omega), mixS, if_pos (by omega)]) (by omega)

set_option maxHeartbeats 4000000 in
set_option maxRecDepth 100000 in
theorem c_X6_proved (l : Launch) (D : va_G) (cA : Nat → ClassId) (base : Nat) (pic : PIC) (ad : Nat → Nat) (th cl cnt : Int32) (nb d no ns : Nat) (mac mtp : Nat → Int32) (mvl : Nat → Int64) (mse : Nat → Int32) (msz mpr : Nat → Int32) (mro mfi : Nat → Int64) (B : Nat → Bk) (dg : Nat → Int64) (b i ac a b2 c2 : Int32) (v : Int64) (fM : pic 1000 = some (ad 1000, moE ad th nb cl cnt d no ns)) (hV : MEv pic cA ad mac mtp mvl mse) (hBl : MBl pic cA ad msz mpr mro mfi) (hB : RelB nb B msz mpr mro mfi mac mtp mvl mse) (hnb : nb ≤ 40) (mw1 : MOut pic cA ad dg) (hno5 : no ≤ 5)  : CI l yX6_proved cX6_proved 18 (some .int) { frames := 2, cells := 0, slots := 0, locals := 53 } 0 0 D cA base pic [.ref (ad 1000), .int b, .int i, .int ac, .int a, .int b2, .int c2, .long v] (fun x9 pic1 => pic = pic1 ∧ x9 = provedF nb B no dg b i ac a b2 c2 v) := by
  refine ofI (by decide) (Nat.le_of_ble_eq_true rfl) ?_
  intro p e s m below meth c K hr hlk hnm
  unfold MOut at mw1
  have ⟨mv1, mv2, mv3, mv4⟩ := hV
  have ⟨mb1, mb2, mb3, mb4⟩ := hBl
  refine v_aload_n K 0 dX6_proved_0 rfl rfl ?_
  refine v_iload_n K 1 dX6_proved_1 rfl rfl ?_
  refine cl_X6_134 K dX6_proved_2 fM (c_X6_isBlock l D cA base pic ad th cl cnt nb d no ns b fM hnb) rfl rfl ⟨by decide, by decide⟩ (Nat.le_of_ble_eq_true rfl) ⟨by decide, by decide⟩ (fun x2 pic1 hx2 => ?_)
  rcases hx2 with ⟨rfl, rfl, hpb⟩ | ⟨rfl, rfl, hqb⟩
  · obtain ⟨j, hj, rfl⟩ := ixN b nb (by omega) (by omega) (by omega)
    obtain ⟨hs, hn, ⟨hp1, hp2⟩, hro, hfi, hEv⟩ := hB j hj
    have hbI := nI_toInt (n := j) (by omega)
    have hbx := bx_nI (j := j) (by omega)
    refine v_if_eq K 39 dX6_proved_5 (by decide) rfl (fun c => absurd c (by decide)) (fun _ => ?_)
    refine v_iload_n K 2 dX6_proved_8 rfl rfl ?_
    refine v_i2l K dX6_proved_9 ?_
    refine v_lconst (v := 0) K dX6_proved_10 (by decide) ?_
    refine v_aload_n K 0 dX6_proved_11 rfl rfl ?_
    refine gf_X6_23 K dX6_proved_12 fM rfl ?_
    refine v_iload_n K 1 dX6_proved_15 rfl rfl ?_
    refine v_iald K dX6_proved_16 mb1 (by omega) (by decide) ?_
    refine v_top (v := .int (nI (bN (B j)))) (by rw [hs]) ?_
    refine v_iconst (v := nI 1) K dX6_proved_17 (by decide) ?_
    refine v_isub K dX6_proved_18 ?_
    refine v_i2l K dX6_proved_19 ?_
    refine cl_X6_70 K dX6_proved_20 (c_X6_in l D cA base pic _ _ _) rfl rfl ⟨by decide, by decide⟩ (Nat.le_of_ble_eq_true rfl) ⟨by decide, by decide⟩ (fun x20 pic3 hx4 => ?_)
    rcases hx4 with ⟨rfl, rfl, hpi⟩ | ⟨rfl, rfl, hqi⟩
    · simp only [i2lT, show (0 : Int64).toInt = 0 from by decide, show (nI (bN (B j)) - nI 1).toInt = (((bN (B j)) : Nat) : Int) - 1 from pk_sub_toInt (by omega) (by omega)] at hpi
      refine v_if_eq K 39 dX6_proved_23 (by decide) rfl (fun c => absurd c (by decide)) (fun _ => ?_)
      refine v_iload_n K 3 dX6_proved_26 rfl rfl ?_
      refine v_iload K dX6_proved_27 rfl ?_
      refine v_iload K dX6_proved_29 rfl ?_
      refine v_iload K dX6_proved_31 rfl ?_
      refine cl_X6_98 K dX6_proved_33 (c_X6_isEvent l D cA base pic ac a b2 c2) rfl rfl ⟨by decide, by decide⟩ (Nat.le_of_ble_eq_true rfl) ⟨by decide, by decide⟩ (fun x33 pic5 hx6 => ?_)
      rcases hx6 with ⟨rfl, rfl, hpE⟩ | ⟨rfl, rfl, hqE⟩
      · have hpE2 := hpE
        unfold evOK isTop isTopN at hpE2
        refine v_if_ne K 41 dX6_proved_36 (by decide) rfl (fun _ => ?_) (fun c => absurd c (by decide))
        obtain ⟨i1, hi1, rfl⟩ := ixN i (bN (B j)) (by omega) (by omega) (by omega)
        have hiI := nI_toInt (n := i1) (by omega)
        have hix := bx_nI (j := i1) (by omega)
        refine v_iload_n K 3 dX6_proved_41 rfl rfl ?_
        refine v_iload K dX6_proved_42 rfl ?_
        refine v_iload K dX6_proved_44 rfl ?_
        refine v_iload K dX6_proved_46 rfl ?_
        refine v_lload K dX6_proved_48 rfl ?_
        refine v_iload_n K 2 dX6_proved_50 rfl rfl ?_
        refine cl_X6_118 K dX6_proved_51 (c_X6_leaf l D cA base pic ac a b2 c2 v _ (by omega) (by omega)) rfl rfl ⟨by decide, by decide⟩ (Nat.le_of_ble_eq_true rfl) ⟨by decide, by decide⟩ (fun x51 pic7 hx8 => ?_)
        obtain ⟨rfl, rfl⟩ := hx8
        refine v_lstore K dX6_proved_54 (by decide) ?_
        refine v_iload_n K 2 dX6_proved_56 rfl rfl ?_
        refine v_istore K dX6_proved_57 (by decide) ?_
        refine v_aload_n K 0 dX6_proved_59 rfl rfl ?_
        refine gf_X6_23 K dX6_proved_60 fM rfl ?_
        refine v_iload_n K 1 dX6_proved_63 rfl rfl ?_
        refine v_iald K dX6_proved_64 mb1 (by omega) (by decide) ?_
        refine v_top (v := .int (nI (bN (B j)))) (by rw [hs]) ?_
        refine v_istore K dX6_proved_65 (by decide) ?_
        refine v_iconst (v := nI 0) K dX6_proved_67 (by decide) ?_
        refine v_istore K dX6_proved_68 (by decide) ?_
        refine v_iconst (v := nI 1) K dX6_proved_70 (by decide) ?_
        refine v_istore K dX6_proved_71 (by decide) ?_
        refine v_at [(0, .ref (ad 1000)), (1, .int (nI j)), (9, .long (leafF ac a b2 c2 v (nI i1))), (11, .int (nI (nF i1 0))), (12, .int (nI (wF (bN (B j)) 0))), (13, .int (nI 0)), (14, .int (nI 1))] (lcons rfl (lcons rfl (lcons rfl (lcons rfl (lcons rfl (lcons rfl (lcons rfl (lnil)))))))) ?_
        exact l_X6_proved K pic ad th cl cnt nb d no ns mro dg j (bN (B j)) i1 (leafF ac a b2 c2 v (nI i1)) fM mw1 mb3 (by omega) hno5 hn hi1 (fun x pc lv d h => v_iret K d hr hlk (by decide) (by decide) (by
          rw [hro] at h
          rcases h with ⟨rfl, h⟩ | ⟨rfl, h⟩
          · exact ⟨rfl, by rw [provedF_1 (fun h => h ⟨by omega, by rw [hbx]; omega, hpE⟩) (by rw [hbx, hix]; exact h)]; rfl⟩
          · exact ⟨rfl, by rw [provedF_2 (fun h => h ⟨by omega, by rw [hbx]; omega, hpE⟩) (by rw [hbx, hix]; exact h)]; rfl⟩)) 6 0 _ 0 (by omega) (by omega) rfl (Nat.le_refl 0)
      · refine v_if_ne K 41 dX6_proved_36 (by decide) rfl (fun c => absurd c (by decide)) (fun _ => ?_)
        refine v_iconst (v := -1) K dX6_proved_39 (by decide) ?_
        exact v_iret K dX6_proved_40 hr hlk (by decide) (by decide) (by first | exact (⟨rfl, by rw [provedF_0 (fun h => hqb h.1)]⟩) | exact (⟨rfl, by rw [provedF_0 (fun h => hqi (by rw [hbx] at h; omega))]⟩) | exact (⟨rfl, by rw [provedF_0 (fun h => hqE h.2.2)]⟩))
    · simp only [i2lT, show (0 : Int64).toInt = 0 from by decide, show (nI (bN (B j)) - nI 1).toInt = (((bN (B j)) : Nat) : Int) - 1 from pk_sub_toInt (by omega) (by omega)] at hqi
      refine v_if_eq K 39 dX6_proved_23 (by decide) rfl (fun _ => ?_) (fun c => absurd c (by decide))
      refine v_iconst (v := -1) K dX6_proved_39 (by decide) ?_
      exact v_iret K dX6_proved_40 hr hlk (by decide) (by decide) (by first | exact (⟨rfl, by rw [provedF_0 (fun h => hqb h.1)]⟩) | exact (⟨rfl, by rw [provedF_0 (fun h => hqi (by rw [hbx] at h; omega))]⟩) | exact (⟨rfl, by rw [provedF_0 (fun h => hqE h.2.2)]⟩))
  · refine v_if_eq K 39 dX6_proved_5 (by decide) rfl (fun _ => ?_) (fun c => absurd c (by decide))
    refine v_iconst (v := -1) K dX6_proved_39 (by decide) ?_
    exact v_iret K dX6_proved_40 hr hlk (by decide) (by decide) (by first | exact (⟨rfl, by rw [provedF_0 (fun h => hqb h.1)]⟩) | exact (⟨rfl, by rw [provedF_0 (fun h => hqi (by rw [hbx] at h; omega))]⟩) | exact (⟨rfl, by rw [provedF_0 (fun h => hqE h.2.2)]⟩))

