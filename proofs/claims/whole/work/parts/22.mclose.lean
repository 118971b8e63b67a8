/-- n values from s on, copied to o -/
def cpG {α : Type} (f : Nat → α) (o s n : Nat) : Nat → α := fun x => if o ≤ x ∧ x < o + n then f (s + (x - o)) else f x
theorem cpG_lo {α : Type} {f : Nat → α} {o s n x : Nat} (h : x < o) : cpG f o s n x = f x := by rw [cpG, if_neg (by omega)]
theorem cpG_hi {α : Type} {f : Nat → α} {o s n x : Nat} (h : o + n ≤ x) : cpG f o s n x = f x := by rw [cpG, if_neg (by omega)]
theorem cpG_in {α : Type} {f : Nat → α} {o s n x y : Nat} (h : o ≤ x) (h2 : x < o + n) (hy : y = s + (x - o)) : cpG f o s n x = f y := by rw [cpG, if_pos ⟨h, h2⟩, hy]
theorem cpG_0 {α : Type} {f : Nat → α} {o s : Nat} : cpG f o s 0 = f := by funext x; rw [cpG, if_neg (by omega)]
theorem cpG_upd {f : Nat → Int32} {o s n x : Nat} {v : Int32} (hx : x = o + n) (hv : f (s + n) = v) : upd (cpG f o s n) x v = cpG f o s (n + 1) := by
  subst hx
  funext y
  by_cases h : y = o + n
  · subst h
    rw [pk_us, cpG, if_pos (by omega), show o + n - o = n from by omega]; exact hv.symm
  · rw [pk_un h]
    unfold cpG
    by_cases h2 : o ≤ y ∧ y < o + n
    · rw [if_pos h2, if_pos (by omega)]
    · rw [if_neg h2, if_neg (by omega)]
theorem cpG_updL {f : Nat → Int64} {o s n x : Nat} {v : Int64} (hx : x = o + n) (hv : f (s + n) = v) : vp_updL (cpG f o s n) x v = cpG f o s (n + 1) := by
  subst hx
  funext y
  by_cases h : y = o + n
  · subst h
    rw [pk_uLs, cpG, if_pos (by omega), show o + n - o = n from by omega]; exact hv.symm
  · rw [pk_uLn h]
    unfold cpG
    by_cases h2 : o ≤ y ∧ y < o + n
    · rw [if_pos h2, if_pos (by omega)]
    · rw [if_neg h2, if_neg (by omega)]
def orX (t : Int32) : Int64 := if t.toInt < 0 then 0 else bitF t
theorem or_orX (x y : Int64) (t : Int32) (h : -1 ≤ t.toInt) : (x ||| y) ||| orX t = x ||| orO y t := by
  unfold orX orO
  by_cases h1 : t.toInt < 0
  · rw [if_pos h1, if_pos (by omega), Int64.or_zero]
  · rw [if_neg h1, if_neg (by omega), Int64.or_assoc]
theorem tb_or (x : Int64) (a b c : Int32) (hb : -1 ≤ b.toInt) (hc : -1 ≤ c.toInt) : ((x ||| bitF a) ||| orX b) ||| orX c = x ||| tbF a b c := by rw [or_orX x (bitF a) b hb, or_orX x _ c hc]; rfl
theorem RelE.low {nb j n m : Nat} {E : Evs} {fs : Int32} {mac mtp : Nat → Int32} {mvl : Nat → Int64} {mse : Nat → Int32} (h : RelE (32 * j) n E fs mac mtp mvl mse) (hj : j < nb) (hn : n ≤ 32) : RelE (32 * j) n E fs (cpG mac (32 * nb) 1280 m) (cpG mtp (3 * (32 * nb)) 3840 (3 * m)) (cpG mvl (32 * nb) 1280 m) (cpG mse (32 * nb) 1280 m) := by
  intro i hi
  rw [cpG_lo (by omega), cpG_lo (by omega), cpG_lo (by omega), cpG_lo (by omega), cpG_lo (by omega), cpG_lo (by omega)]
  exact h i hi
theorem RelE.copy {nb n : Nat} {E : Evs} {fs : Int32} {mac mtp : Nat → Int32} {mvl : Nat → Int64} {mse : Nat → Int32} (h : RelE 1280 n E fs mac mtp mvl mse) : RelE (32 * nb) n E fs (cpG mac (32 * nb) 1280 n) (cpG mtp (3 * (32 * nb)) 3840 (3 * n)) (cpG mvl (32 * nb) 1280 n) (cpG mse (32 * nb) 1280 n) := by
  intro i hi
  rw [cpG_in (y := 1280 + i) (by omega) (by omega) (by omega), cpG_in (y := 3 * (1280 + i)) (by omega) (by omega) (by omega), cpG_in (y := 3 * (1280 + i) + 1) (by omega) (by omega) (by omega), cpG_in (y := 3 * (1280 + i) + 2) (by omega) (by omega) (by omega), cpG_in (y := 1280 + i) (by omega) (by omega) (by omega), cpG_in (y := 1280 + i) (by omega) (by omega) (by omega)]
  exact h i hi
abbrev newB (O : Bk) (cl : Int32) : Bk := (bN O, bKp O, cl, rootF (lfE (bE O)) (bN O), fbF (e1 (bE O)) (e2 (bE O)) (e3 (bE O)) (bN O), bE O)
theorem RelB.close {nb : Nat} {B : Nat → Bk} {O : Bk} {cl : Int32} {msz mpr : Nat → Int32} {mro mfi mfi1 : Nat → Int64} {mac mtp : Nat → Int32} {mvl : Nat → Int64} {mse : Nat → Int32} (h : RelB nb B msz mpr mro mfi mac mtp mvl mse) (hO : RelE 1280 (bN O) (bE O) cl mac mtp mvl mse) (hn : bN O ≤ 32) (hk : bKp O = 1) (h1 : mfi1 nb = fbF (e1 (bE O)) (e2 (bE O)) (e3 (bE O)) (bN O)) (h2 : ∀ x, x < nb → mfi1 x = mfi x) : RelB (nb + 1) (va_up B nb (newB O cl)) (upd msz nb (nI (bN O))) (upd mpr nb (nI 0)) (vp_updL mro nb (rootF (lfE (bE O)) (bN O))) mfi1 (cpG mac (32 * nb) 1280 (bN O)) (cpG mtp (3 * (32 * nb)) 3840 (3 * bN O)) (cpG mvl (32 * nb) 1280 (bN O)) (cpG mse (32 * nb) 1280 (bN O)) := by
  intro j hj
  by_cases hq : j = nb
  · subst hq
    rw [va_up_self, pk_us, pk_us, pk_uLs]
    refine ⟨rfl, hn, ⟨?_, ?_⟩, rfl, h1, hO.copy⟩
    · show (nI 0).toInt + (bKp O).toInt = 1; rw [hk]; decide
    · show (bKp O).toInt = 0 ∨ (bKp O).toInt = 1; rw [hk]; exact Or.inr (by decide)
  · obtain ⟨a1, a2, a3, a4, a5, a6⟩ := h j (by omega)
    rw [va_up_ne _ _ hq, pk_un hq, pk_un hq, pk_uLn hq, h2 j (by omega)]
    exact ⟨a1, a2, a3, a4, a5, a6.low (by omega) a2⟩
set_option maxHeartbeats 4000000 in
set_option maxRecDepth 100000 in
theorem l_X6_close1 {p : Program} {l : Launch} {e : Env} {s : State} {m : MethodId} {args : Array Value} {below : List Frame} {meth : Method} {c : Code} {Q : State → Prop} {D : va_G} {cA : Nat → ClassId} {base : Nat} {cw : Cond} (K : KX p m c cX6_close 7 s args cw RX6 D cA) (ad : Nat → Nat) (th cl : Int32) (nb d no ns : Nat) (mac mtp : Nat → Int32) (mvl : Nat → Int64) (mse : Nat → Int32) (mfi : Nat → Int64) (O : Bk) (hnb : nb < 40) (hOn : bN O ≤ 32) (hOE : RelE 1280 (bN O) (bE O) cl mac mtp mvl mse) (pic0 : PIC) (kx : ∀ (pic1 : PIC) (mfi1 : Nat → Int64), pic1 1000 = some (ad 1000, moE ad th nb cl (nI (bN O)) d no ns) → MEv pic1 cA ad (cpG mac (32 * nb) 1280 (bN O)) (cpG mtp (3 * (32 * nb)) 3840 (3 * (bN O))) (cpG mvl (32 * nb) 1280 (bN O)) (cpG mse (32 * nb) 1280 (bN O)) → pic1 1008 = some (ad 1008, .inl (cA 1, 41, .inr (.inl mfi1))) → mfi1 nb = fbF (e1 (bE O)) (e2 (bE O)) (e3 (bE O))  (bN O) → (∀ x, x < nb → mfi1 x = mfi x) → (∀ q, ¬ (1001 ≤ q ∧ q < 1005 ∨ q = 1008) → pic1 q = pic0 q) → V p l e { frames := 3, cells := 0, slots := 0, locals := 76 } s m args below meth c Q D base 7 pic1 (lvOf [(0, .ref (ad 1000)), (1, .int (nI nb))]) 185 [] 0 0) : ∀ (g i : Nat) (pic : PIC) (mfi1 : Nat → Int64), bN O - i < g → i ≤ bN O → pic 1000 = some (ad 1000, moE ad th nb cl (nI (bN O)) d no ns) → MEv pic cA ad (cpG mac (32 * nb) 1280 (i)) (cpG mtp (3 * (32 * nb)) 3840 (3 * (i))) (cpG mvl (32 * nb) 1280 (i)) (cpG mse (32 * nb) 1280 (i)) → pic 1008 = some (ad 1008, .inl (cA 1, 41, .inr (.inl mfi1))) → mfi1 nb = fbF (e1 (bE O)) (e2 (bE O)) (e3 (bE O))  i → (∀ x, x < nb → mfi1 x = mfi x) → (∀ q, ¬ (1001 ≤ q ∧ q < 1005 ∨ q = 1008) → pic q = pic0 q) → V p l e { frames := 3, cells := 0, slots := 0, locals := 76 } s m args below meth c Q D base 7 pic (lvOf [(0, .ref (ad 1000)), (1, .int (nI nb)), (2, .int (nI (i)))]) 53 [] 0 0 := by
  intro g
  induction g with
  | zero => intro i pic mfi1 h; omega
  | succ g ih =>
    intro i pic mfi1 hg hi fM hV mb4 hf1 hf2 FR
    obtain ⟨mv1, mv2, mv3, mv4⟩ := hV
    refine v_iload_n K 2 dX6_close_53 rfl rfl ?_
    refine v_aload_n K 0 dX6_close_54 rfl rfl ?_
    refine gf_X6_77 K dX6_close_55 fM rfl ?_
    refine v_icmp_ge K 185 dX6_close_58 (by decide) (nI_toInt (by omega)) (nI_toInt (by omega)) (fun c58 => ?_) (fun c58 => ?_)
    · obtain rfl : i = bN O := by omega
      refine v_at [(0, .ref (ad 1000)), (1, .int (nI nb))] (lcons rfl (lcons rfl (lnil))) ?_
      exact kx pic mfi1 fM ⟨mv1, mv2, mv3, mv4⟩ mb4 hf1 hf2 FR
    · obtain ⟨⟨q1, q2, q3, q4, q5, q6⟩, q7, q8, q9, q10⟩ := hOE i (by omega)
      unfold isTop at q7
      unfold isTopN at q8 q9
      refine v_bipush (v := nI 32) K dX6_close_61 (by decide) ?_
      refine v_iload_n K 1 dX6_close_63 rfl rfl ?_
      refine v_imulN K dX6_close_64 ?_
      refine v_iload_n K 2 dX6_close_65 rfl rfl ?_
      refine v_iaddN K dX6_close_66 ?_
      refine v_istore_n K 3 dX6_close_67 rfl (by decide) ?_
      refine v_sipush (v := nI 1280) K dX6_close_68 (by decide) ?_
      refine v_iload_n K 2 dX6_close_71 rfl rfl ?_
      refine v_iaddN K dX6_close_72 ?_
      refine v_istore K dX6_close_73 (by decide) ?_
      refine v_aload_n K 0 dX6_close_75 rfl rfl ?_
      refine gf_X6_7 K dX6_close_76 fM rfl ?_
      refine v_iload_n K 3 dX6_close_79 rfl rfl ?_
      refine v_aload_n K 0 dX6_close_80 rfl rfl ?_
      refine gf_X6_7 K dX6_close_81 fM rfl ?_
      refine v_iload K dX6_close_84 rfl ?_
      refine v_iald K dX6_close_86 mv1 (by omega) (by decide) ?_
      refine v_top (v := .int (eA (bE O) i)) (by rw [cpG_hi (by omega), q1]) ?_
      refine v_iast K dX6_close_87 mv1 (by omega) (by decide) (fun pic3 zg1 zf2 => ?_)
      replace fM := (zf2 _ (by omega)).trans fM
      replace mv1 := zg1
      replace mv2 := (zf2 _ (by omega)).trans mv2
      replace mv3 := (zf2 _ (by omega)).trans mv3
      replace mv4 := (zf2 _ (by omega)).trans mv4
      replace mb4 := (zf2 _ (by omega)).trans mb4
      have FR : ∀ q, ¬ (1001 ≤ q ∧ q < 1005 ∨ q = 1008) → pic3 q = pic0 q := fun q hq => (zf2 q (by omega)).trans (FR q hq)
      refine v_aload_n K 0 dX6_close_88 rfl rfl ?_
      refine gf_X6_16 K dX6_close_89 fM rfl ?_
      refine v_iload_n K 3 dX6_close_92 rfl rfl ?_
      refine v_aload_n K 0 dX6_close_93 rfl rfl ?_
      refine gf_X6_16 K dX6_close_94 fM rfl ?_
      refine v_iload K dX6_close_97 rfl ?_
      refine v_lald K dX6_close_99 mv3 (by omega) (by decide) ?_
      refine v_top (v := .long (eV (bE O) i)) (by rw [cpG_hi (by omega), q5]) ?_
      refine v_last K dX6_close_100 mv3 (by omega) (by decide) (fun pic6 zg4 zf5 => ?_)
      replace fM := (zf5 _ (by omega)).trans fM
      replace mv1 := (zf5 _ (by omega)).trans mv1
      replace mv2 := (zf5 _ (by omega)).trans mv2
      replace mv3 := zg4
      replace mv4 := (zf5 _ (by omega)).trans mv4
      replace mb4 := (zf5 _ (by omega)).trans mb4
      have FR : ∀ q, ¬ (1001 ≤ q ∧ q < 1005 ∨ q = 1008) → pic6 q = pic0 q := fun q hq => (zf5 q (by omega)).trans (FR q hq)
      refine v_aload_n K 0 dX6_close_101 rfl rfl ?_
      refine gf_X6_20 K dX6_close_102 fM rfl ?_
      refine v_iload_n K 3 dX6_close_105 rfl rfl ?_
      refine v_aload_n K 0 dX6_close_106 rfl rfl ?_
      refine gf_X6_20 K dX6_close_107 fM rfl ?_
      refine v_iload K dX6_close_110 rfl ?_
      refine v_iald K dX6_close_112 mv4 (by omega) (by decide) ?_
      refine v_top (v := .int (cl + nI i)) (by rw [cpG_hi (by omega), q6]) ?_
      refine v_iast K dX6_close_113 mv4 (by omega) (by decide) (fun pic9 zg7 zf8 => ?_)
      replace fM := (zf8 _ (by omega)).trans fM
      replace mv1 := (zf8 _ (by omega)).trans mv1
      replace mv2 := (zf8 _ (by omega)).trans mv2
      replace mv3 := (zf8 _ (by omega)).trans mv3
      replace mv4 := zg7
      replace mb4 := (zf8 _ (by omega)).trans mb4
      have FR : ∀ q, ¬ (1001 ≤ q ∧ q < 1005 ∨ q = 1008) → pic9 q = pic0 q := fun q hq => (zf8 q (by omega)).trans (FR q hq)
      refine v_iconst (v := nI 0) K dX6_close_114 (by decide) ?_
      refine v_istore K dX6_close_115 (by decide) ?_
      refine v_iload K dX6_close_117 rfl ?_
      refine v_iconst (v := nI 3) K dX6_close_119 (by decide) ?_
      refine v_icmp_ge K 179 dX6_close_120 (by decide) rfl rfl (fun c => absurd c (by decide)) (fun _ => ?_)
      refine v_aload_n K 0 dX6_close_123 rfl rfl ?_
      refine gf_X6_13 K dX6_close_124 fM rfl ?_
      refine v_iconst (v := nI 3) K dX6_close_127 (by decide) ?_
      refine v_iload K dX6_close_128 rfl ?_
      refine v_imulN K dX6_close_130 ?_
      refine v_iload K dX6_close_131 rfl ?_
      refine v_iaddN K dX6_close_133 ?_
      refine v_iald K dX6_close_134 mv2 (by omega) (by decide) ?_
      refine v_top (v := .int (e1 (bE O) i)) (by rw [cpG_hi (by omega)]; exact congrArg Value.int ((congrArg mtp (by omega)).trans q2)) ?_
      refine v_istore K dX6_close_135 (by decide) ?_
      refine v_aload_n K 0 dX6_close_137 rfl rfl ?_
      refine gf_X6_13 K dX6_close_138 fM rfl ?_
      refine v_iconst (v := nI 3) K dX6_close_141 (by decide) ?_
      refine v_iload_n K 3 dX6_close_142 rfl rfl ?_
      refine v_imulN K dX6_close_143 ?_
      refine v_iload K dX6_close_144 rfl ?_
      refine v_iaddN K dX6_close_146 ?_
      refine v_iload K dX6_close_147 rfl ?_
      refine v_iast K dX6_close_149 mv2 (by omega) (by decide) (fun pic12 zg10 zf11 => ?_)
      replace fM := (zf11 _ (by omega)).trans fM
      replace mv1 := (zf11 _ (by omega)).trans mv1
      replace mv2 := zg10
      replace mv3 := (zf11 _ (by omega)).trans mv3
      replace mv4 := (zf11 _ (by omega)).trans mv4
      replace mb4 := (zf11 _ (by omega)).trans mb4
      have FR : ∀ q, ¬ (1001 ≤ q ∧ q < 1005 ∨ q = 1008) → pic12 q = pic0 q := fun q hq => (zf11 q (by omega)).trans (FR q hq)
      refine v_aload_n K 0 dX6_close_150 rfl rfl ?_
      refine gf_X6_33 K dX6_close_151 fM rfl ?_
      refine v_iload_n K 1 dX6_close_154 rfl rfl ?_
      refine v_dup2 K dX6_close_155 rfl rfl ?_
      refine v_lald K dX6_close_156 mb4 (by omega) (by decide) ?_
      refine v_iload K dX6_close_157 rfl ?_
      refine v_if_ge K 166 dX6_close_159 (by decide) rfl (fun c159 => ?_) (fun c159 => absurd c159 (by omega))
      refine v_iload K dX6_close_166 rfl ?_
      refine cl_X6_122 K dX6_close_168 (c_X6_bitsOf l D cA base pic12 _) rfl rfl ⟨by decide, by decide⟩ (Nat.le_of_ble_eq_true rfl) ⟨by decide, by decide⟩ (fun x168 pic13 hx14 => ?_)
      obtain ⟨rfl, rfl⟩ := hx14
      refine v_lor K dX6_close_171 ?_
      refine v_last K dX6_close_172 mb4 (by omega) (by decide) (fun pic17 zg15 zf16 => ?_)
      replace fM := (zf16 _ (by omega)).trans fM
      replace mv1 := (zf16 _ (by omega)).trans mv1
      replace mv2 := (zf16 _ (by omega)).trans mv2
      replace mv3 := (zf16 _ (by omega)).trans mv3
      replace mv4 := (zf16 _ (by omega)).trans mv4
      replace mb4 := zg15
      have FR : ∀ q, ¬ (1001 ≤ q ∧ q < 1005 ∨ q = 1008) → pic17 q = pic0 q := fun q hq => (zf16 q (by omega)).trans (FR q hq)
      refine v_iincN K 1 dX6_close_173 rfl (by decide) (by decide) ?_
      refine v_goto K 117 dX6_close_176 (by decide) ?_
      refine v_iload K dX6_close_117 rfl ?_
      refine v_iconst (v := nI 3) K dX6_close_119 (by decide) ?_
      refine v_icmp_ge K 179 dX6_close_120 (by decide) rfl rfl (fun c => absurd c (by decide)) (fun _ => ?_)
      refine v_aload_n K 0 dX6_close_123 rfl rfl ?_
      refine gf_X6_13 K dX6_close_124 fM rfl ?_
      refine v_iconst (v := nI 3) K dX6_close_127 (by decide) ?_
      refine v_iload K dX6_close_128 rfl ?_
      refine v_imulN K dX6_close_130 ?_
      refine v_iload K dX6_close_131 rfl ?_
      refine v_iaddN K dX6_close_133 ?_
      refine v_iald K dX6_close_134 mv2 (by omega) (by decide) ?_
      refine v_top (v := .int (e2 (bE O) i)) (by rw [pk_un (by omega), cpG_hi (by omega)]; exact congrArg Value.int ((congrArg mtp (by omega)).trans q3)) ?_
      refine v_istore K dX6_close_135 (by decide) ?_
      refine v_aload_n K 0 dX6_close_137 rfl rfl ?_
      refine gf_X6_13 K dX6_close_138 fM rfl ?_
      refine v_iconst (v := nI 3) K dX6_close_141 (by decide) ?_
      refine v_iload_n K 3 dX6_close_142 rfl rfl ?_
      refine v_imulN K dX6_close_143 ?_
      refine v_iload K dX6_close_144 rfl ?_
      refine v_iaddN K dX6_close_146 ?_
      refine v_iload K dX6_close_147 rfl ?_
      refine v_iast K dX6_close_149 mv2 (by omega) (by decide) (fun pic20 zg18 zf19 => ?_)
      replace fM := (zf19 _ (by omega)).trans fM
      replace mv1 := (zf19 _ (by omega)).trans mv1
      replace mv2 := zg18
      replace mv3 := (zf19 _ (by omega)).trans mv3
      replace mv4 := (zf19 _ (by omega)).trans mv4
      replace mb4 := (zf19 _ (by omega)).trans mb4
      have FR : ∀ q, ¬ (1001 ≤ q ∧ q < 1005 ∨ q = 1008) → pic20 q = pic0 q := fun q hq => (zf19 q (by omega)).trans (FR q hq)
      refine v_aload_n K 0 dX6_close_150 rfl rfl ?_
      refine gf_X6_33 K dX6_close_151 fM rfl ?_
      refine v_iload_n K 1 dX6_close_154 rfl rfl ?_
      refine v_dup2 K dX6_close_155 rfl rfl ?_
      refine v_lald K dX6_close_156 mb4 (by omega) (by decide) ?_
      refine v_iload K dX6_close_157 rfl ?_
      refine v_if_ge K 166 dX6_close_159 (by decide) rfl (fun c159 => ?_) (fun c159 => ?_)
      · refine v_iload K dX6_close_166 rfl ?_
        refine cl_X6_122 K dX6_close_168 (c_X6_bitsOf l D cA base pic20 _) rfl rfl ⟨by decide, by decide⟩ (Nat.le_of_ble_eq_true rfl) ⟨by decide, by decide⟩ (fun x168 pic21 hx22 => ?_)
        obtain ⟨rfl, rfl⟩ := hx22
        refine v_top (v := .long (orX (e2 (bE O) i))) (by rw [orX, if_neg (by omega)]) ?_
        refine v_lor K dX6_close_171 ?_
        refine v_last K dX6_close_172 mb4 (by omega) (by decide) (fun pic25 zg23 zf24 => ?_)
        replace fM := (zf24 _ (by omega)).trans fM
        replace mv1 := (zf24 _ (by omega)).trans mv1
        replace mv2 := (zf24 _ (by omega)).trans mv2
        replace mv3 := (zf24 _ (by omega)).trans mv3
        replace mv4 := (zf24 _ (by omega)).trans mv4
        replace mb4 := zg23
        have FR : ∀ q, ¬ (1001 ≤ q ∧ q < 1005 ∨ q = 1008) → pic25 q = pic0 q := fun q hq => (zf24 q (by omega)).trans (FR q hq)
        refine v_iincN K 1 dX6_close_173 rfl (by decide) (by decide) ?_
        refine v_goto K 117 dX6_close_176 (by decide) ?_
        refine v_iload K dX6_close_117 rfl ?_
        refine v_iconst (v := nI 3) K dX6_close_119 (by decide) ?_
        refine v_icmp_ge K 179 dX6_close_120 (by decide) rfl rfl (fun c => absurd c (by decide)) (fun _ => ?_)
        refine v_aload_n K 0 dX6_close_123 rfl rfl ?_
        refine gf_X6_13 K dX6_close_124 fM rfl ?_
        refine v_iconst (v := nI 3) K dX6_close_127 (by decide) ?_
        refine v_iload K dX6_close_128 rfl ?_
        refine v_imulN K dX6_close_130 ?_
        refine v_iload K dX6_close_131 rfl ?_
        refine v_iaddN K dX6_close_133 ?_
        refine v_iald K dX6_close_134 mv2 (by omega) (by decide) ?_
        refine v_top (v := .int (e3 (bE O) i)) (by rw [pk_un (by omega), pk_un (by omega), cpG_hi (by omega)]; exact congrArg Value.int ((congrArg mtp (by omega)).trans q4)) ?_
        refine v_istore K dX6_close_135 (by decide) ?_
        refine v_aload_n K 0 dX6_close_137 rfl rfl ?_
        refine gf_X6_13 K dX6_close_138 fM rfl ?_
        refine v_iconst (v := nI 3) K dX6_close_141 (by decide) ?_
        refine v_iload_n K 3 dX6_close_142 rfl rfl ?_
        refine v_imulN K dX6_close_143 ?_
        refine v_iload K dX6_close_144 rfl ?_
        refine v_iaddN K dX6_close_146 ?_
        refine v_iload K dX6_close_147 rfl ?_
        refine v_iast K dX6_close_149 mv2 (by omega) (by decide) (fun pic28 zg26 zf27 => ?_)
        replace fM := (zf27 _ (by omega)).trans fM
        replace mv1 := (zf27 _ (by omega)).trans mv1
        replace mv2 := zg26
        replace mv3 := (zf27 _ (by omega)).trans mv3
        replace mv4 := (zf27 _ (by omega)).trans mv4
        replace mb4 := (zf27 _ (by omega)).trans mb4
        have FR : ∀ q, ¬ (1001 ≤ q ∧ q < 1005 ∨ q = 1008) → pic28 q = pic0 q := fun q hq => (zf27 q (by omega)).trans (FR q hq)
        refine v_aload_n K 0 dX6_close_150 rfl rfl ?_
        refine gf_X6_33 K dX6_close_151 fM rfl ?_
        refine v_iload_n K 1 dX6_close_154 rfl rfl ?_
        refine v_dup2 K dX6_close_155 rfl rfl ?_
        refine v_lald K dX6_close_156 mb4 (by omega) (by decide) ?_
        refine v_iload K dX6_close_157 rfl ?_
        refine v_if_ge K 166 dX6_close_159 (by decide) rfl (fun c159 => ?_) (fun c159 => ?_)
        · refine v_iload K dX6_close_166 rfl ?_
          refine cl_X6_122 K dX6_close_168 (c_X6_bitsOf l D cA base pic28 _) rfl rfl ⟨by decide, by decide⟩ (Nat.le_of_ble_eq_true rfl) ⟨by decide, by decide⟩ (fun x168 pic29 hx30 => ?_)
          obtain ⟨rfl, rfl⟩ := hx30
          refine v_top (v := .long (orX (e3 (bE O) i))) (by rw [orX, if_neg (by omega)]) ?_
          refine v_lor K dX6_close_171 ?_
          refine v_last K dX6_close_172 mb4 (by omega) (by decide) (fun pic33 zg31 zf32 => ?_)
          replace fM := (zf32 _ (by omega)).trans fM
          replace mv1 := (zf32 _ (by omega)).trans mv1
          replace mv2 := (zf32 _ (by omega)).trans mv2
          replace mv3 := (zf32 _ (by omega)).trans mv3
          replace mv4 := (zf32 _ (by omega)).trans mv4
          replace mb4 := zg31
          have FR : ∀ q, ¬ (1001 ≤ q ∧ q < 1005 ∨ q = 1008) → pic33 q = pic0 q := fun q hq => (zf32 q (by omega)).trans (FR q hq)
          refine v_iincN K 1 dX6_close_173 rfl (by decide) (by decide) ?_
          refine v_goto K 117 dX6_close_176 (by decide) ?_
          refine v_iload K dX6_close_117 rfl ?_
          refine v_iconst (v := nI 3) K dX6_close_119 (by decide) ?_
          refine v_icmp_ge K 179 dX6_close_120 (by decide) rfl rfl (fun _ => ?_) (fun c => absurd c (by decide))
          refine v_iincN K 1 dX6_close_179 rfl (by decide) (by decide) ?_
          refine v_goto K 53 dX6_close_182 (by decide) ?_
          have z0 : mtp (3840 + 3 * i) = e1 (bE O) i := (congrArg mtp (by omega)).trans q2
          have z1 : mtp (3840 + (3 * i + 1)) = e2 (bE O) i := (congrArg mtp (by omega)).trans q3
          have z2 : mtp (3840 + (3 * i + 1 + 1)) = e3 (bE O) i := (congrArg mtp (by omega)).trans q4
          rw [cpG_upd (by omega) z0, cpG_upd (by omega) z1, cpG_upd (by omega) z2] at mv2
          rw [cpG_upd rfl q1] at mv1
          rw [cpG_updL rfl q5] at mv3
          rw [cpG_upd rfl q6] at mv4
          refine v_at [(0, .ref (ad 1000)), (1, .int (nI nb)), (2, .int (nI (i + 1)))] (lcons rfl (lcons rfl (lcons rfl (lnil)))) ?_
          exact ih (i + 1) pic33 _ (by omega) (by omega) fM ⟨mv1, by rw [show 3 * (i + 1) = 3 * i + 1 + 1 + 1 from by omega]; exact mv2, mv3, mv4⟩ mb4 (by simp only [pk_uLs]; rw [hf1, tb_or _ _ _ _ q8.1 q9.1]; rfl) (fun x hx => by rw [pk_uLn (by omega), pk_uLn (by omega), pk_uLn (by omega)]; exact hf2 x hx) FR
        · refine v_lconst (v := 0) K dX6_close_162 (by decide) ?_
          refine v_goto K 171 dX6_close_163 (by decide) ?_
          refine v_top (v := .long (orX (e3 (bE O) i))) (by rw [orX, if_pos (by omega)]) ?_
          refine v_lor K dX6_close_171 ?_
          refine v_last K dX6_close_172 mb4 (by omega) (by decide) (fun pic36 zg34 zf35 => ?_)
          replace fM := (zf35 _ (by omega)).trans fM
          replace mv1 := (zf35 _ (by omega)).trans mv1
          replace mv2 := (zf35 _ (by omega)).trans mv2
          replace mv3 := (zf35 _ (by omega)).trans mv3
          replace mv4 := (zf35 _ (by omega)).trans mv4
          replace mb4 := zg34
          have FR : ∀ q, ¬ (1001 ≤ q ∧ q < 1005 ∨ q = 1008) → pic36 q = pic0 q := fun q hq => (zf35 q (by omega)).trans (FR q hq)
          refine v_iincN K 1 dX6_close_173 rfl (by decide) (by decide) ?_
          refine v_goto K 117 dX6_close_176 (by decide) ?_
          refine v_iload K dX6_close_117 rfl ?_
          refine v_iconst (v := nI 3) K dX6_close_119 (by decide) ?_
          refine v_icmp_ge K 179 dX6_close_120 (by decide) rfl rfl (fun _ => ?_) (fun c => absurd c (by decide))
          refine v_iincN K 1 dX6_close_179 rfl (by decide) (by decide) ?_
          refine v_goto K 53 dX6_close_182 (by decide) ?_
          have z0 : mtp (3840 + 3 * i) = e1 (bE O) i := (congrArg mtp (by omega)).trans q2
          have z1 : mtp (3840 + (3 * i + 1)) = e2 (bE O) i := (congrArg mtp (by omega)).trans q3
          have z2 : mtp (3840 + (3 * i + 1 + 1)) = e3 (bE O) i := (congrArg mtp (by omega)).trans q4
          rw [cpG_upd (by omega) z0, cpG_upd (by omega) z1, cpG_upd (by omega) z2] at mv2
          rw [cpG_upd rfl q1] at mv1
          rw [cpG_updL rfl q5] at mv3
          rw [cpG_upd rfl q6] at mv4
          refine v_at [(0, .ref (ad 1000)), (1, .int (nI nb)), (2, .int (nI (i + 1)))] (lcons rfl (lcons rfl (lcons rfl (lnil)))) ?_
          exact ih (i + 1) pic36 _ (by omega) (by omega) fM ⟨mv1, by rw [show 3 * (i + 1) = 3 * i + 1 + 1 + 1 from by omega]; exact mv2, mv3, mv4⟩ mb4 (by simp only [pk_uLs]; rw [hf1, tb_or _ _ _ _ q8.1 q9.1]; rfl) (fun x hx => by rw [pk_uLn (by omega), pk_uLn (by omega), pk_uLn (by omega)]; exact hf2 x hx) FR
      · refine v_lconst (v := 0) K dX6_close_162 (by decide) ?_
        refine v_goto K 171 dX6_close_163 (by decide) ?_
        refine v_top (v := .long (orX (e2 (bE O) i))) (by rw [orX, if_pos (by omega)]) ?_
        refine v_lor K dX6_close_171 ?_
        refine v_last K dX6_close_172 mb4 (by omega) (by decide) (fun pic39 zg37 zf38 => ?_)
        replace fM := (zf38 _ (by omega)).trans fM
        replace mv1 := (zf38 _ (by omega)).trans mv1
        replace mv2 := (zf38 _ (by omega)).trans mv2
        replace mv3 := (zf38 _ (by omega)).trans mv3
        replace mv4 := (zf38 _ (by omega)).trans mv4
        replace mb4 := zg37
        have FR : ∀ q, ¬ (1001 ≤ q ∧ q < 1005 ∨ q = 1008) → pic39 q = pic0 q := fun q hq => (zf38 q (by omega)).trans (FR q hq)
        refine v_iincN K 1 dX6_close_173 rfl (by decide) (by decide) ?_
        refine v_goto K 117 dX6_close_176 (by decide) ?_
        refine v_iload K dX6_close_117 rfl ?_
        refine v_iconst (v := nI 3) K dX6_close_119 (by decide) ?_
        refine v_icmp_ge K 179 dX6_close_120 (by decide) rfl rfl (fun c => absurd c (by decide)) (fun _ => ?_)
        refine v_aload_n K 0 dX6_close_123 rfl rfl ?_
        refine gf_X6_13 K dX6_close_124 fM rfl ?_
        refine v_iconst (v := nI 3) K dX6_close_127 (by decide) ?_
        refine v_iload K dX6_close_128 rfl ?_
        refine v_imulN K dX6_close_130 ?_
        refine v_iload K dX6_close_131 rfl ?_
        refine v_iaddN K dX6_close_133 ?_
        refine v_iald K dX6_close_134 mv2 (by omega) (by decide) ?_
        refine v_top (v := .int (e3 (bE O) i)) (by rw [pk_un (by omega), pk_un (by omega), cpG_hi (by omega)]; exact congrArg Value.int ((congrArg mtp (by omega)).trans q4)) ?_
        refine v_istore K dX6_close_135 (by decide) ?_
        refine v_aload_n K 0 dX6_close_137 rfl rfl ?_
        refine gf_X6_13 K dX6_close_138 fM rfl ?_
        refine v_iconst (v := nI 3) K dX6_close_141 (by decide) ?_
        refine v_iload_n K 3 dX6_close_142 rfl rfl ?_
        refine v_imulN K dX6_close_143 ?_
        refine v_iload K dX6_close_144 rfl ?_
        refine v_iaddN K dX6_close_146 ?_
        refine v_iload K dX6_close_147 rfl ?_
        refine v_iast K dX6_close_149 mv2 (by omega) (by decide) (fun pic42 zg40 zf41 => ?_)
        replace fM := (zf41 _ (by omega)).trans fM
        replace mv1 := (zf41 _ (by omega)).trans mv1
        replace mv2 := zg40
        replace mv3 := (zf41 _ (by omega)).trans mv3
        replace mv4 := (zf41 _ (by omega)).trans mv4
        replace mb4 := (zf41 _ (by omega)).trans mb4
        have FR : ∀ q, ¬ (1001 ≤ q ∧ q < 1005 ∨ q = 1008) → pic42 q = pic0 q := fun q hq => (zf41 q (by omega)).trans (FR q hq)
        refine v_aload_n K 0 dX6_close_150 rfl rfl ?_
        refine gf_X6_33 K dX6_close_151 fM rfl ?_
        refine v_iload_n K 1 dX6_close_154 rfl rfl ?_
        refine v_dup2 K dX6_close_155 rfl rfl ?_
        refine v_lald K dX6_close_156 mb4 (by omega) (by decide) ?_
        refine v_iload K dX6_close_157 rfl ?_
        refine v_if_ge K 166 dX6_close_159 (by decide) rfl (fun c159 => ?_) (fun c159 => ?_)
        · refine v_iload K dX6_close_166 rfl ?_
          refine cl_X6_122 K dX6_close_168 (c_X6_bitsOf l D cA base pic42 _) rfl rfl ⟨by decide, by decide⟩ (Nat.le_of_ble_eq_true rfl) ⟨by decide, by decide⟩ (fun x168 pic43 hx44 => ?_)
          obtain ⟨rfl, rfl⟩ := hx44
          refine v_top (v := .long (orX (e3 (bE O) i))) (by rw [orX, if_neg (by omega)]) ?_
          refine v_lor K dX6_close_171 ?_
          refine v_last K dX6_close_172 mb4 (by omega) (by decide) (fun pic47 zg45 zf46 => ?_)
          replace fM := (zf46 _ (by omega)).trans fM
          replace mv1 := (zf46 _ (by omega)).trans mv1
          replace mv2 := (zf46 _ (by omega)).trans mv2
          replace mv3 := (zf46 _ (by omega)).trans mv3
          replace mv4 := (zf46 _ (by omega)).trans mv4
          replace mb4 := zg45
          have FR : ∀ q, ¬ (1001 ≤ q ∧ q < 1005 ∨ q = 1008) → pic47 q = pic0 q := fun q hq => (zf46 q (by omega)).trans (FR q hq)
          refine v_iincN K 1 dX6_close_173 rfl (by decide) (by decide) ?_
          refine v_goto K 117 dX6_close_176 (by decide) ?_
          refine v_iload K dX6_close_117 rfl ?_
          refine v_iconst (v := nI 3) K dX6_close_119 (by decide) ?_
          refine v_icmp_ge K 179 dX6_close_120 (by decide) rfl rfl (fun _ => ?_) (fun c => absurd c (by decide))
          refine v_iincN K 1 dX6_close_179 rfl (by decide) (by decide) ?_
          refine v_goto K 53 dX6_close_182 (by decide) ?_
          have z0 : mtp (3840 + 3 * i) = e1 (bE O) i := (congrArg mtp (by omega)).trans q2
          have z1 : mtp (3840 + (3 * i + 1)) = e2 (bE O) i := (congrArg mtp (by omega)).trans q3
          have z2 : mtp (3840 + (3 * i + 1 + 1)) = e3 (bE O) i := (congrArg mtp (by omega)).trans q4
          rw [cpG_upd (by omega) z0, cpG_upd (by omega) z1, cpG_upd (by omega) z2] at mv2
          rw [cpG_upd rfl q1] at mv1
          rw [cpG_updL rfl q5] at mv3
          rw [cpG_upd rfl q6] at mv4
          refine v_at [(0, .ref (ad 1000)), (1, .int (nI nb)), (2, .int (nI (i + 1)))] (lcons rfl (lcons rfl (lcons rfl (lnil)))) ?_
          exact ih (i + 1) pic47 _ (by omega) (by omega) fM ⟨mv1, by rw [show 3 * (i + 1) = 3 * i + 1 + 1 + 1 from by omega]; exact mv2, mv3, mv4⟩ mb4 (by simp only [pk_uLs]; rw [hf1, tb_or _ _ _ _ q8.1 q9.1]; rfl) (fun x hx => by rw [pk_uLn (by omega), pk_uLn (by omega), pk_uLn (by omega)]; exact hf2 x hx) FR
        · refine v_lconst (v := 0) K dX6_close_162 (by decide) ?_
          refine v_goto K 171 dX6_close_163 (by decide) ?_
          refine v_top (v := .long (orX (e3 (bE O) i))) (by rw [orX, if_pos (by omega)]) ?_
          refine v_lor K dX6_close_171 ?_
          refine v_last K dX6_close_172 mb4 (by omega) (by decide) (fun pic50 zg48 zf49 => ?_)
          replace fM := (zf49 _ (by omega)).trans fM
          replace mv1 := (zf49 _ (by omega)).trans mv1
          replace mv2 := (zf49 _ (by omega)).trans mv2
          replace mv3 := (zf49 _ (by omega)).trans mv3
          replace mv4 := (zf49 _ (by omega)).trans mv4
          replace mb4 := zg48
          have FR : ∀ q, ¬ (1001 ≤ q ∧ q < 1005 ∨ q = 1008) → pic50 q = pic0 q := fun q hq => (zf49 q (by omega)).trans (FR q hq)
          refine v_iincN K 1 dX6_close_173 rfl (by decide) (by decide) ?_
          refine v_goto K 117 dX6_close_176 (by decide) ?_
          refine v_iload K dX6_close_117 rfl ?_
          refine v_iconst (v := nI 3) K dX6_close_119 (by decide) ?_
          refine v_icmp_ge K 179 dX6_close_120 (by decide) rfl rfl (fun _ => ?_) (fun c => absurd c (by decide))
          refine v_iincN K 1 dX6_close_179 rfl (by decide) (by decide) ?_
          refine v_goto K 53 dX6_close_182 (by decide) ?_
          have z0 : mtp (3840 + 3 * i) = e1 (bE O) i := (congrArg mtp (by omega)).trans q2
          have z1 : mtp (3840 + (3 * i + 1)) = e2 (bE O) i := (congrArg mtp (by omega)).trans q3
          have z2 : mtp (3840 + (3 * i + 1 + 1)) = e3 (bE O) i := (congrArg mtp (by omega)).trans q4
          rw [cpG_upd (by omega) z0, cpG_upd (by omega) z1, cpG_upd (by omega) z2] at mv2
          rw [cpG_upd rfl q1] at mv1
          rw [cpG_updL rfl q5] at mv3
          rw [cpG_upd rfl q6] at mv4
          refine v_at [(0, .ref (ad 1000)), (1, .int (nI nb)), (2, .int (nI (i + 1)))] (lcons rfl (lcons rfl (lcons rfl (lnil)))) ?_
          exact ih (i + 1) pic50 _ (by omega) (by omega) fM ⟨mv1, by rw [show 3 * (i + 1) = 3 * i + 1 + 1 + 1 from by omega]; exact mv2, mv3, mv4⟩ mb4 (by simp only [pk_uLs]; rw [hf1, tb_or _ _ _ _ q8.1 q9.1]; rfl) (fun x hx => by rw [pk_uLn (by omega), pk_uLn (by omega), pk_uLn (by omega)]; exact hf2 x hx) FR

set_option maxHeartbeats 4000000 in
set_option maxRecDepth 100000 in
theorem l_X6_close2 {p : Program} {l : Launch} {e : Env} {s : State} {m : MethodId} {args : Array Value} {below : List Frame} {meth : Method} {c : Code} {Q : State → Prop} {D : va_G} {cA : Nat → ClassId} {base : Nat} {cw : Cond} (K : KX p m c cX6_close 7 s args cw RX6 D cA) (ad : Nat → Nat) (th cl : Int32) (nb d no ns : Nat) (O : Bk) (hOn : bN O ≤ 32) (pic0 : PIC) (kx : ∀ (pic1 : PIC) (row : Nat → Int64), MLev pic1 cA ad row → (0 < bN O → row 0 = lvF (lfE (bE O)) (bN O) 5 0) → (∀ q, ¬ (q = 1023) → pic1 q = pic0 q) → V p l e { frames := 3, cells := 0, slots := 0, locals := 76 } s m args below meth c Q D base 7 pic1 (lvOf [(0, .ref (ad 1000)), (1, .int (nI nb))]) 209 [] 0 0) : ∀ (g k : Nat) (pic : PIC) (row : Nat → Int64), 5 - k < g → k ≤ 5 → pic 1000 = some (ad 1000, moE ad th nb cl (nI (bN O)) d no ns) → MLev pic cA ad row → (∀ j, j < wF (bN O) k → row j = lvF (lfE (bE O)) (bN O) k j) → (∀ q, ¬ (q = 1023) → pic q = pic0 q) → V p l e { frames := 3, cells := 0, slots := 0, locals := 76 } s m args below meth c Q D base 7 pic (lvOf [(0, .ref (ad 1000)), (1, .int (nI nb)), (2, .int (nI (wF (bN O) k)))]) 195 [] 0 0 := by
  intro g
  induction g with
  | zero => intro k pic row h; omega
  | succ g ih =>
    intro k pic row hg hk5 fM my1 hrow FR
    unfold MLev at my1
    have hw := wF_le (bN O) k
    refine v_iload_n K 2 dX6_close_195 rfl rfl ?_
    refine v_iconst (v := nI 1) K dX6_close_196 (by decide) ?_
    refine v_icmp_le K 209 dX6_close_197 (by decide) (nI_toInt (by omega)) (nI_toInt (by omega)) (fun c197 => ?_) (fun c197 => ?_)
    · have hw1 : wF (bN O) k ≤ 1 := by omega
      refine v_at [(0, .ref (ad 1000)), (1, .int (nI nb))] (lcons rfl (lcons rfl (lnil))) ?_
      exact kx pic row my1 (fun h0 => by
        have h5 := lvF_stop (f := (lfE (bE O))) hw1 (5 - k)
        rw [show k + (5 - k) = 5 from by omega] at h5
        rw [h5]
        exact hrow 0 (wF_0 h0 k)) FR
    · have hk4 : k < 5 := by
        have h5 := wF5 (n := bN O) hOn
        by_cases h6 : k = 5
        · rw [h6] at c197; omega
        · omega
      refine v_aload_n K 0 dX6_close_200 rfl rfl ?_
      refine v_iload_n K 2 dX6_close_201 rfl rfl ?_
      refine cl_X6_130 K dX6_close_202 fM (c_X6_rises l D cA base pic ad th cl _ nb d no ns (wF (bN O) k) row fM my1 (by omega)) rfl rfl ⟨by decide, by decide⟩ (Nat.le_of_ble_eq_true rfl) ⟨by decide, by decide⟩ (fun x202 pic1 hx2 => ?_)
      obtain ⟨rfl, ⟨row1, k1, hk⟩, kf⟩ := hx2
      replace fM := (kf _ (by omega)).trans fM
      replace my1 := k1
      have FR : ∀ q, ¬ (q = 1023) → pic1 q = pic0 q := fun q hq => (kf q (by omega)).trans (FR q hq)
      have hrow1 : ∀ j, j < wF (bN O) (k + 1) → row1 j = lvF (lfE (bE O)) (bN O) (k + 1) j := fun j hj => (hk j hj).trans (rise_agree hrow j hj)
      refine v_istore_n K 2 dX6_close_205 rfl (by decide) ?_
      refine v_goto K 195 dX6_close_206 (by decide) ?_
      refine v_at [(0, .ref (ad 1000)), (1, .int (nI nb)), (2, .int (nI (wF (bN O) (k + 1))))] (lcons rfl (lcons rfl (lcons rfl (lnil)))) ?_
      exact ih (k + 1) pic1 row1 (by omega) (by omega) fM my1 hrow1 FR

set_option maxHeartbeats 4000000 in
set_option maxRecDepth 100000 in
theorem c_X6_close (l : Launch) (D : va_G) (cA : Nat → ClassId) (base : Nat) (pic : PIC) (ad : Nat → Nat) (th cl : Int32) (nb d no ns : Nat) (mac mtp : Nat → Int32) (mvl : Nat → Int64) (mse : Nat → Int32) (msz mpr : Nat → Int32) (mro mfi : Nat → Int64) (B : Nat → Bk) (mlv : Nat → Int64) (O : Bk) (fM : pic 1000 = some (ad 1000, moE ad th nb cl (nI (bN O)) d no ns)) (hV : MEv pic cA ad mac mtp mvl mse) (hBl : MBl pic cA ad msz mpr mro mfi) (hB : RelB nb B msz mpr mro mfi mac mtp mvl mse) (hnb : nb ≤ 40) (my1 : MLev pic cA ad mlv) (hd : d ≤ 8) (hOn : bN O ≤ 32) (hOk : bKp O = 1) (hOE : RelE 1280 (bN O) (bE O) cl mac mtp mvl mse)  : CI l yX6_close cX6_close 7 (some .int) { frames := 3, cells := 0, slots := 0, locals := 76 } 0 0 D cA base pic [.ref (ad 1000)] (fun x9 pic1 => (x9 = -2 ∧ 0 < d ∧ pic = pic1) ∨ (x9 = -3 ∧ d = 0 ∧ 40 ≤ nb ∧ pic = pic1) ∨ (d = 0 ∧ nb < 40 ∧ x9 = nI nb ∧ pic1 1000 = some (ad 1000, moE ad th (nb + 1) (cl + nI (bN O)) 0 d no ns) ∧ (∃ mac1 mtp1 mvl1 mse1 msz1 mpr1 mro1 mfi1, MEv pic1 cA ad mac1 mtp1 mvl1 mse1 ∧ MBl pic1 cA ad msz1 mpr1 mro1 mfi1 ∧ RelB (nb + 1) (va_up B nb (newB O cl)) msz1 mpr1 mro1 mfi1 mac1 mtp1 mvl1 mse1) ∧ (∃ g, MLev pic1 cA ad g) ∧ ∀ q, ¬ (1000 ≤ q ∧ q < 1009 ∨ q = 1023) → pic1 q = pic q)) := by
  refine ofI (by decide) (Nat.le_of_ble_eq_true rfl) ?_
  intro p e s m below meth c K hr hlk hnm
  have FR : ∀ q, ¬ (1000 ≤ q ∧ q < 1009 ∨ q = 1023) → pic q = pic q := fun _ _ => rfl
  unfold MLev at my1
  have ⟨mv1, mv2, mv3, mv4⟩ := hV
  have ⟨mb1, mb2, mb3, mb4⟩ := hBl
  refine v_aload_n K 0 dX6_close_0 rfl rfl ?_
  refine gf_X6_74 K dX6_close_1 fM rfl ?_
  refine v_if_le K 10 dX6_close_4 (by decide) (nI_toInt (by omega)) (fun c4 => ?_) (fun c4 => ?_)
  · refine v_aload_n K 0 dX6_close_10 rfl rfl ?_
    refine gf_X6_67 K dX6_close_11 fM rfl ?_
    refine v_bipush (v := nI 40) K dX6_close_14 (by decide) ?_
    refine v_icmp_ne K 22 dX6_close_16 (by decide) (nI_toInt (by omega)) (nI_toInt (by omega)) (fun c16 => ?_) (fun c16 => ?_)
    · have hnb40 : nb < 40 := by omega
      refine v_aload_n K 0 dX6_close_22 rfl rfl ?_
      refine gf_X6_67 K dX6_close_23 fM rfl ?_
      refine v_istore_n K 1 dX6_close_26 rfl (by decide) ?_
      refine v_aload_n K 0 dX6_close_27 rfl rfl ?_
      refine gf_X6_23 K dX6_close_28 fM rfl ?_
      refine v_iload_n K 1 dX6_close_31 rfl rfl ?_
      refine v_aload_n K 0 dX6_close_32 rfl rfl ?_
      refine gf_X6_77 K dX6_close_33 fM rfl ?_
      refine v_iast K dX6_close_36 mb1 (by omega) (by decide) (fun pic3 zg1 zf2 => ?_)
      replace fM := (zf2 _ (by omega)).trans fM
      replace mv1 := (zf2 _ (by omega)).trans mv1
      replace mv2 := (zf2 _ (by omega)).trans mv2
      replace mv3 := (zf2 _ (by omega)).trans mv3
      replace mv4 := (zf2 _ (by omega)).trans mv4
      replace mb1 := zg1
      replace mb2 := (zf2 _ (by omega)).trans mb2
      replace mb3 := (zf2 _ (by omega)).trans mb3
      replace mb4 := (zf2 _ (by omega)).trans mb4
      replace my1 := (zf2 _ (by omega)).trans my1
      have FR : ∀ q, ¬ (1000 ≤ q ∧ q < 1009 ∨ q = 1023) → pic3 q = pic q := fun q hq => (zf2 q (by omega)).trans (FR q hq)
      refine v_aload_n K 0 dX6_close_37 rfl rfl ?_
      refine gf_X6_26 K dX6_close_38 fM rfl ?_
      refine v_iload_n K 1 dX6_close_41 rfl rfl ?_
      refine v_iconst (v := nI 0) K dX6_close_42 (by decide) ?_
      refine v_zast K dX6_close_43 mb2 (by omega) (by decide) (narB (by first | exact isB0 | exact isB1 | assumption)) (fun pic6 zg4 zf5 => ?_)
      replace fM := (zf5 _ (by omega)).trans fM
      replace mv1 := (zf5 _ (by omega)).trans mv1
      replace mv2 := (zf5 _ (by omega)).trans mv2
      replace mv3 := (zf5 _ (by omega)).trans mv3
      replace mv4 := (zf5 _ (by omega)).trans mv4
      replace mb1 := (zf5 _ (by omega)).trans mb1
      replace mb2 := zg4
      replace mb3 := (zf5 _ (by omega)).trans mb3
      replace mb4 := (zf5 _ (by omega)).trans mb4
      replace my1 := (zf5 _ (by omega)).trans my1
      have FR : ∀ q, ¬ (1000 ≤ q ∧ q < 1009 ∨ q = 1023) → pic6 q = pic q := fun q hq => (zf5 q (by omega)).trans (FR q hq)
      refine v_aload_n K 0 dX6_close_44 rfl rfl ?_
      refine gf_X6_33 K dX6_close_45 fM rfl ?_
      refine v_iload_n K 1 dX6_close_48 rfl rfl ?_
      refine v_lconst (v := 0) K dX6_close_49 (by decide) ?_
      refine v_last K dX6_close_50 mb4 (by omega) (by decide) (fun pic9 zg7 zf8 => ?_)
      replace fM := (zf8 _ (by omega)).trans fM
      replace mv1 := (zf8 _ (by omega)).trans mv1
      replace mv2 := (zf8 _ (by omega)).trans mv2
      replace mv3 := (zf8 _ (by omega)).trans mv3
      replace mv4 := (zf8 _ (by omega)).trans mv4
      replace mb1 := (zf8 _ (by omega)).trans mb1
      replace mb2 := (zf8 _ (by omega)).trans mb2
      replace mb3 := (zf8 _ (by omega)).trans mb3
      replace mb4 := zg7
      replace my1 := (zf8 _ (by omega)).trans my1
      have FR : ∀ q, ¬ (1000 ≤ q ∧ q < 1009 ∨ q = 1023) → pic9 q = pic q := fun q hq => (zf8 q (by omega)).trans (FR q hq)
      refine v_iconst (v := nI 0) K dX6_close_51 (by decide) ?_
      refine v_istore_n K 2 dX6_close_52 rfl (by decide) ?_
      refine v_at [(0, .ref (ad 1000)), (1, .int (nI nb)), (2, .int (nI (0)))] (lcons rfl (lcons rfl (lcons rfl (lnil)))) ?_
      refine l_X6_close1 K ad th cl nb d no ns mac mtp mvl mse mfi O hnb40 hOn hOE pic9 (fun pic1 mfi1 k0 k1 k2 hf1 hf2 k3 => ?_) (bN O - 0 + 1) 0 pic9 _ (by omega) (by omega) fM (by rw [cpG_0, cpG_0, cpG_0, cpG_0]; exact ⟨mv1, mv2, mv3, mv4⟩) mb4 pk_uLs (fun x hx => pk_uLn (by omega)) (fun _ _ => rfl)
      replace fM := k0
      replace mv1 := k1.1
      replace mv2 := k1.2.1
      replace mv3 := k1.2.2.1
      replace mv4 := k1.2.2.2
      replace mb1 := (k3 _ (by omega)).trans mb1
      replace mb2 := (k3 _ (by omega)).trans mb2
      replace mb3 := (k3 _ (by omega)).trans mb3
      replace mb4 := k2
      replace my1 := (k3 _ (by omega)).trans my1
      replace FR : ∀ q, ¬ (1000 ≤ q ∧ q < 1009 ∨ q = 1023) → pic1 q = pic q := fun q hq => (k3 q (by omega)).trans (FR q hq)
      refine v_aload_n K 0 dX6_close_185 rfl rfl ?_
      refine v_iload_n K 1 dX6_close_186 rfl rfl ?_
      refine cl_X6_126 K dX6_close_187 fM (c_X6_leaves l D cA base pic1 ad th cl (nI (bN O)) nb d no ns (cpG mac (32 * nb) 1280 (bN O)) (cpG mtp (3 * (32 * nb)) 3840 (3 * (bN O))) (cpG mvl (32 * nb) 1280 (bN O)) (cpG mse (32 * nb) 1280 (bN O)) _ _ _ _ mlv nb (bN O) fM ⟨mv1, mv2, mv3, mv4⟩ ⟨mb1, mb2, mb3, mb4⟩ my1 (by omega) pk_us hOn hOE.copy.tops) rfl rfl ⟨by decide, by decide⟩ (Nat.le_of_ble_eq_true rfl) ⟨by decide, by decide⟩ (fun pic10 hx11 => ?_)
      obtain ⟨⟨g1, k1, hg1⟩, kf⟩ := hx11
      replace fM := (kf _ (by omega)).trans fM
      replace mv1 := (kf _ (by omega)).trans mv1
      replace mv2 := (kf _ (by omega)).trans mv2
      replace mv3 := (kf _ (by omega)).trans mv3
      replace mv4 := (kf _ (by omega)).trans mv4
      replace mb1 := (kf _ (by omega)).trans mb1
      replace mb2 := (kf _ (by omega)).trans mb2
      replace mb3 := (kf _ (by omega)).trans mb3
      replace mb4 := (kf _ (by omega)).trans mb4
      replace my1 := k1
      have FR : ∀ q, ¬ (1000 ≤ q ∧ q < 1009 ∨ q = 1023) → pic10 q = pic q := fun q hq => (kf q (by omega)).trans (FR q hq)
      replace hg1 : ∀ i, i < bN O → g1 i = lfE (bE O) i := fun i hi => (hg1 i hi).trans ((hOE.copy (nb := nb)).leaf i hi)
      refine v_aload_n K 0 dX6_close_190 rfl rfl ?_
      refine gf_X6_77 K dX6_close_191 fM rfl ?_
      refine v_istore_n K 2 dX6_close_194 rfl (by decide) ?_
      refine v_at [(0, .ref (ad 1000)), (1, .int (nI nb)), (2, .int (nI (wF (bN O) 0)))] (lcons rfl (lcons rfl (lcons rfl (lnil)))) ?_
      refine l_X6_close2 K ad th cl nb d no ns O hOn pic10 (fun pic2 row k4 hr0 k5 => ?_) 6 0 pic10 g1 (by omega) (by omega) fM my1 hg1 (fun _ _ => rfl)
      replace fM := (k5 _ (by omega)).trans fM
      replace mv1 := (k5 _ (by omega)).trans mv1
      replace mv2 := (k5 _ (by omega)).trans mv2
      replace mv3 := (k5 _ (by omega)).trans mv3
      replace mv4 := (k5 _ (by omega)).trans mv4
      replace mb1 := (k5 _ (by omega)).trans mb1
      replace mb2 := (k5 _ (by omega)).trans mb2
      replace mb3 := (k5 _ (by omega)).trans mb3
      replace mb4 := (k5 _ (by omega)).trans mb4
      unfold MLev at k4
      replace my1 := k4
      replace FR : ∀ q, ¬ (1000 ≤ q ∧ q < 1009 ∨ q = 1023) → pic2 q = pic q := fun q hq => (k5 q (by omega)).trans (FR q hq)
      refine v_aload_n K 0 dX6_close_209 rfl rfl ?_
      refine gf_X6_30 K dX6_close_210 fM rfl ?_
      refine v_iload_n K 1 dX6_close_213 rfl rfl ?_
      refine v_aload_n K 0 dX6_close_214 rfl rfl ?_
      refine gf_X6_77 K dX6_close_215 fM rfl ?_
      refine v_if_ne K 225 dX6_close_218 (by decide) (nI_toInt (by omega)) (fun c218 => ?_) (fun c218 => ?_)
      · refine v_aload_n K 0 dX6_close_225 rfl rfl ?_
        refine gf_X6_60 K dX6_close_226 fM rfl ?_
        refine v_iconst (v := nI 0) K dX6_close_229 (by decide) ?_
        refine v_lald K dX6_close_230 my1 (by omega) (by decide) ?_
        refine v_top (v := .long (rootF (lfE (bE O)) (bN O))) (by rw [rootF, if_neg (by omega), hr0 (by omega)]) ?_
        refine v_last K dX6_close_231 mb3 (by omega) (by decide) (fun pic14 zg12 zf13 => ?_)
        replace fM := (zf13 _ (by omega)).trans fM
        replace mv1 := (zf13 _ (by omega)).trans mv1
        replace mv2 := (zf13 _ (by omega)).trans mv2
        replace mv3 := (zf13 _ (by omega)).trans mv3
        replace mv4 := (zf13 _ (by omega)).trans mv4
        replace mb1 := (zf13 _ (by omega)).trans mb1
        replace mb2 := (zf13 _ (by omega)).trans mb2
        replace mb3 := zg12
        replace mb4 := (zf13 _ (by omega)).trans mb4
        replace my1 := (zf13 _ (by omega)).trans my1
        have FR : ∀ q, ¬ (1000 ≤ q ∧ q < 1009 ∨ q = 1023) → pic14 q = pic q := fun q hq => (zf13 q (by omega)).trans (FR q hq)
        refine v_aload_n K 0 dX6_close_232 rfl rfl ?_
        refine v_dup K dX6_close_233 rfl ?_
        refine gf_X6_102 K dX6_close_234 fM rfl ?_
        refine v_aload_n K 0 dX6_close_237 rfl rfl ?_
        refine gf_X6_77 K dX6_close_238 fM rfl ?_
        refine v_iadd K dX6_close_241 ?_
        refine pf_X6_102 K dX6_close_242 fM (Nat.le_of_ble_eq_true rfl) (fun pic17 zg15 zf16 => ?_)
        replace fM := zg15
        replace mv1 := (zf16 _ (by omega)).trans mv1
        replace mv2 := (zf16 _ (by omega)).trans mv2
        replace mv3 := (zf16 _ (by omega)).trans mv3
        replace mv4 := (zf16 _ (by omega)).trans mv4
        replace mb1 := (zf16 _ (by omega)).trans mb1
        replace mb2 := (zf16 _ (by omega)).trans mb2
        replace mb3 := (zf16 _ (by omega)).trans mb3
        replace mb4 := (zf16 _ (by omega)).trans mb4
        replace my1 := (zf16 _ (by omega)).trans my1
        have FR : ∀ q, ¬ (1000 ≤ q ∧ q < 1009 ∨ q = 1023) → pic17 q = pic q := fun q hq => (zf16 q (by omega)).trans (FR q hq)
        refine v_aload_n K 0 dX6_close_245 rfl rfl ?_
        refine v_iconst (v := nI 0) K dX6_close_246 (by decide) ?_
        refine pf_X6_77 K dX6_close_247 fM (Nat.le_of_ble_eq_true rfl) (fun pic20 zg18 zf19 => ?_)
        replace fM := zg18
        replace mv1 := (zf19 _ (by omega)).trans mv1
        replace mv2 := (zf19 _ (by omega)).trans mv2
        replace mv3 := (zf19 _ (by omega)).trans mv3
        replace mv4 := (zf19 _ (by omega)).trans mv4
        replace mb1 := (zf19 _ (by omega)).trans mb1
        replace mb2 := (zf19 _ (by omega)).trans mb2
        replace mb3 := (zf19 _ (by omega)).trans mb3
        replace mb4 := (zf19 _ (by omega)).trans mb4
        replace my1 := (zf19 _ (by omega)).trans my1
        have FR : ∀ q, ¬ (1000 ≤ q ∧ q < 1009 ∨ q = 1023) → pic20 q = pic q := fun q hq => (zf19 q (by omega)).trans (FR q hq)
        refine v_aload_n K 0 dX6_close_250 rfl rfl ?_
        refine v_dup K dX6_close_251 rfl ?_
        refine gf_X6_67 K dX6_close_252 fM rfl ?_
        refine v_iconst (v := nI 1) K dX6_close_255 (by decide) ?_
        refine v_iaddN K dX6_close_256 ?_
        refine pf_X6_67 K dX6_close_257 fM (Nat.le_of_ble_eq_true rfl) (fun pic23 zg21 zf22 => ?_)
        replace fM := zg21
        replace mv1 := (zf22 _ (by omega)).trans mv1
        replace mv2 := (zf22 _ (by omega)).trans mv2
        replace mv3 := (zf22 _ (by omega)).trans mv3
        replace mv4 := (zf22 _ (by omega)).trans mv4
        replace mb1 := (zf22 _ (by omega)).trans mb1
        replace mb2 := (zf22 _ (by omega)).trans mb2
        replace mb3 := (zf22 _ (by omega)).trans mb3
        replace mb4 := (zf22 _ (by omega)).trans mb4
        replace my1 := (zf22 _ (by omega)).trans my1
        have FR : ∀ q, ¬ (1000 ≤ q ∧ q < 1009 ∨ q = 1023) → pic23 q = pic q := fun q hq => (zf22 q (by omega)).trans (FR q hq)
        refine v_iload_n K 1 dX6_close_260 rfl rfl ?_
        exact v_iret K dX6_close_261 hr hlk (by decide) (by decide) (Or.inr (Or.inr ⟨by omega, by omega, rfl, fM, ⟨_, _, _, _, _, _, _, _, ⟨mv1, mv2, mv3, mv4⟩, ⟨mb1, mb2, mb3, mb4⟩, hB.close hOE hOn hOk hf1 hf2⟩, ⟨_, my1⟩, FR⟩))
      · refine v_lconst (v := 0) K dX6_close_221 (by decide) ?_
        refine v_goto K 231 dX6_close_222 (by decide) ?_
        refine v_top (v := .long (rootF (lfE (bE O)) (bN O))) (by rw [rootF, if_pos (by omega)]) ?_
        refine v_last K dX6_close_231 mb3 (by omega) (by decide) (fun pic26 zg24 zf25 => ?_)
        replace fM := (zf25 _ (by omega)).trans fM
        replace mv1 := (zf25 _ (by omega)).trans mv1
        replace mv2 := (zf25 _ (by omega)).trans mv2
        replace mv3 := (zf25 _ (by omega)).trans mv3
        replace mv4 := (zf25 _ (by omega)).trans mv4
        replace mb1 := (zf25 _ (by omega)).trans mb1
        replace mb2 := (zf25 _ (by omega)).trans mb2
        replace mb3 := zg24
        replace mb4 := (zf25 _ (by omega)).trans mb4
        replace my1 := (zf25 _ (by omega)).trans my1
        have FR : ∀ q, ¬ (1000 ≤ q ∧ q < 1009 ∨ q = 1023) → pic26 q = pic q := fun q hq => (zf25 q (by omega)).trans (FR q hq)
        refine v_aload_n K 0 dX6_close_232 rfl rfl ?_
        refine v_dup K dX6_close_233 rfl ?_
        refine gf_X6_102 K dX6_close_234 fM rfl ?_
        refine v_aload_n K 0 dX6_close_237 rfl rfl ?_
        refine gf_X6_77 K dX6_close_238 fM rfl ?_
        refine v_iadd K dX6_close_241 ?_
        refine pf_X6_102 K dX6_close_242 fM (Nat.le_of_ble_eq_true rfl) (fun pic29 zg27 zf28 => ?_)
        replace fM := zg27
        replace mv1 := (zf28 _ (by omega)).trans mv1
        replace mv2 := (zf28 _ (by omega)).trans mv2
        replace mv3 := (zf28 _ (by omega)).trans mv3
        replace mv4 := (zf28 _ (by omega)).trans mv4
        replace mb1 := (zf28 _ (by omega)).trans mb1
        replace mb2 := (zf28 _ (by omega)).trans mb2
        replace mb3 := (zf28 _ (by omega)).trans mb3
        replace mb4 := (zf28 _ (by omega)).trans mb4
        replace my1 := (zf28 _ (by omega)).trans my1
        have FR : ∀ q, ¬ (1000 ≤ q ∧ q < 1009 ∨ q = 1023) → pic29 q = pic q := fun q hq => (zf28 q (by omega)).trans (FR q hq)
        refine v_aload_n K 0 dX6_close_245 rfl rfl ?_
        refine v_iconst (v := nI 0) K dX6_close_246 (by decide) ?_
        refine pf_X6_77 K dX6_close_247 fM (Nat.le_of_ble_eq_true rfl) (fun pic32 zg30 zf31 => ?_)
        replace fM := zg30
        replace mv1 := (zf31 _ (by omega)).trans mv1
        replace mv2 := (zf31 _ (by omega)).trans mv2
        replace mv3 := (zf31 _ (by omega)).trans mv3
        replace mv4 := (zf31 _ (by omega)).trans mv4
        replace mb1 := (zf31 _ (by omega)).trans mb1
        replace mb2 := (zf31 _ (by omega)).trans mb2
        replace mb3 := (zf31 _ (by omega)).trans mb3
        replace mb4 := (zf31 _ (by omega)).trans mb4
        replace my1 := (zf31 _ (by omega)).trans my1
        have FR : ∀ q, ¬ (1000 ≤ q ∧ q < 1009 ∨ q = 1023) → pic32 q = pic q := fun q hq => (zf31 q (by omega)).trans (FR q hq)
        refine v_aload_n K 0 dX6_close_250 rfl rfl ?_
        refine v_dup K dX6_close_251 rfl ?_
        refine gf_X6_67 K dX6_close_252 fM rfl ?_
        refine v_iconst (v := nI 1) K dX6_close_255 (by decide) ?_
        refine v_iaddN K dX6_close_256 ?_
        refine pf_X6_67 K dX6_close_257 fM (Nat.le_of_ble_eq_true rfl) (fun pic35 zg33 zf34 => ?_)
        replace fM := zg33
        replace mv1 := (zf34 _ (by omega)).trans mv1
        replace mv2 := (zf34 _ (by omega)).trans mv2
        replace mv3 := (zf34 _ (by omega)).trans mv3
        replace mv4 := (zf34 _ (by omega)).trans mv4
        replace mb1 := (zf34 _ (by omega)).trans mb1
        replace mb2 := (zf34 _ (by omega)).trans mb2
        replace mb3 := (zf34 _ (by omega)).trans mb3
        replace mb4 := (zf34 _ (by omega)).trans mb4
        replace my1 := (zf34 _ (by omega)).trans my1
        have FR : ∀ q, ¬ (1000 ≤ q ∧ q < 1009 ∨ q = 1023) → pic35 q = pic q := fun q hq => (zf34 q (by omega)).trans (FR q hq)
        refine v_iload_n K 1 dX6_close_260 rfl rfl ?_
        exact v_iret K dX6_close_261 hr hlk (by decide) (by decide) (Or.inr (Or.inr ⟨by omega, by omega, rfl, fM, ⟨_, _, _, _, _, _, _, _, ⟨mv1, mv2, mv3, mv4⟩, ⟨mb1, mb2, mb3, mb4⟩, hB.close hOE hOn hOk hf1 hf2⟩, ⟨_, my1⟩, FR⟩))
    · refine v_bipush (v := -3) K dX6_close_19 (by decide) ?_
      exact v_iret K dX6_close_21 hr hlk (by decide) (by decide) (Or.inr (Or.inl ⟨rfl, by omega, by omega, rfl⟩))
  · refine v_bipush (v := -2) K dX6_close_7 (by decide) ?_
    exact v_iret K dX6_close_9 hr hlk (by decide) (by decide) (Or.inl ⟨rfl, by omega, rfl⟩)

