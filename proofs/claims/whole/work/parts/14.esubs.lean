abbrev Sb : Type := Int32 × Nat × Nat
def sbF (ad : Nat → Nat) (ns : Nat) : Nat → Option Nat := fun j => if j < ns then some (ad (20 + j)) else none
theorem sbF_lt {ad : Nat → Nat} {ns j : Nat} (h : j < ns) : sbF ad ns j = some (ad (20 + j)) := if_pos h
def SubsP (pic : PIC) (cA : Nat → ClassId) (ad : Nat → Nat) (ns : Nat) (S : Nat → Sb) : Prop := pic 11 = some (ad 11, .inl (cA 4, 8, .inr (.inr (.inr (.inr (sbF ad ns)))))) ∧ ∀ j, j < ns → pic (20 + j) = some (ad (20 + j), sbE (S j).1 (nI (S j).2.1) (nI (S j).2.2))
theorem SubsP.kept {pic pic1 : PIC} {cA : Nat → ClassId} {ad : Nat → Nat} {ns : Nat} {S : Nat → Sb} (h : SubsP pic cA ad ns S) (hk : ∀ q, q = 11 ∨ 20 ≤ q ∧ q < 20 + ns → pic1 q = pic q) : SubsP pic1 cA ad ns S := ⟨(hk 11 (by omega)).trans h.1, fun j hj => (hk (20 + j) (by omega)).trans (h.2 j hj)⟩
theorem SubsP.upd {pic pic1 : PIC} {cA : Nat → ClassId} {ad : Nat → Nat} {ns j : Nat} {S : Nat → Sb} {X : Sb} (h : SubsP pic cA ad ns S) (hX : pic1 (20 + j) = some (ad (20 + j), sbE X.1 (nI X.2.1) (nI X.2.2))) (hk : ∀ q, ¬ (q = 20 + j) → pic1 q = pic q) : SubsP pic1 cA ad ns (va_up S j X) := by
  refine ⟨(hk 11 (by omega)).trans h.1, fun i hi => ?_⟩
  by_cases hij : i = j
  · subst hij; rw [va_up_self]; exact hX
  · rw [va_up_ne _ _ hij]
    exact (hk (20 + i) (by omega)).trans (h.2 i hi)
theorem sbF_push {ad : Nat → Nat} {ns q : Nat} : va_up (sbF ad ns) ns (some q) = sbF (va_up ad (20 + ns) q) (ns + 1) := by
  funext j
  unfold sbF
  by_cases h : j = ns
  · subst h; rw [va_up_self, if_pos (by omega), va_up_self]
  · rw [va_up_ne _ _ h]
    by_cases h2 : j < ns
    · rw [if_pos h2, if_pos (by omega), va_up_ne _ _ (by omega)]
    · rw [if_neg h2, if_neg (by omega)]
def hasK (X : Bk) (t : Int32) (i : Nat) : Prop := (bKp X).toInt ≠ 0 ∧ hasE (bE X) t i
def hasX (B : Nat → Bk) (t : Int32) (j i : Nat) : Prop := i < bN (B j) ∧ hasK (B j) t i
def lexGe (b0 i0 j i : Nat) : Prop := b0 < j ∨ b0 = j ∧ i0 ≤ i
def nxR (B : Nat → Bk) (t : Int32) (nb b0 i0 : Nat) (x : Int32) (b1 i1 : Nat) : Prop :=
  (∃ j i, j < nb ∧ lexGe b0 i0 j i ∧ hasX B t j i ∧ (∀ j2 i2, lexGe b0 i0 j2 i2 → (j2 < j ∨ j2 = j ∧ i2 < i) → ¬ hasX B t j2 i2) ∧ x = nI (100 * j + i) ∧ b1 = j ∧ i1 = i + 1) ∨ ((∀ j2 i2, j2 < nb → lexGe b0 i0 j2 i2 → ¬ hasX B t j2 i2) ∧ x = -5 ∧ b1 = nb ∧ i1 = 0)
theorem nxR.uniq {B : Nat → Bk} {t : Int32} {nb b0 i0 : Nat} {x y : Int32} {b1 i1 b2 i2 : Nat} (h : nxR B t nb b0 i0 x b1 i1) (h2 : nxR B t nb b0 i0 y b2 i2) : x = y ∧ b1 = b2 ∧ i1 = i2 := by
  rcases h with ⟨j, i, a1, a2, a3, a4, rfl, rfl, rfl⟩ | ⟨a1, rfl, rfl, rfl⟩ <;> rcases h2 with ⟨j9, i9, c1, c2, c3, c4, rfl, rfl, rfl⟩ | ⟨c1, rfl, rfl, rfl⟩
  · have h1 : ¬ (b2 < b1 ∨ b2 = b1 ∧ i9 < i) := fun h => a4 _ _ c2 h c3
    have h3 : ¬ (b1 < b2 ∨ b1 = b2 ∧ i < i9) := fun h => c4 _ _ a2 h a3
    have e1 : b1 = b2 := by omega
    have e2 : i = i9 := by omega
    subst e1; subst e2
    exact ⟨rfl, rfl, rfl⟩
  · exact absurd a3 (c1 _ _ a1 a2)
  · exact absurd c3 (a1 _ _ c1 c2)
  · exact ⟨rfl, rfl, rfl⟩
noncomputable def nxF (B : Nat → Bk) (t : Int32) (nb b0 i0 : Nat) : Int32 × Nat × Nat := @dite (Int32 × Nat × Nat) (∃ r : Int32 × Nat × Nat, nxR B t nb b0 i0 r.1 r.2.1 r.2.2) (Classical.propDecidable _) (fun h => Classical.choose h) (fun _ => (0, 0, 0))
theorem nxF_eq {B : Nat → Bk} {t : Int32} {nb b0 i0 b1 i1 : Nat} {x : Int32} (h : nxR B t nb b0 i0 x b1 i1) : nxF B t nb b0 i0 = (x, b1, i1) := by
  have hex : ∃ r : Int32 × Nat × Nat, nxR B t nb b0 i0 r.1 r.2.1 r.2.2 := ⟨(x, b1, i1), h⟩
  unfold nxF
  rw [dif_pos hex]
  obtain ⟨u1, u2, u3⟩ := nxR.uniq (Classical.choose_spec hex) h
  exact Prod.ext u1 (Prod.ext u2 u3)
def knF (X : Bk) : Nat := if (bKp X).toInt = 0 then 0 else bN X
def sumK (B : Nat → Bk) (a : Nat) : Nat → Nat
  | 0 => 0
  | m + 1 => sumK B a m + knF (B (a + m))
def mvF (S : Nat → Sb) (nb : Nat) : Nat → Sb := fun j => if nb ≤ (S j).2.1 then ((S j).1, nb, 0) else S j
noncomputable def subF (nb ns : Nat) (S : Nat → Sb) (t b : Int32) : Int32 × Nat × (Nat → Sb) := cif (¬ (isTopN t ∧ 0 ≤ b.toInt ∧ b.toInt ≤ nb)) ((-1, ns, S)) (cif (8 ≤ ns) ((-3, ns, S)) ((nI ns, ns + 1, va_up S ns (t, bx b, 0))))
theorem subF_0 {nb ns : Nat} {S : Nat → Sb} {t b : Int32} (h0 : ¬ (isTopN t ∧ 0 ≤ b.toInt ∧ b.toInt ≤ nb)) : subF nb ns S t b = ((-1, ns, S)) := by rw [subF, cif_pos h0]
theorem subF_1 {nb ns : Nat} {S : Nat → Sb} {t b : Int32} (h0 : ¬ (¬ (isTopN t ∧ 0 ≤ b.toInt ∧ b.toInt ≤ nb))) (h1 : 8 ≤ ns) : subF nb ns S t b = ((-3, ns, S)) := by rw [subF, cif_neg h0, cif_pos h1]
theorem subF_2 {nb ns : Nat} {S : Nat → Sb} {t b : Int32} (h0 : ¬ (¬ (isTopN t ∧ 0 ≤ b.toInt ∧ b.toInt ≤ nb))) (h1 : ¬ (8 ≤ ns)) : subF nb ns S t b = ((nI ns, ns + 1, va_up S ns (t, bx b, 0))) := by rw [subF, cif_neg h0, cif_neg h1]
noncomputable def nextF (nb ns : Nat) (B : Nat → Bk) (S : Nat → Sb) (s : Int32) : Int32 × (Nat → Sb) := cif (¬ (0 ≤ s.toInt ∧ s.toInt < ns)) ((-1, S)) (((nxF B (S (bx s)).1 nb (S (bx s)).2.1 (S (bx s)).2.2).1, va_up S (bx s) ((S (bx s)).1, (nxF B (S (bx s)).1 nb (S (bx s)).2.1 (S (bx s)).2.2).2)))
theorem nextF_0 {nb ns : Nat} {B : Nat → Bk} {S : Nat → Sb} {s : Int32} (h0 : ¬ (0 ≤ s.toInt ∧ s.toInt < ns)) : nextF nb ns B S s = ((-1, S)) := by rw [nextF, cif_pos h0]
theorem nextF_1 {nb ns : Nat} {B : Nat → Bk} {S : Nat → Sb} {s : Int32} (h0 : ¬ (¬ (0 ≤ s.toInt ∧ s.toInt < ns))) : nextF nb ns B S s = (((nxF B (S (bx s)).1 nb (S (bx s)).2.1 (S (bx s)).2.2).1, va_up S (bx s) ((S (bx s)).1, (nxF B (S (bx s)).1 nb (S (bx s)).2.1 (S (bx s)).2.2).2))) := by rw [nextF, cif_neg h0]
noncomputable def placeF (ns : Nat) (S : Nat → Sb) (s : Int32) : Int32 := cif (¬ (0 ≤ s.toInt ∧ s.toInt < ns)) (-1) (nI (100 * (S (bx s)).2.1 + (S (bx s)).2.2))
theorem placeF_0 {ns : Nat} {S : Nat → Sb} {s : Int32} (h0 : ¬ (0 ≤ s.toInt ∧ s.toInt < ns)) : placeF ns S s = (-1) := by rw [placeF, cif_pos h0]
theorem placeF_1 {ns : Nat} {S : Nat → Sb} {s : Int32} (h0 : ¬ (¬ (0 ≤ s.toInt ∧ s.toInt < ns))) : placeF ns S s = (nI (100 * (S (bx s)).2.1 + (S (bx s)).2.2)) := by rw [placeF, cif_neg h0]
noncomputable def backF (d nb : Nat) (B : Nat → Bk) (S : Nat → Sb) (n : Int32) : Int32 × Nat × (Nat → Sb) := cif (¬ (0 ≤ n.toInt ∧ n.toInt ≤ nb)) ((-1, nb, S)) (cif (0 < d) ((-2, nb, S)) ((nI (sumK B (nb - bx n) (bx n)), nb - bx n, mvF S (nb - bx n))))
theorem backF_0 {d nb : Nat} {B : Nat → Bk} {S : Nat → Sb} {n : Int32} (h0 : ¬ (0 ≤ n.toInt ∧ n.toInt ≤ nb)) : backF d nb B S n = ((-1, nb, S)) := by rw [backF, cif_pos h0]
theorem backF_1 {d nb : Nat} {B : Nat → Bk} {S : Nat → Sb} {n : Int32} (h0 : ¬ (¬ (0 ≤ n.toInt ∧ n.toInt ≤ nb))) (h1 : 0 < d) : backF d nb B S n = ((-2, nb, S)) := by rw [backF, cif_neg h0, cif_pos h1]
theorem backF_2 {d nb : Nat} {B : Nat → Bk} {S : Nat → Sb} {n : Int32} (h0 : ¬ (¬ (0 ≤ n.toInt ∧ n.toInt ≤ nb))) (h1 : ¬ (0 < d)) : backF d nb B S n = ((nI (sumK B (nb - bx n) (bx n)), nb - bx n, mvF S (nb - bx n))) := by rw [backF, cif_neg h0, cif_neg h1]

set_option maxHeartbeats 4000000 in
set_option maxRecDepth 100000 in
theorem c_X5_path (l : Launch) (D : va_G) (cA : Nat → ClassId) (base : Nat) (pic : PIC) (ad : Nat → Nat) (nb ns hw : Nat) (cl : Int32) (B : Nat → Bk) (w0 : Nat) (g0 : Nat → Int64) (no : Nat) (dg : Nat → Int64) (b i : Int32) (hE : EObj pic ad nb ns cl) (hBs : BlksP pic cA ad hw B) (hnb : nb ≤ hw) (hhw : hw ≤ 40) (hBn : ∀ j, j < hw → bN (B j) ≤ 32) (hT : TreeP pic cA (ad 7) (ad 8) w0 g0) (hO : OutP pic cA (ad 9) (ad 10) no dg) (hno5 : no ≤ 5)  : CI l yX5_path cX5_path 4 (some .int) { frames := 5, cells := 0, slots := 0, locals := 122 } 0 0 D cA base pic [.ref (ad 0), .int b, .int i] (fun x9 pic1 => x9 = (pathF nb B no dg b i).1 ∧ (∃ w g, TreeP pic1 cA (ad 7) (ad 8) w g) ∧ OutP pic1 cA (ad 9) (ad 10) (pathF nb B no dg b i).2.1 (pathF nb B no dg b i).2.2 ∧ ∀ q, ¬ (7 ≤ q ∧ q < 11) → pic1 q = pic q) := by
  refine ofI (by decide) (Nat.le_of_ble_eq_true rfl) ?_
  intro p e s m below meth c K hr hlk hnm
  have FR : ∀ q, ¬ (7 ≤ q ∧ q < 11) → pic q = pic q := fun _ _ => rfl
  have fE := hE
  unfold EObj at fE
  obtain ⟨f6, hBj⟩ := hBs
  obtain ⟨t0, t1⟩ := hT
  obtain ⟨o0, o1⟩ := hO
  refine v_aload_n K 0 dX5_path_0 rfl rfl ?_
  refine v_iload_n K 1 dX5_path_1 rfl rfl ?_
  refine cl_X5_114 K dX5_path_2 fE (c_X5_blockAt l D cA base pic ad nb ns hw cl B b fE ⟨f6, hBj⟩ hnb hhw hBn) rfl rfl ⟨by decide, by decide⟩ (Nat.le_of_ble_eq_true rfl) ⟨by decide, by decide⟩ (fun x2 pic1 hx2 => ?_)
  rcases hx2 with ⟨j, hj, rfl, rfl, rfl⟩ | ⟨rfl, hno, rfl⟩
  · refine v_top (v := .ref (ad (100 + 6 * j))) rfl ?_
    obtain ⟨fB, g1, g2, g3, g4, g5⟩ := hBj j (by omega)
    have hn := hBn j (by omega)
    have hbI := nI_toInt (n := j) (by omega)
    have hbx := bx_nI (j := j) (by omega)
    refine v_astore_n K 3 dX5_path_5 rfl (by decide) ?_
    refine v_aload_n K 3 dX5_path_6 rfl rfl ?_
    refine v_ifnull K dX5_path_7 ?_
    refine v_aload_n K 3 dX5_path_10 rfl rfl ?_
    refine v_iload_n K 2 dX5_path_11 rfl rfl ?_
    refine cl_X5_122 K dX5_path_12 fB (c_X0_hasEvent l D cA base pic (100 + 6 * j) (ad (100 + 6 * j)) _ _ _ _ _ (bN (B j)) _ _ _ _ _ _ _ _ _ i ⟨fB, g1, g2, g3, g4, g5⟩ hn) rfl rfl ⟨by decide, by decide⟩ (Nat.le_of_ble_eq_true rfl) ⟨by decide, by decide⟩ (fun x12 pic3 hx4 => ?_)
    rcases hx4 with ⟨rfl, rfl, hi⟩ | ⟨rfl, rfl, hi⟩
    · refine v_if_ne K 20 dX5_path_15 (by decide) rfl (fun _ => ?_) (fun c => absurd c (by decide))
      refine v_aload_n K 3 dX5_path_20 rfl rfl ?_
      refine gf_X5_118 K dX5_path_21 fB rfl ?_
      refine v_if_ne K 30 dX5_path_24 (by decide) rfl (fun c24 => ?_) (fun c24 => ?_)
      · obtain ⟨i1, hi1, rfl⟩ := ixN i (bN (B j)) (by omega) (by omega) (by omega)
        have hiI := nI_toInt (n := i1) (by omega)
        have hix := bx_nI (j := i1) (by omega)
        refine v_aload_n K 0 dX5_path_30 rfl rfl ?_
        refine gf_X5_25 K dX5_path_31 fE rfl ?_
        refine v_aload_n K 3 dX5_path_34 rfl rfl ?_
        refine v_iload_n K 2 dX5_path_35 rfl rfl ?_
        refine v_aload_n K 0 dX5_path_36 rfl rfl ?_
        refine gf_X5_32 K dX5_path_37 fE rfl ?_
        refine cl_X5_164 K dX5_path_40 t0 (c_X4_pathOf l D cA base pic (ad 7) (ad 8) w0 g0 (100 + 6 * j) (ad (100 + 6 * j)) (ad (100 + 6 * j + 1)) (ad (100 + 6 * j + 2)) (ad (100 + 6 * j + 3)) (ad (100 + 6 * j + 4)) (ad (100 + 6 * j + 5)) (bN (B j)) _ _ _ _ _ _ _ _ _ (ad 9) (ad 10) no i1 dg ⟨t0, t1⟩ ⟨fB, g1, g2, g3, g4, g5⟩ ⟨o0, o1⟩ (by omega) hn (by omega)) rfl rfl ⟨by decide, by decide⟩ (Nat.le_of_ble_eq_true rfl) ⟨by decide, by decide⟩ (fun pic5 hx6 => ?_)
        obtain ⟨⟨w9, g9, k0, k1⟩, ⟨k2, k3⟩, kf⟩ := hx6
        replace fE := (kf _ (by omega)).trans fE
        replace f6 := (kf _ (by omega)).trans f6
        replace t0 := k0
        replace t1 := k1
        replace o0 := k2
        replace o1 := k3
        replace fB := (kf _ (by omega)).trans fB
        replace g1 := (kf _ (by omega)).trans g1
        replace g2 := (kf _ (by omega)).trans g2
        replace g3 := (kf _ (by omega)).trans g3
        replace g4 := (kf _ (by omega)).trans g4
        replace g5 := (kf _ (by omega)).trans g5
        have FR : ∀ q, ¬ (7 ≤ q ∧ q < 11) → pic5 q = pic q := fun q hq => (kf q (by omega)).trans (FR q hq)
        refine v_aload_n K 0 dX5_path_43 rfl rfl ?_
        refine gf_X5_32 K dX5_path_44 fE rfl ?_
        refine gf_X5_168 K dX5_path_47 o0 rfl ?_
        exact v_iret K dX5_path_50 hr hlk (by decide) (by decide) (by first | exact (by rw [pathF_0 (by omega)]; exact ⟨rfl, ⟨_, _, t0, t1⟩, ⟨o0, o1⟩, FR⟩) | exact (by rw [pathF_0 (by rw [hbx]; omega)]; exact ⟨rfl, ⟨_, _, t0, t1⟩, ⟨o0, o1⟩, FR⟩) | exact (by rw [pathF_1 (by rw [hbx]; omega) (by rw [hbx]; omega)]; exact ⟨rfl, ⟨_, _, t0, t1⟩, ⟨o0, o1⟩, FR⟩) | exact (by rw [pathF_2 (by rw [hbx]; omega) (by rw [hbx]; omega), hbx, hix]; exact ⟨rfl, ⟨_, _, t0, t1⟩, ⟨o0, o1⟩, FR⟩))
      · refine v_bipush (v := -4) K dX5_path_27 (by decide) ?_
        exact v_iret K dX5_path_29 hr hlk (by decide) (by decide) (by first | exact (by rw [pathF_0 (by omega)]; exact ⟨rfl, ⟨_, _, t0, t1⟩, ⟨o0, o1⟩, FR⟩) | exact (by rw [pathF_0 (by rw [hbx]; omega)]; exact ⟨rfl, ⟨_, _, t0, t1⟩, ⟨o0, o1⟩, FR⟩) | exact (by rw [pathF_1 (by rw [hbx]; omega) (by rw [hbx]; omega)]; exact ⟨rfl, ⟨_, _, t0, t1⟩, ⟨o0, o1⟩, FR⟩) | exact (by rw [pathF_2 (by rw [hbx]; omega) (by rw [hbx]; omega), hbx, hix]; exact ⟨rfl, ⟨_, _, t0, t1⟩, ⟨o0, o1⟩, FR⟩))
    · refine v_if_ne K 20 dX5_path_15 (by decide) rfl (fun c => absurd c (by decide)) (fun _ => ?_)
      refine v_iconst (v := -1) K dX5_path_18 (by decide) ?_
      exact v_iret K dX5_path_19 hr hlk (by decide) (by decide) (by first | exact (by rw [pathF_0 (by omega)]; exact ⟨rfl, ⟨_, _, t0, t1⟩, ⟨o0, o1⟩, FR⟩) | exact (by rw [pathF_0 (by rw [hbx]; omega)]; exact ⟨rfl, ⟨_, _, t0, t1⟩, ⟨o0, o1⟩, FR⟩) | exact (by rw [pathF_1 (by rw [hbx]; omega) (by rw [hbx]; omega)]; exact ⟨rfl, ⟨_, _, t0, t1⟩, ⟨o0, o1⟩, FR⟩) | exact (by rw [pathF_2 (by rw [hbx]; omega) (by rw [hbx]; omega), hbx, hix]; exact ⟨rfl, ⟨_, _, t0, t1⟩, ⟨o0, o1⟩, FR⟩))
  · refine v_top (v := .null) rfl ?_
    refine v_astoreN_n K 3 dX5_path_5 rfl (by decide) ?_
    refine v_aloadN_n K 3 dX5_path_6 rfl rfl ?_
    refine v_ifnullN K 18 dX5_path_7 (by decide) ?_
    refine v_iconst (v := -1) K dX5_path_18 (by decide) ?_
    exact v_iret K dX5_path_19 hr hlk (by decide) (by decide) (by first | exact (by rw [pathF_0 (by omega)]; exact ⟨rfl, ⟨_, _, t0, t1⟩, ⟨o0, o1⟩, FR⟩) | exact (by rw [pathF_0 (by rw [hbx]; omega)]; exact ⟨rfl, ⟨_, _, t0, t1⟩, ⟨o0, o1⟩, FR⟩) | exact (by rw [pathF_1 (by rw [hbx]; omega) (by rw [hbx]; omega)]; exact ⟨rfl, ⟨_, _, t0, t1⟩, ⟨o0, o1⟩, FR⟩) | exact (by rw [pathF_2 (by rw [hbx]; omega) (by rw [hbx]; omega), hbx, hix]; exact ⟨rfl, ⟨_, _, t0, t1⟩, ⟨o0, o1⟩, FR⟩))

set_option maxHeartbeats 4000000 in
set_option maxRecDepth 100000 in
theorem c_X5_lay (l : Launch) (D : va_G) (cA : Nat → ClassId) (base : Nat) (pic : PIC) (ad : Nat → Nat) (nb ns : Nat) (cl : Int32) (no : Nat) (dg : Nat → Int64) (v : Int64) (hE : EObj pic ad nb ns cl) (hO : OutP pic cA (ad 9) (ad 10) no dg) (hno5 : no ≤ 5)  : CI l yX5_lay cX5_lay 3 (some .int) { frames := 1, cells := 0, slots := 0, locals := 22 } 0 0 D cA base pic [.ref (ad 0), .long v] (fun x9 pic1 => x9 = (layF no dg v).1 ∧ OutP pic1 cA (ad 9) (ad 10) (layF no dg v).2.1 (layF no dg v).2.2 ∧ ∀ q, ¬ (q = 9 ∨ q = 10) → pic1 q = pic q) := by
  refine ofI (by decide) (Nat.le_of_ble_eq_true rfl) ?_
  intro p e s m below meth c K hr hlk hnm
  have FR : ∀ q, ¬ (q = 9 ∨ q = 10) → pic q = pic q := fun _ _ => rfl
  have fE := hE
  unfold EObj at fE
  obtain ⟨o0, o1⟩ := hO
  refine v_aload_n K 0 dX5_lay_0 rfl rfl ?_
  refine gf_X5_32 K dX5_lay_1 fE rfl ?_
  refine v_lload_n K 1 dX5_lay_4 rfl rfl ?_
  refine cl_X5_174 K dX5_lay_5 o0 (c_X2_add l D cA base pic (ad 9) (ad 10) no dg v ⟨o0, o1⟩ hno5) rfl rfl ⟨by decide, by decide⟩ (Nat.le_of_ble_eq_true rfl) ⟨by decide, by decide⟩ (fun x5 pic1 hx2 => ?_)
  rcases hx2 with ⟨rfl, hlt, ⟨k2, k3⟩, kf⟩ | ⟨rfl, rfl, h5⟩
  · replace fE := (kf _ (by omega)).trans fE
    replace o0 := k2
    replace o1 := k3
    have FR : ∀ q, ¬ (q = 9 ∨ q = 10) → pic1 q = pic q := fun q hq => (kf q (by omega)).trans (FR q hq)
    refine v_if_eq K 21 dX5_lay_8 (by decide) rfl (fun c => absurd c (by decide)) (fun _ => ?_)
    refine v_aload_n K 0 dX5_lay_11 rfl rfl ?_
    refine gf_X5_32 K dX5_lay_12 fE rfl ?_
    refine gf_X5_168 K dX5_lay_15 o0 rfl ?_
    refine v_goto K 23 dX5_lay_18 (by decide) ?_
    exact v_iret K dX5_lay_23 hr hlk (by decide) (by decide) (by first | exact (by rw [layF_0 (by omega)]; exact ⟨rfl, ⟨o0, o1⟩, FR⟩) | exact (by rw [layF_1 (by omega)]; exact ⟨rfl, ⟨o0, o1⟩, FR⟩))
  · refine v_if_eq K 21 dX5_lay_8 (by decide) rfl (fun _ => ?_) (fun c => absurd c (by decide))
    refine v_bipush (v := -3) K dX5_lay_21 (by decide) ?_
    exact v_iret K dX5_lay_23 hr hlk (by decide) (by decide) (by first | exact (by rw [layF_0 (by omega)]; exact ⟨rfl, ⟨o0, o1⟩, FR⟩) | exact (by rw [layF_1 (by omega)]; exact ⟨rfl, ⟨o0, o1⟩, FR⟩))

set_option maxHeartbeats 4000000 in
set_option maxRecDepth 100000 in
theorem c_X5_wipe (l : Launch) (D : va_G) (cA : Nat → ClassId) (base : Nat) (pic : PIC) (ad : Nat → Nat) (nb ns : Nat) (cl : Int32) (no : Nat) (dg : Nat → Int64) (hE : EObj pic ad nb ns cl) (hO : OutP pic cA (ad 9) (ad 10) no dg) (hno5 : no ≤ 5)  : CI l yX5_wipe cX5_wipe 2 (some .int) { frames := 0, cells := 0, slots := 0, locals := 0 } 0 0 D cA base pic [.ref (ad 0)] (fun x9 pic1 => x9 = nI no ∧ OutP pic1 cA (ad 9) (ad 10) 0 dg ∧ ∀ q, ¬ (q = 9 ∨ q = 10) → pic1 q = pic q) := by
  refine ofI (by decide) (Nat.le_of_ble_eq_true rfl) ?_
  intro p e s m below meth c K hr hlk hnm
  have FR : ∀ q, ¬ (q = 9 ∨ q = 10) → pic q = pic q := fun _ _ => rfl
  have fE := hE
  unfold EObj at fE
  obtain ⟨o0, o1⟩ := hO
  refine v_aload_n K 0 dX5_wipe_0 rfl rfl ?_
  refine gf_X5_32 K dX5_wipe_1 fE rfl ?_
  refine gf_X5_168 K dX5_wipe_4 o0 rfl ?_
  refine v_istore_n K 1 dX5_wipe_7 rfl (by decide) ?_
  refine v_aload_n K 0 dX5_wipe_8 rfl rfl ?_
  refine gf_X5_32 K dX5_wipe_9 fE rfl ?_
  refine v_iconst (v := nI 0) K dX5_wipe_12 (by decide) ?_
  refine pf_X5_168 K dX5_wipe_13 o0 (Nat.le_of_ble_eq_true rfl) (fun pic3 zg1 zf2 => ?_)
  replace fE := (zf2 _ (by omega)).trans fE
  replace o0 := zg1
  replace o1 := (zf2 _ (by omega)).trans o1
  have FR : ∀ q, ¬ (q = 9 ∨ q = 10) → pic3 q = pic q := fun q hq => (zf2 q (by omega)).trans (FR q hq)
  refine v_iload_n K 1 dX5_wipe_16 rfl rfl ?_
  exact v_iret K dX5_wipe_17 hr hlk (by decide) (by decide) (⟨rfl, ⟨o0, o1⟩, FR⟩)

set_option maxHeartbeats 4000000 in
set_option maxRecDepth 100000 in
theorem c_X5_proved (l : Launch) (D : va_G) (cA : Nat → ClassId) (base : Nat) (pic : PIC) (ad : Nat → Nat) (nb ns hw : Nat) (cl : Int32) (B : Nat → Bk) (no : Nat) (dg : Nat → Int64) (b i ac a b2 c2 : Int32) (v : Int64) (hE : EObj pic ad nb ns cl) (hBs : BlksP pic cA ad hw B) (hnb : nb ≤ hw) (hhw : hw ≤ 40) (hBn : ∀ j, j < hw → bN (B j) ≤ 32) (hO : OutP pic cA (ad 9) (ad 10) no dg) (hno5 : no ≤ 5)  : CI l yX5_proved cX5_proved 12 (some .int) { frames := 3, cells := 0, slots := 0, locals := 63 } 0 0 D cA base pic [.ref (ad 0), .int b, .int i, .int ac, .int a, .int b2, .int c2, .long v] (fun x9 pic1 => pic = pic1 ∧ x9 = provedF nb B no dg b i ac a b2 c2 v) := by
  refine ofI (by decide) (Nat.le_of_ble_eq_true rfl) ?_
  intro p e s m below meth c K hr hlk hnm
  have fE := hE
  unfold EObj at fE
  obtain ⟨f6, hBj⟩ := hBs
  obtain ⟨o0, o1⟩ := hO
  refine v_aload_n K 0 dX5_proved_0 rfl rfl ?_
  refine v_iload_n K 1 dX5_proved_1 rfl rfl ?_
  refine cl_X5_114 K dX5_proved_2 fE (c_X5_blockAt l D cA base pic ad nb ns hw cl B b fE ⟨f6, hBj⟩ hnb hhw hBn) rfl rfl ⟨by decide, by decide⟩ (Nat.le_of_ble_eq_true rfl) ⟨by decide, by decide⟩ (fun x2 pic1 hx2 => ?_)
  rcases hx2 with ⟨j, hj, rfl, rfl, rfl⟩ | ⟨rfl, hno, rfl⟩
  · refine v_top (v := .ref (ad (100 + 6 * j))) rfl ?_
    obtain ⟨fB, g1, g2, g3, g4, g5⟩ := hBj j (by omega)
    have hn := hBn j (by omega)
    have hbI := nI_toInt (n := j) (by omega)
    have hbx := bx_nI (j := j) (by omega)
    refine v_astore K dX5_proved_5 (by decide) ?_
    refine v_aload K dX5_proved_7 rfl ?_
    refine v_ifnull K dX5_proved_9 ?_
    refine v_aload K dX5_proved_12 rfl ?_
    refine v_iload_n K 2 dX5_proved_14 rfl rfl ?_
    refine cl_X5_122 K dX5_proved_15 fB (c_X0_hasEvent l D cA base pic (100 + 6 * j) (ad (100 + 6 * j)) _ _ _ _ _ (bN (B j)) _ _ _ _ _ _ _ _ _ i ⟨fB, g1, g2, g3, g4, g5⟩ hn) rfl rfl ⟨by decide, by decide⟩ (Nat.le_of_ble_eq_true rfl) ⟨by decide, by decide⟩ (fun x15 pic3 hx4 => ?_)
    rcases hx4 with ⟨rfl, rfl, hi⟩ | ⟨rfl, rfl, hi⟩
    · refine v_if_eq K 34 dX5_proved_18 (by decide) rfl (fun c => absurd c (by decide)) (fun _ => ?_)
      refine v_iload_n K 3 dX5_proved_21 rfl rfl ?_
      refine v_iload K dX5_proved_22 rfl ?_
      refine v_iload K dX5_proved_24 rfl ?_
      refine v_iload K dX5_proved_26 rfl ?_
      refine cl_X5_66 K dX5_proved_28 (c_X5_isEvent l D cA base pic ac a b2 c2) rfl rfl ⟨by decide, by decide⟩ (Nat.le_of_ble_eq_true rfl) ⟨by decide, by decide⟩ (fun x28 pic5 hx6 => ?_)
      rcases hx6 with ⟨rfl, rfl, hpE⟩ | ⟨rfl, rfl, hqE⟩
      · refine v_if_ne K 36 dX5_proved_31 (by decide) rfl (fun _ => ?_) (fun c => absurd c (by decide))
        obtain ⟨i1, hi1, rfl⟩ := ixN i (bN (B j)) (by omega) (by omega) (by omega)
        have hiI := nI_toInt (n := i1) (by omega)
        have hix := bx_nI (j := i1) (by omega)
        refine v_iload_n K 3 dX5_proved_36 rfl rfl ?_
        refine v_iload K dX5_proved_37 rfl ?_
        refine v_iload K dX5_proved_39 rfl ?_
        refine v_iload K dX5_proved_41 rfl ?_
        refine v_lload K dX5_proved_43 rfl ?_
        refine v_iload_n K 2 dX5_proved_45 rfl rfl ?_
        refine cl_X5_177 K dX5_proved_46 (c_X5_leafOf l D cA base pic ac a b2 c2 v _) rfl rfl ⟨by decide, by decide⟩ (Nat.le_of_ble_eq_true rfl) ⟨by decide, by decide⟩ (fun x46 pic7 hx8 => ?_)
        obtain ⟨rfl, rfl⟩ := hx8
        refine v_lstore K dX5_proved_49 (by decide) ?_
        refine v_aload_n K 0 dX5_proved_51 rfl rfl ?_
        refine gf_X5_32 K dX5_proved_52 fE rfl ?_
        refine v_aload K dX5_proved_55 rfl ?_
        refine gf_X5_147 K dX5_proved_57 fB rfl ?_
        refine v_lload K dX5_proved_60 rfl ?_
        refine v_iload_n K 2 dX5_proved_62 rfl rfl ?_
        refine v_aload K dX5_proved_63 rfl ?_
        refine gf_X5_59 K dX5_proved_65 fB rfl ?_
        refine cl_X5_181 K dX5_proved_68 o0 (c_X2_leadsTo l D cA base pic (ad 9) (ad 10) no (bN (B j)) i1 dg _ _ ⟨o0, o1⟩ hno5 hn (by omega)) rfl rfl ⟨by decide, by decide⟩ (Nat.le_of_ble_eq_true rfl) ⟨by decide, by decide⟩ (fun x68 pic9 hx10 => ?_)
        rcases hx10 with ⟨rfl, rfl, hld⟩ | ⟨rfl, rfl, hld⟩
        · refine v_if_eq K 78 dX5_proved_71 (by decide) rfl (fun c => absurd c (by decide)) (fun _ => ?_)
          refine v_iconst (v := nI 1) K dX5_proved_74 (by decide) ?_
          refine v_goto K 79 dX5_proved_75 (by decide) ?_
          exact v_iret K dX5_proved_79 hr hlk (by decide) (by decide) (by first | exact (⟨rfl, by rw [provedF_0 (fun h => hno h.1)]⟩) | exact (⟨rfl, by rw [provedF_0 (fun h => hi (by rw [hbx] at h; exact h.2.1))]⟩) | exact (⟨rfl, by rw [provedF_0 (fun h => hqE h.2.2)]⟩) | exact (⟨rfl, by rw [provedF_1 (fun h => h ⟨by omega, by rw [hbx]; omega, hpE⟩) (by rw [hbx, hix]; exact hld)]; rfl⟩) | exact (⟨rfl, by rw [provedF_2 (fun h => h ⟨by omega, by rw [hbx]; omega, hpE⟩) (by rw [hbx, hix]; exact hld)]; rfl⟩))
        · refine v_if_eq K 78 dX5_proved_71 (by decide) rfl (fun _ => ?_) (fun c => absurd c (by decide))
          refine v_iconst (v := nI 0) K dX5_proved_78 (by decide) ?_
          exact v_iret K dX5_proved_79 hr hlk (by decide) (by decide) (by first | exact (⟨rfl, by rw [provedF_0 (fun h => hno h.1)]⟩) | exact (⟨rfl, by rw [provedF_0 (fun h => hi (by rw [hbx] at h; exact h.2.1))]⟩) | exact (⟨rfl, by rw [provedF_0 (fun h => hqE h.2.2)]⟩) | exact (⟨rfl, by rw [provedF_1 (fun h => h ⟨by omega, by rw [hbx]; omega, hpE⟩) (by rw [hbx, hix]; exact hld)]; rfl⟩) | exact (⟨rfl, by rw [provedF_2 (fun h => h ⟨by omega, by rw [hbx]; omega, hpE⟩) (by rw [hbx, hix]; exact hld)]; rfl⟩))
      · refine v_if_ne K 36 dX5_proved_31 (by decide) rfl (fun c => absurd c (by decide)) (fun _ => ?_)
        refine v_iconst (v := -1) K dX5_proved_34 (by decide) ?_
        exact v_iret K dX5_proved_35 hr hlk (by decide) (by decide) (by first | exact (⟨rfl, by rw [provedF_0 (fun h => hno h.1)]⟩) | exact (⟨rfl, by rw [provedF_0 (fun h => hi (by rw [hbx] at h; exact h.2.1))]⟩) | exact (⟨rfl, by rw [provedF_0 (fun h => hqE h.2.2)]⟩) | exact (⟨rfl, by rw [provedF_1 (fun h => h ⟨by omega, by rw [hbx]; omega, hpE⟩) (by rw [hbx, hix]; exact hld)]; rfl⟩) | exact (⟨rfl, by rw [provedF_2 (fun h => h ⟨by omega, by rw [hbx]; omega, hpE⟩) (by rw [hbx, hix]; exact hld)]; rfl⟩))
    · refine v_if_eq K 34 dX5_proved_18 (by decide) rfl (fun _ => ?_) (fun c => absurd c (by decide))
      refine v_iconst (v := -1) K dX5_proved_34 (by decide) ?_
      exact v_iret K dX5_proved_35 hr hlk (by decide) (by decide) (by first | exact (⟨rfl, by rw [provedF_0 (fun h => hno h.1)]⟩) | exact (⟨rfl, by rw [provedF_0 (fun h => hi (by rw [hbx] at h; exact h.2.1))]⟩) | exact (⟨rfl, by rw [provedF_0 (fun h => hqE h.2.2)]⟩) | exact (⟨rfl, by rw [provedF_1 (fun h => h ⟨by omega, by rw [hbx]; omega, hpE⟩) (by rw [hbx, hix]; exact hld)]; rfl⟩) | exact (⟨rfl, by rw [provedF_2 (fun h => h ⟨by omega, by rw [hbx]; omega, hpE⟩) (by rw [hbx, hix]; exact hld)]; rfl⟩))
  · refine v_top (v := .null) rfl ?_
    refine v_astoreN K dX5_proved_5 (by decide) ?_
    refine v_aloadN K dX5_proved_7 rfl ?_
    refine v_ifnullN K 34 dX5_proved_9 (by decide) ?_
    refine v_iconst (v := -1) K dX5_proved_34 (by decide) ?_
    exact v_iret K dX5_proved_35 hr hlk (by decide) (by decide) (by first | exact (⟨rfl, by rw [provedF_0 (fun h => hno h.1)]⟩) | exact (⟨rfl, by rw [provedF_0 (fun h => hi (by rw [hbx] at h; exact h.2.1))]⟩) | exact (⟨rfl, by rw [provedF_0 (fun h => hqE h.2.2)]⟩) | exact (⟨rfl, by rw [provedF_1 (fun h => h ⟨by omega, by rw [hbx]; omega, hpE⟩) (by rw [hbx, hix]; exact hld)]; rfl⟩) | exact (⟨rfl, by rw [provedF_2 (fun h => h ⟨by omega, by rw [hbx]; omega, hpE⟩) (by rw [hbx, hix]; exact hld)]; rfl⟩))

set_option maxHeartbeats 4000000 in
set_option maxRecDepth 100000 in
theorem c_X5_subscriberAt (l : Launch) (D : va_G) (cA : Nat → ClassId) (base : Nat) (pic : PIC) (ad : Nat → Nat) (nb ns : Nat) (cl : Int32) (S : Nat → Sb) (s1 : Int32) (hE : EObj pic ad nb ns cl) (hSs : SubsP pic cA ad ns S) (hns : ns ≤ 8)  : CQ l yX5_subscriberAt cX5_subscriberAt 2 (some (.object "EventRows$Subscriber")) { frames := 0, cells := 0, slots := 0, locals := 0 } 0 0 D cA base pic [.ref (ad 0), .int s1] (fun r pic1 => (∃ j, j < ns ∧ s1 = nI j ∧ r = some (ad (20 + j)) ∧ pic = pic1) ∨ (r = none ∧ ¬ (0 ≤ s1.toInt ∧ s1.toInt < ns) ∧ pic = pic1)) := by
  refine ofQ (by decide) (Nat.le_of_ble_eq_true rfl) ?_
  intro p e s m below meth c K hr hlk hnm
  have fE := hE
  unfold EObj at fE
  obtain ⟨f11, hSj⟩ := hSs
  refine v_iload_n K 1 dX5_subscriberAt_0 rfl rfl ?_
  refine v_if_lt K 21 dX5_subscriberAt_1 (by decide) rfl (fun c1 => ?_) (fun c1 => ?_)
  · refine v_null K dX5_subscriberAt_21 ?_
    exact v_aret (v := none) K dX5_subscriberAt_22 hr hlk (by decide) (by decide) (Or.inr ⟨rfl, by omega, rfl⟩)
  · refine v_iload_n K 1 dX5_subscriberAt_4 rfl rfl ?_
    refine v_aload_n K 0 dX5_subscriberAt_5 rfl rfl ?_
    refine gf_X5_93 K dX5_subscriberAt_6 fE rfl ?_
    refine v_icmp_ge K 21 dX5_subscriberAt_9 (by decide) rfl (nI_toInt (by omega)) (fun c9 => ?_) (fun c9 => ?_)
    · refine v_null K dX5_subscriberAt_21 ?_
      exact v_aret (v := none) K dX5_subscriberAt_22 hr hlk (by decide) (by decide) (Or.inr ⟨rfl, by omega, rfl⟩)
    · obtain ⟨j, hj, rfl⟩ := ixN s1 ns (by omega) (by omega) (by omega)
      refine v_aload_n K 0 dX5_subscriberAt_12 rfl rfl ?_
      refine gf_X5_38 K dX5_subscriberAt_13 fE rfl ?_
      refine v_iload_n K 1 dX5_subscriberAt_16 rfl rfl ?_
      refine v_aaldS K dX5_subscriberAt_17 f11 (by omega) (by decide) ?_
      refine v_top (v := va_rf (some (ad (20 + j)))) (by rw [sbF_lt (by omega)]) ?_
      refine v_goto K 22 dX5_subscriberAt_18 (by decide) ?_
      exact v_aret K dX5_subscriberAt_22 hr hlk (by decide) (by decide) (Or.inl ⟨j, hj, rfl, rfl, rfl⟩)

set_option maxHeartbeats 4000000 in
set_option maxRecDepth 100000 in
theorem c_X5_place (l : Launch) (D : va_G) (cA : Nat → ClassId) (base : Nat) (pic : PIC) (ad : Nat → Nat) (nb ns : Nat) (cl : Int32) (S : Nat → Sb) (s1 : Int32) (hE : EObj pic ad nb ns cl) (hSs : SubsP pic cA ad ns S) (hns : ns ≤ 8)  : CI l yX5_place cX5_place 3 (some .int) { frames := 1, cells := 0, slots := 0, locals := 21 } 0 0 D cA base pic [.ref (ad 0), .int s1] (fun x9 pic1 => pic = pic1 ∧ x9 = placeF ns S s1) := by
  refine ofI (by decide) (Nat.le_of_ble_eq_true rfl) ?_
  intro p e s m below meth c K hr hlk hnm
  have fE := hE
  unfold EObj at fE
  obtain ⟨f11, hSj⟩ := hSs
  refine v_aload_n K 0 dX5_place_0 rfl rfl ?_
  refine v_iload_n K 1 dX5_place_1 rfl rfl ?_
  refine cl_X5_191 K dX5_place_2 fE (c_X5_subscriberAt l D cA base pic ad nb ns cl S s1 fE ⟨f11, hSj⟩ hns) rfl rfl ⟨by decide, by decide⟩ (Nat.le_of_ble_eq_true rfl) ⟨by decide, by decide⟩ (fun x2 pic1 hx2 => ?_)
  rcases hx2 with ⟨j, hj, rfl, rfl, rfl⟩ | ⟨rfl, hno, rfl⟩
  · refine v_top (v := .ref (ad (20 + j))) rfl ?_
    have fS := hSj j (by omega)
    have hbI := nI_toInt (n := j) (by omega)
    have hbx := bx_nI (j := j) (by omega)
    refine v_astore_n K 2 dX5_place_5 rfl (by decide) ?_
    refine v_aload_n K 2 dX5_place_6 rfl rfl ?_
    refine v_ifnonnull K 14 dX5_place_7 (by decide) ?_
    refine v_bipush (v := nI 100) K dX5_place_14 (by decide) ?_
    refine v_aload_n K 2 dX5_place_16 rfl rfl ?_
    refine gf_X5_198 K dX5_place_17 fS rfl ?_
    refine v_imulN K dX5_place_20 ?_
    refine v_aload_n K 2 dX5_place_21 rfl rfl ?_
    refine gf_X5_195 K dX5_place_22 fS rfl ?_
    refine v_iaddN K dX5_place_25 ?_
    exact v_iret K dX5_place_26 hr hlk (by decide) (by decide) (by first | exact (⟨rfl, by rw [placeF_0 (by omega)]⟩) | exact (⟨rfl, by rw [placeF_1 (by omega), hbx]⟩))
  · refine v_top (v := .null) rfl ?_
    refine v_astoreN_n K 2 dX5_place_5 rfl (by decide) ?_
    refine v_aloadN_n K 2 dX5_place_6 rfl rfl ?_
    refine v_ifnonnullN K dX5_place_7 ?_
    refine v_iconst (v := -1) K dX5_place_10 (by decide) ?_
    refine v_goto K 26 dX5_place_11 (by decide) ?_
    exact v_iret K dX5_place_26 hr hlk (by decide) (by decide) (by first | exact (⟨rfl, by rw [placeF_0 (by omega)]⟩) | exact (⟨rfl, by rw [placeF_1 (by omega), hbx]⟩))

theorem sub_end {pic pic1 : PIC} {cA : Nat → ClassId} {ad : Nat → Nat} {nb ns b1 : Nat} {cl t : Int32} {S : Nat → Sb} (aN : Nat) (FR : ∀ q, ¬ (q = 0 ∨ q = 11 ∨ 20 ≤ q ∧ q < 28) → pic1 q = pic q) (fE : pic1 0 = some (ad 0, .inr (8, [.ref (ad 1), .ref (ad 6), .ref (ad 7), .ref (ad 9), .ref (ad 11), .ref (ad 94), .int (nI nb), .int (nI (ns + 1)), .int cl]))) (f11 : pic1 11 = some (ad 11, .inl (cA 4, 8, .inr (.inr (.inr (.inr (va_up (sbF ad ns) ns (some aN)))))))) (fN : pic1 (20 + ns) = some (aN, sbE t (nI b1) 0)) (hS : ∀ j, j < ns → pic1 (20 + j) = some (ad (20 + j), sbE (S j).1 (nI (S j).2.1) (nI (S j).2.2))) (hns : ns < 8) : nI (ns + 1 - 1) = nI ns ∧ ∃ ad1 : Nat → Nat, (∀ r, r ≠ 20 + ns → ad1 r = ad r) ∧ EObj pic1 ad1 nb (ns + 1) cl ∧ SubsP pic1 cA ad1 (ns + 1) (va_up S ns (t, b1, 0)) ∧ ∀ q, ¬ (q = 0 ∨ q = 11 ∨ 20 ≤ q ∧ q < 28) → pic1 q = pic q := by
  refine ⟨rfl, va_up ad (20 + ns) aN, fun r hr => va_up_ne _ _ hr, ?_, ⟨?_, fun j hj => ?_⟩, FR⟩
  · unfold EObj
    simp only [va_up_ne ad aN (show (0 : Nat) ≠ 20 + ns by omega), va_up_ne ad aN (show (1 : Nat) ≠ 20 + ns by omega), va_up_ne ad aN (show (6 : Nat) ≠ 20 + ns by omega), va_up_ne ad aN (show (7 : Nat) ≠ 20 + ns by omega), va_up_ne ad aN (show (9 : Nat) ≠ 20 + ns by omega), va_up_ne ad aN (show (11 : Nat) ≠ 20 + ns by omega), va_up_ne ad aN (show (94 : Nat) ≠ 20 + ns by omega)]
    exact fE
  · rw [va_up_ne ad aN (show (11 : Nat) ≠ 20 + ns by omega), ← sbF_push]; exact f11
  · by_cases h : j = ns
    · subst h; rw [va_up_self, va_up_self]; exact fN
    · rw [va_up_ne _ _ h, va_up_ne ad aN (show 20 + j ≠ 20 + ns by omega)]; exact hS j (by omega)
set_option maxHeartbeats 4000000 in
set_option maxRecDepth 100000 in
theorem c_X5_subscribe (l : Launch) (D : va_G) (cA : Nat → ClassId) (base : Nat) (pic : PIC) (ad : Nat → Nat) (nb ns : Nat) (cl : Int32) (S : Nat → Sb) (t b : Int32) (hE : EObj pic ad nb ns cl) (hSs : SubsP pic cA ad ns S) (hns : ns ≤ 8) (hnb : nb ≤ 40) (hz : ∀ j, ns ≤ j → j < 8 → pic (20 + j) = none)  : CI l yX5_subscribe cX5_subscribe 3 (some .int) { frames := 2, cells := 1, slots := 3, locals := 40 } 1 3 D cA base pic [.ref (ad 0), .int t, .int b] (fun x9 pic1 => x9 = (subF nb ns S t b).1 ∧ ∃ ad1 : Nat → Nat, (∀ r, r ≠ 20 + ns → ad1 r = ad r) ∧ EObj pic1 ad1 nb (subF nb ns S t b).2.1 cl ∧ SubsP pic1 cA ad1 (subF nb ns S t b).2.1 (subF nb ns S t b).2.2 ∧ ∀ q, ¬ (q = 0 ∨ q = 11 ∨ 20 ≤ q ∧ q < 28) → pic1 q = pic q) := by
  refine ofI (by decide) (Nat.le_of_ble_eq_true rfl) ?_
  intro p e s m below meth c K hr hlk hnm
  have FR : ∀ q, ¬ (q = 0 ∨ q = 11 ∨ 20 ≤ q ∧ q < 28) → pic q = pic q := fun _ _ => rfl
  have fE := hE
  unfold EObj at fE
  have ⟨f11, hSj⟩ := hSs
  refine v_iload_n K 1 dX5_subscribe_0 rfl rfl ?_
  refine cl_X5_185 K dX5_subscribe_1 (c_X5_isTopicOrNone l D cA base pic t) rfl rfl ⟨by decide, by decide⟩ (Nat.le_of_ble_eq_true rfl) ⟨by decide, by decide⟩ (fun x1 pic1 hx2 => ?_)
  rcases hx2 with ⟨rfl, rfl, hpt⟩ | ⟨rfl, rfl, hqt⟩
  · refine v_if_eq K 19 dX5_subscribe_4 (by decide) rfl (fun c => absurd c (by decide)) (fun _ => ?_)
    refine v_iload_n K 2 dX5_subscribe_7 rfl rfl ?_
    refine v_if_lt K 19 dX5_subscribe_8 (by decide) rfl (fun c8 => ?_) (fun c8 => ?_)
    · refine v_iconst (v := -1) K dX5_subscribe_19 (by decide) ?_
      exact v_iret K dX5_subscribe_20 hr hlk (by decide) (by decide) (by first | (rw [subF_0 (fun h => hqt h.1)]; exact ⟨rfl, ad, fun _ _ => rfl, hE, hSs, FR⟩) | (rw [subF_0 (fun h => absurd h.2 (by omega))]; exact ⟨rfl, ad, fun _ _ => rfl, hE, hSs, FR⟩) | (rw [subF_1 (fun h => h ⟨hpt, by omega⟩) (by omega)]; exact ⟨rfl, ad, fun _ _ => rfl, hE, hSs, FR⟩))
    · refine v_iload_n K 2 dX5_subscribe_11 rfl rfl ?_
      refine v_aload_n K 0 dX5_subscribe_12 rfl rfl ?_
      refine gf_X5_90 K dX5_subscribe_13 fE rfl ?_
      refine v_icmp_le K 21 dX5_subscribe_16 (by decide) rfl (nI_toInt (by omega)) (fun c16 => ?_) (fun c16 => ?_)
      · refine v_aload_n K 0 dX5_subscribe_21 rfl rfl ?_
        refine gf_X5_93 K dX5_subscribe_22 fE rfl ?_
        refine v_bipush (v := nI 8) K dX5_subscribe_25 (by decide) ?_
        refine v_icmp_lt K 33 dX5_subscribe_27 (by decide) (nI_toInt (by omega)) (nI_toInt (by omega)) (fun c27 => ?_) (fun c27 => ?_)
        · obtain ⟨b1, hb1, rfl⟩ := ixN b (nb + 1) (by omega) (by omega) (by omega)
          have hbI := nI_toInt (n := b1) (by omega)
          have hbx := bx_nI (j := b1) (by omega)
          have z1 := hz ns (by omega) (by omega)
          have FRs : ∀ q, ¬ (q = 0 ∨ q = 11 ∨ q = 20 + ns) → pic q = pic q := fun _ _ => rfl
          refine v_aload_n K 0 dX5_subscribe_33 rfl rfl ?_
          refine gf_X5_38 K dX5_subscribe_34 fE rfl ?_
          refine v_aload_n K 0 dX5_subscribe_37 rfl rfl ?_
          refine gf_X5_93 K dX5_subscribe_38 fE rfl ?_
          refine nw_X3 K (20 + ns) gw_28 dX5_subscribe_41 (z1) (by decide) (by decide) (fun aN pic3 fN zf4 => ?_)
          replace fE := (zf4 _ (by omega)).trans fE
          replace f11 := (zf4 _ (by omega)).trans f11
          have FR : ∀ q, ¬ (q = 0 ∨ q = 11 ∨ 20 ≤ q ∧ q < 28) → pic3 q = pic q := fun q hq => (zf4 q (by omega)).trans (FR q hq)
          have FRs : ∀ q, ¬ (q = 0 ∨ q = 11 ∨ q = 20 + ns) → pic3 q = pic q := fun q hq => (zf4 q (by omega)).trans (FRs q hq)
          refine v_dup K dX5_subscribe_44 rfl ?_
          refine v_iload_n K 1 dX5_subscribe_45 rfl rfl ?_
          refine v_iload_n K 2 dX5_subscribe_46 rfl rfl ?_
          refine cl_X5_188 K dX5_subscribe_47 (c_X3_init l D cA base pic3 (20 + ns) aN t (nI b1) fN) rfl rfl ⟨by decide, by decide⟩ (Nat.le_of_ble_eq_true rfl) ⟨by decide, by decide⟩ (fun pic5 hx6 => ?_)
          obtain ⟨k0, kf⟩ := hx6
          replace fE := (kf _ (by omega)).trans fE
          replace f11 := (kf _ (by omega)).trans f11
          replace fN := k0
          have FR : ∀ q, ¬ (q = 0 ∨ q = 11 ∨ 20 ≤ q ∧ q < 28) → pic5 q = pic q := fun q hq => (kf q (by omega)).trans (FR q hq)
          have FRs : ∀ q, ¬ (q = 0 ∨ q = 11 ∨ q = 20 + ns) → pic5 q = pic q := fun q hq => (kf q (by omega)).trans (FRs q hq)
          refine v_aastS K dX5_subscribe_50 f11 fN rfl (by omega) (by decide) (fun pic9 zg7 zf8 => ?_)
          replace fE := (zf8 _ (by omega)).trans fE
          replace f11 := zg7
          replace fN := (zf8 _ (by omega)).trans fN
          have FR : ∀ q, ¬ (q = 0 ∨ q = 11 ∨ 20 ≤ q ∧ q < 28) → pic9 q = pic q := fun q hq => (zf8 q (by omega)).trans (FR q hq)
          have FRs : ∀ q, ¬ (q = 0 ∨ q = 11 ∨ q = 20 + ns) → pic9 q = pic q := fun q hq => (zf8 q (by omega)).trans (FRs q hq)
          refine v_aload_n K 0 dX5_subscribe_51 rfl rfl ?_
          refine v_dup K dX5_subscribe_52 rfl ?_
          refine gf_X5_93 K dX5_subscribe_53 fE rfl ?_
          refine v_iconst (v := nI 1) K dX5_subscribe_56 (by decide) ?_
          refine v_iaddN K dX5_subscribe_57 ?_
          refine pf_X5_93 K dX5_subscribe_58 fE (Nat.le_of_ble_eq_true rfl) (fun pic12 zg10 zf11 => ?_)
          replace fE := zg10
          replace f11 := (zf11 _ (by omega)).trans f11
          replace fN := (zf11 _ (by omega)).trans fN
          have FR : ∀ q, ¬ (q = 0 ∨ q = 11 ∨ 20 ≤ q ∧ q < 28) → pic12 q = pic q := fun q hq => (zf11 q (by omega)).trans (FR q hq)
          have FRs : ∀ q, ¬ (q = 0 ∨ q = 11 ∨ q = 20 + ns) → pic12 q = pic q := fun q hq => (zf11 q (by omega)).trans (FRs q hq)
          refine v_aload_n K 0 dX5_subscribe_61 rfl rfl ?_
          refine gf_X5_93 K dX5_subscribe_62 fE rfl ?_
          refine v_iconst (v := nI 1) K dX5_subscribe_65 (by decide) ?_
          refine v_isubN K dX5_subscribe_66 (by omega) ?_
          exact v_iret K dX5_subscribe_67 hr hlk (by decide) (by decide) (by rw [subF_2 (fun h => h ⟨hpt, by omega⟩) (by omega), hbx]; exact sub_end aN FR fE f11 fN (fun j hj => (FRs (20 + j) (by omega)).trans (hSj j hj)) (by omega))
        · refine v_bipush (v := -3) K dX5_subscribe_30 (by decide) ?_
          exact v_iret K dX5_subscribe_32 hr hlk (by decide) (by decide) (by first | (rw [subF_0 (fun h => hqt h.1)]; exact ⟨rfl, ad, fun _ _ => rfl, hE, hSs, FR⟩) | (rw [subF_0 (fun h => absurd h.2 (by omega))]; exact ⟨rfl, ad, fun _ _ => rfl, hE, hSs, FR⟩) | (rw [subF_1 (fun h => h ⟨hpt, by omega⟩) (by omega)]; exact ⟨rfl, ad, fun _ _ => rfl, hE, hSs, FR⟩))
      · refine v_iconst (v := -1) K dX5_subscribe_19 (by decide) ?_
        exact v_iret K dX5_subscribe_20 hr hlk (by decide) (by decide) (by first | (rw [subF_0 (fun h => hqt h.1)]; exact ⟨rfl, ad, fun _ _ => rfl, hE, hSs, FR⟩) | (rw [subF_0 (fun h => absurd h.2 (by omega))]; exact ⟨rfl, ad, fun _ _ => rfl, hE, hSs, FR⟩) | (rw [subF_1 (fun h => h ⟨hpt, by omega⟩) (by omega)]; exact ⟨rfl, ad, fun _ _ => rfl, hE, hSs, FR⟩))
  · refine v_if_eq K 19 dX5_subscribe_4 (by decide) rfl (fun _ => ?_) (fun c => absurd c (by decide))
    refine v_iconst (v := -1) K dX5_subscribe_19 (by decide) ?_
    exact v_iret K dX5_subscribe_20 hr hlk (by decide) (by decide) (by first | (rw [subF_0 (fun h => hqt h.1)]; exact ⟨rfl, ad, fun _ _ => rfl, hE, hSs, FR⟩) | (rw [subF_0 (fun h => absurd h.2 (by omega))]; exact ⟨rfl, ad, fun _ _ => rfl, hE, hSs, FR⟩) | (rw [subF_1 (fun h => h ⟨hpt, by omega⟩) (by omega)]; exact ⟨rfl, ad, fun _ _ => rfl, hE, hSs, FR⟩))

