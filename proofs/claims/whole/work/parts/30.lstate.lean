/-! the law's state: the class's world, the reference's world, and what ties them -/
def CS (pic : PIC) (cA : Nat → ClassId) (ad : Nat → Nat) (nb ns hw d no : Nat) (cl : Int32) (lim use beg cau : Nat → Int32) (B : Nat → Bk) (O : Bk) (S : Nat → Sb) (dg : Nat → Int64) : Prop := EObj pic ad nb ns cl ∧ CallsA pic cA ad d lim use beg cau ∧ BlksP pic cA ad hw B ∧ BkP pic cA ad 94 O ∧ (∃ w g, TreeP pic cA (ad 7) (ad 8) w g) ∧ OutP pic cA (ad 9) (ad 10) no dg ∧ SubsP pic cA ad ns S ∧ (∀ q, 100 + 6 * hw ≤ q → q < 340 → pic q = none) ∧ (∀ j, ns ≤ j → j < 8 → pic (20 + j) = none) ∧ (∃ og, pic 12 = some (ad 12, .inl (cA 1, 1, .inr (.inl og))))
def MS (pic : PIC) (cA : Nat → ClassId) (ad : Nat → Nat) (nb ns d no : Nat) (cl : Int32) (lim use beg cau : Nat → Int32) (B : Nat → Bk) (O : Bk) (S : Nat → Sb) (dg : Nat → Int64) : Prop := ∃ (th : Int32) (mac mtp : Nat → Int32) (mvl : Nat → Int64) (mse msz mpr : Nat → Int32) (mro mfi : Nat → Int64) (mto mpb mpa : Nat → Int32) (mlv : Nat → Int64), pic 1000 = some (ad 1000, moE ad th nb cl (nI (bN O)) d no ns) ∧ MCalls pic cA ad lim use beg cau ∧ MEv pic cA ad mac mtp mvl mse ∧ MBl pic cA ad msz mpr mro mfi ∧ MOut pic cA ad dg ∧ MSub pic cA ad mto mpb mpa ∧ MLev pic cA ad mlv ∧ RelB nb B msz mpr mro mfi mac mtp mvl mse ∧ RelE 1280 (bN O) (bE O) cl mac mtp mvl mse ∧ RelS ns S mto mpb mpa
def BegI (d n : Nat) (beg : Nat → Int32) : Prop := ∃ bf : Nat → Nat, (∀ i, i < d → beg i = nI (bf i)) ∧ (∀ i j, i ≤ j → j < d → bf i ≤ bf j) ∧ ∀ i, i < d → bf i ≤ n
def SubI (nb ns : Nat) (S : Nat → Sb) : Prop := ∀ j, j < ns → ((S j).2.1 ≤ nb ∧ (S j).2.2 ≤ 1000) ∧ isTopN (S j).1
def PU (nb ns hw d no : Nat) (beg : Nat → Int32) (B : Nat → Bk) (O : Bk) (S : Nat → Sb) : Prop := d ≤ 8 ∧ nb ≤ hw ∧ hw ≤ 40 ∧ ns ≤ 8 ∧ no ≤ 5 ∧ bN O ≤ 32 ∧ bKp O = 1 ∧ (∀ j, j < hw → bN (B j) ≤ 32) ∧ BegI d (bN O) beg ∧ SubI nb ns S
def LInv (pic : PIC) (cA : Nat → ClassId) (a0 aM aO : Nat) : Prop := ∃ (ad : Nat → Nat) (nb ns hw d no : Nat) (cl : Int32) (lim use beg cau : Nat → Int32) (B : Nat → Bk) (O : Bk) (S : Nat → Sb) (dg : Nat → Int64), (ad 0 = a0 ∧ ad 1000 = aM ∧ ad 12 = aO) ∧ CS pic cA ad nb ns hw d no cl lim use beg cau B O S dg ∧ MS pic cA ad nb ns d no cl lim use beg cau B O S dg ∧ PU nb ns hw d no beg B O S
section LST
variable {pic pic1 : PIC} {cA : Nat → ClassId} {ad ad1 : Nat → Nat} {nb ns hw d no : Nat} {cl : Int32} {lim use beg cau : Nat → Int32} {B : Nat → Bk} {O : Bk} {S : Nat → Sb} {dg : Nat → Int64}
theorem TreeP.kept {aT aR w : Nat} {g : Nat → Int64} (h : TreeP pic cA aT aR w g) (hk : ∀ q, 7 ≤ q → q < 9 → pic1 q = pic q) : TreeP pic1 cA aT aR w g := ⟨(hk 7 (by omega) (by omega)).trans h.1, (hk 8 (by omega) (by omega)).trans h.2⟩
theorem OutP.kept {aO aG n : Nat} (h : OutP pic cA aO aG n dg) (hk : ∀ q, 9 ≤ q → q < 11 → pic1 q = pic q) : OutP pic1 cA aO aG n dg := ⟨(hk 9 (by omega) (by omega)).trans h.1, (hk 10 (by omega) (by omega)).trans h.2⟩
theorem CS.kept (h : CS pic cA ad nb ns hw d no cl lim use beg cau B O S dg) (hh : hw ≤ 40) (hs : ns ≤ 8) (hk : ∀ q, q < 1000 → pic1 q = pic q) : CS pic1 cA ad nb ns hw d no cl lim use beg cau B O S dg := by
  obtain ⟨h1, h2, h3, h4, ⟨w, g, h5⟩, h6, h7, h8, h9, ⟨og, h10⟩⟩ := h
  exact ⟨(hk 0 (by omega)).trans h1, h2.kept (fun q _ _ => hk q (by omega)), h3.kept (fun q hq => hk q (by omega)), h4.kept (fun q _ _ => hk q (by omega)), ⟨w, g, h5.kept (fun q _ _ => hk q (by omega))⟩, h6.kept (fun q _ _ => hk q (by omega)), h7.kept (fun q hq => hk q (by omega)), fun q a b => (hk q (by omega)).trans (h8 q a b), fun j a b => (hk _ (by omega)).trans (h9 j a b), ⟨og, (hk 12 (by omega)).trans h10⟩⟩
theorem MS.kept (h : MS pic cA ad nb ns d no cl lim use beg cau B O S dg) (hk : ∀ q, 1000 ≤ q → pic1 q = pic q) : MS pic1 cA ad nb ns d no cl lim use beg cau B O S dg := by
  obtain ⟨th, mac, mtp, mvl, mse, msz, mpr, mro, mfi, mto, mpb, mpa, mlv, h1, ⟨c1, c2, c3, c4⟩, ⟨v1, v2, v3, v4⟩, ⟨b1, b2, b3, b4⟩, w1, ⟨u1, u2, u3⟩, y1, r1, r2, r3⟩ := h
  exact ⟨th, mac, mtp, mvl, mse, msz, mpr, mro, mfi, mto, mpb, mpa, mlv, (hk _ (by omega)).trans h1, ⟨(hk _ (by omega)).trans c1, (hk _ (by omega)).trans c2, (hk _ (by omega)).trans c3, (hk _ (by omega)).trans c4⟩, ⟨(hk _ (by omega)).trans v1, (hk _ (by omega)).trans v2, (hk _ (by omega)).trans v3, (hk _ (by omega)).trans v4⟩, ⟨(hk _ (by omega)).trans b1, (hk _ (by omega)).trans b2, (hk _ (by omega)).trans b3, (hk _ (by omega)).trans b4⟩, (hk _ (by omega)).trans w1, ⟨(hk _ (by omega)).trans u1, (hk _ (by omega)).trans u2, (hk _ (by omega)).trans u3⟩, (hk _ (by omega)).trans y1, r1, r2, r3⟩
theorem MS.moved (h : MS pic cA ad nb ns d no cl lim use beg cau B O S dg) (ha : ∀ r, 340 ≤ r → ad1 r = ad r) : MS pic cA ad1 nb ns d no cl lim use beg cau B O S dg := by
  obtain ⟨th, mac, mtp, mvl, mse, msz, mpr, mro, mfi, mto, mpb, mpa, mlv, h1, hc, hv, hb, hw1, hu, hy, r1, r2, r3⟩ := h
  refine ⟨th, mac, mtp, mvl, mse, msz, mpr, mro, mfi, mto, mpb, mpa, mlv, ?_, ?_, ?_, ?_, ?_, ?_, ?_, r1, r2, r3⟩
  · simp only [moE, ha 1000 (by omega), ha 1001 (by omega), ha 1002 (by omega), ha 1003 (by omega), ha 1004 (by omega), ha 1005 (by omega), ha 1006 (by omega), ha 1007 (by omega), ha 1008 (by omega), ha 1013 (by omega), ha 1014 (by omega), ha 1015 (by omega), ha 1016 (by omega), ha 1017 (by omega), ha 1020 (by omega), ha 1021 (by omega), ha 1022 (by omega), ha 1023 (by omega)]
    exact h1
  · unfold MCalls; simp only [ha 1013 (by omega), ha 1014 (by omega), ha 1015 (by omega), ha 1016 (by omega)]; exact hc
  · unfold MEv; simp only [ha 1001 (by omega), ha 1002 (by omega), ha 1003 (by omega), ha 1004 (by omega)]; exact hv
  · unfold MBl; simp only [ha 1005 (by omega), ha 1006 (by omega), ha 1007 (by omega), ha 1008 (by omega)]; exact hb
  · unfold MOut; simp only [ha 1017 (by omega)]; exact hw1
  · unfold MSub; simp only [ha 1020 (by omega), ha 1021 (by omega), ha 1022 (by omega)]; exact hu
  · unfold MLev; simp only [ha 1023 (by omega)]; exact hy
theorem BkP.atA {b : Nat} {X : Bk} (h : BkP pic cA ad b X) (ha : ∀ r, b ≤ r → r < b + 6 → ad1 r = ad r) : BkP pic cA ad1 b X := by
  unfold BkP at h ⊢
  rw [ha b (by omega) (by omega), ha (b + 1) (by omega) (by omega), ha (b + 2) (by omega) (by omega), ha (b + 3) (by omega) (by omega), ha (b + 4) (by omega) (by omega), ha (b + 5) (by omega) (by omega)]
  exact h
theorem BlksP.atA (h : BlksP pic cA ad hw B) (ha : ∀ r, r = 6 ∨ 100 ≤ r ∧ r < 100 + 6 * hw → ad1 r = ad r) : BlksP pic cA ad1 hw B := by
  refine ⟨?_, fun j hj => (h.2 j hj).atA (fun r h1 h2 => ha r (by omega))⟩
  have hb : blF ad1 hw = blF ad hw := by
    funext j
    by_cases hj : j < hw
    · rw [blF_lt hj, blF_lt hj, ha _ (by omega)]
    · rw [blF_ge hj, blF_ge hj]
  rw [hb, ha 6 (Or.inl rfl)]
  exact h.1
theorem SubsP.atA (h : SubsP pic cA ad ns S) (ha : ∀ r, r = 11 ∨ 20 ≤ r ∧ r < 20 + ns → ad1 r = ad r) : SubsP pic cA ad1 ns S := by
  refine ⟨?_, fun j hj => by rw [ha (20 + j) (by omega)]; exact h.2 j hj⟩
  have hb : sbF ad1 ns = sbF ad ns := by
    funext j
    by_cases hj : j < ns
    · rw [sbF_lt hj, sbF_lt hj, ha _ (by omega)]
    · rw [sbF, sbF, if_neg hj, if_neg hj]
  rw [hb, ha 11 (Or.inl rfl)]
  exact h.1
theorem CallsA.atA (h : CallsA pic cA ad d lim use beg cau) (ha : ∀ r, r < 6 → ad1 r = ad r) : CallsA pic cA ad1 d lim use beg cau := by
  show CallsP pic cA (ad1 1) (ad1 2) (ad1 3) (ad1 4) (ad1 5) d lim use beg cau
  rw [ha 1 (by omega), ha 2 (by omega), ha 3 (by omega), ha 4 (by omega), ha 5 (by omega)]
  exact h
theorem RelE.mono {o n k : Nat} {E : Evs} {fs : Int32} {mac mtp : Nat → Int32} {mvl : Nat → Int64} {mse : Nat → Int32} (h : RelE o n E fs mac mtp mvl mse) (hk : k ≤ n) : RelE o k E fs mac mtp mvl mse := fun i hi => h i (by omega)
theorem RelB.mono {k : Nat} {msz mpr : Nat → Int32} {mro mfi : Nat → Int64} {mac mtp : Nat → Int32} {mvl : Nat → Int64} {mse : Nat → Int32} (h : RelB nb B msz mpr mro mfi mac mtp mvl mse) (hk : k ≤ nb) : RelB k B msz mpr mro mfi mac mtp mvl mse := fun j hj => h j (by omega)
theorem fail_inv (bf : Nat → Nat) (beg cau : Nat → Int32) : ∀ (d : Nat) (use : Nat → Int32) (cnt : Int32), 0 < d → (∀ i, i < d → beg i = nI (bf i)) → (failF beg cau d use cnt).1 < d ∧ (failF beg cau d use cnt).2.2.1 = nI (bf (failF beg cau d use cnt).1) := by
  intro d
  induction d with
  | zero => intro use cnt h; omega
  | succ d ih =>
    intro use cnt _ hb
    rw [failF]
    by_cases hc : cau d = 0
    · rw [if_pos hc]
      by_cases h0 : d = 0
      · subst h0
        exact ⟨Nat.succ_pos _, hb 0 (by omega)⟩
      · obtain ⟨a1, a2⟩ := ih (popU (d + 1) use) (beg d) (by omega) (fun i hi => hb i (by omega))
        exact ⟨Nat.lt_succ_of_lt a1, a2⟩
    · rw [if_neg hc]
      exact ⟨Nat.lt_succ_self d, hb d (by omega)⟩
theorem BegI.fail {n : Nat} {cnt : Int32} (h : BegI d n beg) (h0 : 0 < d) : ∃ n1, (failF beg cau d use cnt).2.2.1 = nI n1 ∧ n1 ≤ n ∧ (failF beg cau d use cnt).1 < d ∧ BegI (failF beg cau d use cnt).1 n1 beg := by
  obtain ⟨bf, b1, b2, b3⟩ := h
  obtain ⟨a1, a2⟩ := fail_inv bf beg cau d use cnt h0 b1
  exact ⟨_, a2, b3 _ a1, a1, bf, fun i hi => b1 i (by omega), fun i j hij hj => b2 i j hij (by omega), fun i hi => b2 i _ (by omega) a1⟩
theorem BegI.sub {n k : Nat} (h : BegI d n beg) (hk : k ≤ d) : BegI k n beg := by
  obtain ⟨bf, b1, b2, b3⟩ := h
  exact ⟨bf, fun i hi => b1 i (by omega), fun i j hij hj => b2 i j hij (by omega), fun i hi => b3 i (by omega)⟩
theorem BegI.up {n k : Nat} (h : BegI d n beg) (hk : n ≤ k) : BegI d k beg := by
  obtain ⟨bf, b1, b2, b3⟩ := h
  exact ⟨bf, b1, b2, fun i hi => Nat.le_trans (b3 i hi) hk⟩
theorem BegI.push {n : Nat} (h : BegI d n beg) : BegI (d + 1) n (upd beg d (nI n)) := by
  obtain ⟨bf, b1, b2, b3⟩ := h
  refine ⟨fun i => if i < d then bf i else n, fun i hi => ?_, fun i j hij hj => ?_, fun i hi => ?_⟩
  · by_cases hd : i < d
    · rw [pk_un (by omega)]; simp only [if_pos hd]; exact b1 i hd
    · have : i = d := by omega
      subst this
      rw [pk_us]; simp only [if_neg hd]
  · by_cases hd : j < d
    · simp only [if_pos hd, if_pos (show i < d by omega)]; exact b2 i j hij hd
    · simp only [if_neg hd]
      by_cases hi : i < d
      · simp only [if_pos hi]; exact b3 i hi
      · simp only [if_neg hi]; exact Nat.le_refl n
  · by_cases hi : i < d
    · simp only [if_pos hi]; exact b3 i hi
    · simp only [if_neg hi]; exact Nat.le_refl n
theorem begin_inv {n : Nat} {x k : Int32} (hd : d ≤ 8) (h : BegI d n beg) : ∃ n1, (beginF d lim use beg cau (nI n) x k).2.2.2.2.2.2 = nI n1 ∧ n1 ≤ n ∧ (beginF d lim use beg cau (nI n) x k).2.1 ≤ 8 ∧ BegI (beginF d lim use beg cau (nI n) x k).2.1 n1 (beginF d lim use beg cau (nI n) x k).2.2.2.2.1 := by
  by_cases h0 : 0 ≤ x.toInt ∧ x.toInt ≤ 10000
  · by_cases h1 : 8 ≤ d
    · rw [beginF_1 (fun q => q h0) h1]; exact ⟨n, rfl, Nat.le_refl n, hd, h⟩
    · by_cases h2 : 0 < d ∧ (leftF d lim use).toInt < 1
      · rw [beginF_2 (fun q => q h0) h1 h2]
        obtain ⟨n1, a1, a2, a3, a4⟩ := h.fail (cau := cau) (use := use) (cnt := nI n) h2.1
        exact ⟨n1, a1, a2, by show (failF beg cau d use (nI n)).1 ≤ 8; omega, a4⟩
      · rw [beginF_3 (fun q => q h0) h1 h2]; exact ⟨n, rfl, Nat.le_refl n, by show d + 1 ≤ 8; omega, h.push⟩
  · rw [beginF_0 h0]; exact ⟨n, rfl, Nat.le_refl n, hd, h⟩
theorem end_inv {n : Nat} {w : Int32} (hd : d ≤ 8) (h : BegI d n beg) : ∃ n1, (endF d use beg cau (nI n) w).2.2.2 = nI n1 ∧ n1 ≤ n ∧ (endF d use beg cau (nI n) w).2.1 ≤ 8 ∧ BegI (endF d use beg cau (nI n) w).2.1 n1 beg := by
  by_cases h0 : d = 0
  · rw [endF_0 h0]; exact ⟨n, rfl, Nat.le_refl n, hd, h⟩
  · by_cases h1 : w.toInt = 0
    · rw [endF_1 h0 h1]
      obtain ⟨n1, a1, a2, a3, a4⟩ := h.fail (cau := cau) (use := use) (cnt := nI n) (by omega)
      exact ⟨n1, a1, a2, by show (failF beg cau d use (nI n)).1 ≤ 8; omega, a4⟩
    · rw [endF_2 h0 h1]; exact ⟨n, rfl, Nat.le_refl n, by show d - 1 ≤ 8; omega, h.sub (by show d - 1 ≤ d; omega)⟩
abbrev tlE (f : Bool) (n : Nat) (ac a b c : Int32) (v : Int64) (E : Evs) : Evs := (cond f (upd (eA E) n ac) (eA E), cond f (upd (e1 E) n a) (e1 E), cond f (upd (e2 E) n b) (e2 E), cond f (upd (e3 E) n c) (e3 E), cond f (vp_updL (eV E) n v) (eV E))
theorem tell_inv {n : Nat} {ac a b c : Int32} {v : Int64} {E : Evs} {mac mtp : Nat → Int32} {mvl : Nat → Int64} {mse : Nat → Int32} (hd : d ≤ 8) (hn : n ≤ 32) (h : BegI d n beg) (hE : RelE 1280 n E cl mac mtp mvl mse) : ∃ n1, (tellF d lim use beg cau n ac a b c).2.2.2.1 = nI n1 ∧ n1 ≤ 32 ∧ (tellF d lim use beg cau n ac a b c).2.1 ≤ 8 ∧ BegI (tellF d lim use beg cau n ac a b c).2.1 n1 beg ∧ RelE 1280 n1 (tlE (tellF d lim use beg cau n ac a b c).2.2.2.2 n ac a b c v E) cl (cond (tellF d lim use beg cau n ac a b c).2.2.2.2 (upd mac (1280 + n) ac) mac) (cond (tellF d lim use beg cau n ac a b c).2.2.2.2 (tpU mtp (1280 + n) a b c) mtp) (cond (tellF d lim use beg cau n ac a b c).2.2.2.2 (vp_updL mvl (1280 + n) v) mvl) (cond (tellF d lim use beg cau n ac a b c).2.2.2.2 (upd mse (1280 + n) (cl + nI n)) mse) := by
  by_cases h0 : evOK ac a b c
  · by_cases h1 : d = 0
    · rw [tellF_1 (fun q => q h0) h1]; exact ⟨n, rfl, hn, hd, h, hE⟩
    · by_cases h2 : 32 ≤ n
      · rw [tellF_2 (fun q => q h0) h1 h2]; exact ⟨n, rfl, hn, hd, h, hE⟩
      · by_cases h3 : (leftF d lim use).toInt < (costF b c).toInt
        · rw [tellF_3 (fun q => q h0) h1 h2 h3]
          obtain ⟨n1, a1, a2, a3, a4⟩ := h.fail (cau := cau) (use := use) (cnt := nI n) (by omega)
          exact ⟨n1, a1, by omega, by show (failF beg cau d use (nI n)).1 ≤ 8; omega, a4, hE.mono a2⟩
        · rw [tellF_4 (fun q => q h0) h1 h2 h3]
          refine ⟨n + 1, rfl, by omega, hd, h.up (by omega), fun i hi => ?_⟩
          show (upd mac (1280 + n) ac (1280 + i) = upd (eA E) n ac i ∧ tpU mtp (1280 + n) a b c (3 * (1280 + i)) = upd (e1 E) n a i ∧ tpU mtp (1280 + n) a b c (3 * (1280 + i) + 1) = upd (e2 E) n b i ∧ tpU mtp (1280 + n) a b c (3 * (1280 + i) + 2) = upd (e3 E) n c i ∧ vp_updL mvl (1280 + n) v (1280 + i) = vp_updL (eV E) n v i ∧ upd mse (1280 + n) (cl + nI n) (1280 + i) = cl + nI i) ∧ topOK (upd (e1 E) n a i) (upd (e2 E) n b i) (upd (e3 E) n c i)
          unfold tpU
          by_cases hq : i = n
          · subst hq
            rw [pk_us, pk_us, pk_us, pk_us, pk_us, pk_us, pk_uLs, pk_uLs, pk_us, pk_un (by omega), pk_un (by omega), pk_us, pk_un (by omega), pk_us]
            exact ⟨⟨rfl, rfl, rfl, rfl, rfl, rfl⟩, h0.2.1, h0.2.2.1, h0.2.2.2.1, h0.2.2.2.2⟩
          · rw [pk_un (by omega), pk_un (by omega), pk_un (by omega), pk_un (by omega), pk_un (by omega), pk_un (by omega), pk_un (by omega), pk_un (by omega), pk_un (by omega), pk_un (by omega), pk_un (by omega), pk_un (by omega), pk_un (by omega), pk_un (by omega), pk_uLn (by omega), pk_uLn (by omega), pk_un (by omega)]
            exact hE i (by omega)
  · rw [tellF_0 h0]; exact ⟨n, rfl, hn, hd, h, hE⟩
theorem SubI.mv {k : Nat} (h : SubI nb ns S) (hk : k ≤ nb) : SubI k ns (mvF S k) := by
  intro j hj
  obtain ⟨⟨h1, h2⟩, h3⟩ := h j hj
  unfold mvF
  by_cases hq : k ≤ (S j).2.1
  · rw [if_pos hq]; exact ⟨⟨Nat.le_refl k, Nat.zero_le _⟩, h3⟩
  · rw [if_neg hq]; exact ⟨⟨by omega, h2⟩, h3⟩
theorem back_inv {n : Int32} (h : SubI nb ns S) : (backF d nb B S n).2.1 ≤ nb ∧ SubI (backF d nb B S n).2.1 ns (backF d nb B S n).2.2 := by
  by_cases h0 : 0 ≤ n.toInt ∧ n.toInt ≤ nb
  · by_cases h1 : 0 < d
    · rw [backF_1 (fun q => q h0) h1]; exact ⟨Nat.le_refl nb, h⟩
    · rw [backF_2 (fun q => q h0) h1]; exact ⟨Nat.sub_le _ _, h.mv (Nat.sub_le _ _)⟩
  · rw [backF_0 h0]; exact ⟨Nat.le_refl nb, h⟩
theorem sub_inv {t b : Int32} (hs : ns ≤ 8) (h : SubI nb ns S) : (subF nb ns S t b).2.1 ≤ 8 ∧ ns ≤ (subF nb ns S t b).2.1 ∧ SubI nb (subF nb ns S t b).2.1 (subF nb ns S t b).2.2 := by
  by_cases h0 : isTopN t ∧ 0 ≤ b.toInt ∧ b.toInt ≤ nb
  · by_cases h1 : 8 ≤ ns
    · rw [subF_1 (fun q => q h0) h1]; exact ⟨hs, Nat.le_refl ns, h⟩
    · rw [subF_2 (fun q => q h0) h1]
      refine ⟨by show ns + 1 ≤ 8; omega, Nat.le_succ ns, fun j hj => ?_⟩
      show ((va_up S ns (t, bx b, 0) j).2.1 ≤ nb ∧ (va_up S ns (t, bx b, 0) j).2.2 ≤ 1000) ∧ isTopN (va_up S ns (t, bx b, 0) j).1
      by_cases hq : j = ns
      · subst hq
        rw [va_up_self]
        exact ⟨⟨by show b.toInt.toNat ≤ nb; omega, Nat.zero_le _⟩, h0.1⟩
      · rw [va_up_ne _ _ hq]
        have hj9 : j < ns + 1 := hj
        exact h j (by omega)
  · rw [subF_0 h0]; exact ⟨hs, Nat.le_refl ns, h⟩
theorem nxF_bd {t : Int32} {b0 i0 : Nat} (hB : ∀ j, j < nb → bN (B j) ≤ 32) : (nxF B t nb b0 i0).2.1 ≤ nb ∧ (nxF B t nb b0 i0).2.2 ≤ 1000 := by
  unfold nxF
  by_cases hex : ∃ r : Int32 × Nat × Nat, nxR B t nb b0 i0 r.1 r.2.1 r.2.2
  · rw [dif_pos hex]
    have hr := Classical.choose_spec hex
    rcases hr with ⟨j, i, h1, h2, h3, h4, h5, h6, h7⟩ | ⟨h1, h2, h3, h4⟩
    · have h8 := hB j h1
      have h9 := h3.1
      rw [h6, h7]
      exact ⟨by omega, by omega⟩
    · rw [h3, h4]; exact ⟨Nat.le_refl nb, Nat.zero_le _⟩
  · rw [dif_neg hex]; exact ⟨Nat.zero_le _, Nat.zero_le _⟩
theorem next_inv {s1 : Int32} (hB : ∀ j, j < nb → bN (B j) ≤ 32) (h : SubI nb ns S) : SubI nb ns (nextF nb ns B S s1).2 := by
  by_cases h0 : 0 ≤ s1.toInt ∧ s1.toInt < ns
  · rw [nextF_1 (fun q => q h0)]
    intro j hj
    show ((va_up S (bx s1) _ j).2.1 ≤ nb ∧ (va_up S (bx s1) _ j).2.2 ≤ 1000) ∧ isTopN (va_up S (bx s1) _ j).1
    by_cases hq : j = bx s1
    · subst hq
      rw [va_up_self]
      exact ⟨nxF_bd hB, (h _ hj).2⟩
    · rw [va_up_ne _ _ hq]; exact h j hj
  · rw [nextF_0 h0]; exact h
theorem prune_inv {b : Int32} (h : ∀ j, j < hw → bN (B j) ≤ 32) : ∀ j, j < hw → bN ((pruneF nb B b).2 j) ≤ 32 := by
  have key : ∀ j, j < hw → bN (va_up B (bx b) (bN (B (bx b)), 0, (B (bx b)).2.2) j) ≤ 32 := fun j hj => by
    by_cases hq : j = bx b
    · subst hq; rw [va_up_self]; exact h _ hj
    · rw [va_up_ne _ _ hq]; exact h j hj
  by_cases h0 : 0 ≤ b.toInt ∧ b.toInt < nb
  · by_cases h1 : (bKp (B (bx b))).toInt = 0
    · rw [pruneF_1 (fun q => q h0) h1]; exact key
    · rw [pruneF_2 (fun q => q h0) h1]; exact key
  · rw [pruneF_0 h0]; exact h
theorem path_inv {b i : Int32} (h : no ≤ 5) : (pathF nb B no dg b i).2.1 ≤ 5 := by
  by_cases h0 : (0 ≤ b.toInt ∧ b.toInt < nb) ∧ 0 ≤ i.toInt ∧ i.toInt < bN (B (bx b))
  · by_cases h1 : (bKp (B (bx b))).toInt = 0
    · rw [pathF_1 (fun q => q h0) h1]; exact h
    · rw [pathF_2 (fun q => q h0) h1]; exact pdF_le _ _ _ _ 5
  · rw [pathF_0 h0]; exact h
theorem lay_inv {v : Int64} (h : no ≤ 5) : (layF no dg v).2.1 ≤ 5 := by
  by_cases h0 : 5 ≤ no
  · rw [layF_0 h0]; exact h
  · rw [layF_1 h0]; show no + 1 ≤ 5; omega
end LST
