/-! wounds that come: pure side -/
theorem Wy_inv {N L : zN} {P : Wst → Prop} (hstep : ∀ s r, r < cR N → ¬ s.2.1 ≤ 0 → s.2.2.1 = 0 → Rl N L s.2.2.2.1 s.1 r → P s → P (Ws N r s)) (h8 : cR N ≤ 8) : ∀ (m : Nat) (s : Wst), P s → P (Wy N L m s) := by
  intro m
  induction m with
  | zero => intro s h; exact h
  | succ m ih =>
    intro s h
    rcases Classical.em (¬ s.2.1 ≤ 0 ∧ s.2.2.1 = 0 ∧ ¬ Pk N L s.2.2.2.1 s.1 (cR N) = -1) with q | q
    · rw [Wy_1 q]
      rcases Pk_in (N := N) (L := L) (us := s.2.2.2.1) (t := s.1) (cR N) with z | ⟨r, hr, er, ok⟩
      · exact absurd z q.2.2
      · rw [er, nI_clamp (by omega)]
        exact ih _ (hstep s r hr q.1 q.2.1 ok h)
    · rw [Wy_0 q]; exact h
/-- wounds stay in bounds; what a rule keeps off is no more than it can -/
def WI (N : zN) (s : Wst) : Prop := iv 0 999 s.2.1 ∧ (s.1 < cT N ∧ Al N s.1) ∧ ∀ r, r < 8 → s.2.2.2.2.1 r = 0 ∨ (r < cR N ∧ N (150 + 4 * r) = 0 ∧ iv 0 (N (150 + 4 * r + 3)).toInt (s.2.2.2.2.1 r))
theorem iv_999 (x : Int32) : x ≤ 999 ↔ x.toInt ≤ 999 := by
  rw [Int32.le_iff_toInt_le]
  exact Iff.rfl
theorem iv_0 (x : Int32) : x ≤ 0 ↔ x.toInt ≤ 0 := by
  rw [Int32.le_iff_toInt_le]
  exact Iff.rfl
theorem iv_0' (x : Int32) : 0 ≤ x ↔ 0 ≤ x.toInt := by
  rw [Int32.le_iff_toInt_le]
  exact Iff.rfl
theorem iv_0l (x : Int32) : 0 < x ↔ 0 < x.toInt := by
  rw [Int32.lt_iff_toInt_lt]
  exact Iff.rfl
theorem mnI_iv {a b : Int32} (h1 : 0 ≤ a.toInt) (h2 : 0 ≤ b.toInt) : 0 ≤ (mnI a b).toInt ∧ (mnI a b).toInt ≤ a.toInt ∧ (mnI a b).toInt ≤ b.toInt := by
  unfold mnI
  by_cases q : a ≤ b
  · rw [if_pos q]
    have := Int32.le_iff_toInt_le.mp q
    omega
  · rw [if_neg q]
    have : ¬ a.toInt ≤ b.toInt := fun z => q (Int32.le_iff_toInt_le.mpr z)
    omega
theorem half_iv {a : Int32} (h : iv 0 999 a) : iv 0 999 (a - a / 2) := by
  obtain ⟨h1, h2⟩ := h
  have e : (a / 2).toInt = a.toInt.tdiv 2 := Int32.toInt_div_of_ne_right a 2 (by decide)
  have e2 : a.toInt.tdiv 2 = a.toInt / 2 := Int.tdiv_eq_ediv_of_nonneg h1
  rw [e2] at e
  unfold iv
  rw [ti_sub (by omega) (by omega), e]
  omega
theorem dbl_iv {a : Int32} (h : iv 0 999 a) : iv 0 999 (if 2 * a ≤ 999 then 2 * a else 999) := by
  obtain ⟨h1, h2⟩ := h
  have e : (2 * a).toInt = 2 * a.toInt := by
    rw [Int32.toInt_mul]
    show (2 * a.toInt).bmod _ = _
    exact Int.bmod_eq_of_le (by omega) (by omega)
  by_cases q : 2 * a ≤ 999
  · rw [if_pos q]
    unfold iv
    have := (iv_999 _).mp q
    omega
  · rw [if_neg q]
    exact ⟨by decide, by decide⟩
theorem Ws_I {N L : zN} (hC : CN N) (hQ : ∀ r, r < cR N → QR N r) (s : Wst) (r : Nat) (hr : r < cR N) (h0 : ¬ s.2.1 ≤ 0) (ok : Rl N L s.2.2.2.1 s.1 r) (h : WI N s) : WI N (Ws N r s) := by
  obtain ⟨h1, h2, h3⟩ := h
  obtain ⟨b1, b2, -⟩ := Ws_at hC ok h2.1 h2.2
  have v : N (150 + 4 * r) = 0 → 0 ≤ (mnI s.2.1 (N (150 + 4 * r + 3))).toInt ∧ (mnI s.2.1 (N (150 + 4 * r + 3))).toInt ≤ s.2.1.toInt ∧ (mnI s.2.1 (N (150 + 4 * r + 3))).toInt ≤ (N (150 + 4 * r + 3)).toInt := fun z => mnI_iv h1.1 (by have := (hQ r hr z).1; omega)
  refine ⟨?_, ⟨b1, b2⟩, fun q hq => ?_⟩
  · show iv 0 999 (if N (150 + 4 * r) = 0 then s.2.1 - mnI s.2.1 (N (150 + 4 * r + 3)) else if N (150 + 4 * r) = 1 then s.2.1 - s.2.1 / 2 else if N (150 + 4 * r) = 2 then (if 2 * s.2.1 ≤ 999 then 2 * s.2.1 else 999) else s.2.1)
    by_cases z : N (150 + 4 * r) = 0
    · rw [if_pos z]
      have := v z
      unfold iv at *
      rw [ti_sub (by omega) (by omega)]
      omega
    · rw [if_neg z]
      by_cases z1 : N (150 + 4 * r) = 1
      · rw [if_pos z1]; exact half_iv h1
      · rw [if_neg z1]
        by_cases z2 : N (150 + 4 * r) = 2
        · rw [if_pos z2]; exact dbl_iv h1
        · rw [if_neg z2]; exact h1
  · show upd s.2.2.2.2.1 r _ q = 0 ∨ (_ ∧ _ ∧ iv 0 _ (upd s.2.2.2.2.1 r _ q))
    unfold upd
    by_cases y : q = r
    · rw [if_pos y]
      by_cases z : N (150 + 4 * r) = 0
      · rw [if_pos z, y]
        exact Or.inr ⟨hr, z, (v z).1, (v z).2.2⟩
      · rw [if_neg z]; exact Or.inl rfl
    · rw [if_neg y]
      exact h3 q hq
theorem Wy_I {N L : zN} (hC : CN N) (hQ : WQ N) {t : Nat} {n : Int32} (ht : t < cT N) (al : Al N t) (hn : iv 0 999 n) : WI N (Wy N L 8 (t, n, 0, 0, fun _ => 0, 0)) :=
  Wy_inv (fun s r hr h0 _ ok h => Ws_I hC hQ.2.2.1 s r hr h0 ok h) hC.2.2.1.2 8 _ ⟨hn, ⟨ht, al⟩, fun _ _ => Or.inl rfl⟩
/-! rules that are spent go -/
noncomputable def DrS (r : Nat) (N : zN) : zN := if N (150 + 4 * r) = 0 ∧ N (150 + 4 * r + 3) = 0 then Go 150 4 240 r N else N
noncomputable def DrR : Nat → zN → zN
  | 0, N => N
  | r + 1, N => DrR r (DrS r N)
theorem DrS_1 {r : Nat} {N : zN} (h : N (150 + 4 * r) = 0 ∧ N (150 + 4 * r + 3) = 0) : DrS r N = Go 150 4 240 r N := by unfold DrS; rw [if_pos h]
theorem DrS_0 {r : Nat} {N : zN} (h : ¬ (N (150 + 4 * r) = 0 ∧ N (150 + 4 * r + 3) = 0)) : DrS r N = N := by unfold DrS; rw [if_neg h]
theorem DrS_C {r : Nat} {N : zN} (hC : CN N) (hr : r < cR N) : CN (DrS r N) ∧ r ≤ cR (DrS r N) ∧ (∀ i, i ≠ 240 → (i < 150 ∨ 182 ≤ i) → DrS r N i = N i) ∧ ∀ j q, j < r → q < 4 → DrS r N (150 + 4 * j + q) = N (150 + 4 * j + q) := by
  have h8 := hC.2.2.1.2
  by_cases z : N (150 + 4 * r) = 0 ∧ N (150 + 4 * r + 3) = 0
  · rw [DrS_1 z]
    refine ⟨(GoR_C hC hr).1, ?_, fun i h1 h2 => GoR_o hC ⟨h1, h2⟩, fun j q h1 h2 => GoR_lo hC h1 (by omega) h2⟩
    rw [(GoR_n hC hr).2]
    omega
  · rw [DrS_0 z]
    exact ⟨hC, by omega, fun _ _ _ => rfl, fun _ _ _ _ => rfl⟩
theorem DrR_C : ∀ (r : Nat) (N : zN), CN N → r ≤ cR N → CN (DrR r N) ∧ ∀ i, i ≠ 240 → (i < 150 ∨ 182 ≤ i) → DrR r N i = N i := by
  intro r
  induction r with
  | zero => intro N hC _; exact ⟨hC, fun _ _ _ => rfl⟩
  | succ r ih =>
    intro N hC hr
    obtain ⟨a, b, c, -⟩ := DrS_C hC (show r < cR N by omega)
    obtain ⟨d, e⟩ := ih _ a b
    exact ⟨d, fun i h1 h2 => (e i h1 h2).trans (c i h1 h2)⟩
def QR' (N : zN) (r : Nat) : Prop := N (150 + 4 * r) = 0 → iv 0 99 (N (150 + 4 * r + 3))
theorem DrR_Q : ∀ (r : Nat) (N : zN), CN N → r ≤ cR N → (∀ j, j < r → QR' N j) → (∀ j, r ≤ j → j < cR N → QR N j) → ∀ j, j < cR (DrR r N) → QR (DrR r N) j := by
  intro r
  induction r with
  | zero => intro N hC _ _ h j hj; exact h j (by omega) hj
  | succ r ih =>
    intro N hC hr h1 h2
    have hr' : r < cR N := by omega
    have h8 := hC.2.2.1.2
    obtain ⟨a, b, c, d⟩ := DrS_C hC hr'
    refine ih _ a b (fun j hj => ?_) (fun j hj hj2 => ?_)
    · unfold QR'
      rw [show DrS r N (150 + 4 * j) = N (150 + 4 * j) from d j 0 hj (by omega), d j 3 hj (by omega)]
      exact h1 j (by omega)
    · by_cases z : N (150 + 4 * r) = 0 ∧ N (150 + 4 * r + 3) = 0
      · rw [DrS_1 z] at hj2 ⊢
        rw [(GoR_n hC hr').2] at hj2
        have e : pm r (cR N) j = j + 1 := by unfold pm; rw [if_pos ⟨hj, by omega⟩]
        exact QR_eq (h2 (j + 1) (by omega) (by omega)) (fun q hq => by rw [GoR_at hC (by omega) hq, e])
      · rw [DrS_0 z] at hj2 ⊢
        by_cases y : j = r
        · subst y
          intro s0
          have q := h1 j (by omega) s0
          refine ⟨?_, q.2⟩
          have q1 := q.1
          rcases Int.lt_or_eq_of_le q1 with x | x
          · omega
          · exact absurd ⟨s0, Int32.toInt_inj.mp (by rw [← x]; rfl)⟩ z
        · exact h2 j (by omega) hj2
theorem Go_upd {b w m k i : Nat} {N : zN} {v : Int32} (hi : i < b) (hm : i ≠ m) : Go b w m k (upd N i v) = upd (Go b w m k N) i v := by
  funext j
  have em : upd N i v m = N m := pk_un (Ne.symm hm)
  by_cases z : j = i
  · subst z
    rw [pk_us]
    unfold Go
    rw [if_neg hm, if_neg (by omega), pk_us]
  · rw [pk_un z]
    unfold Go
    rw [em]
    by_cases z1 : j = m
    · rw [if_pos z1, if_pos z1]
    · rw [if_neg z1, if_neg z1]
      by_cases z2 : b + w * k ≤ j ∧ j < b + w * ((N m).toNatClampNeg - 1)
      · rw [if_pos z2, if_pos z2, pk_un (by omega)]
      · rw [if_neg z2, if_neg z2, pk_un z]
theorem DrR_upd {i : Nat} {v : Int32} (hi : i < 150) : ∀ (r : Nat) (N : zN), DrR r (upd N i v) = upd (DrR r N) i v := by
  intro r
  induction r with
  | zero => intro N; rfl
  | succ r ih =>
    intro N
    rw [DrR, DrR]
    have e1 : upd N i v (150 + 4 * r) = N (150 + 4 * r) := pk_un (by omega)
    have e2 : upd N i v (150 + 4 * r + 3) = N (150 + 4 * r + 3) := pk_un (by omega)
    by_cases z : N (150 + 4 * r) = 0 ∧ N (150 + 4 * r + 3) = 0
    · rw [DrS_1 z, DrS_1 (by rw [e1, e2]; exact z), Go_upd (by omega) (by omega), ih]
    · rw [DrS_0 z, DrS_0 (by rw [e1, e2]; exact z), ih]
/-- a thing's wounds, so many more -/
def wv (x y : Int32) : Int32 := if 0 ≤ x + y then (if x + y ≤ 999 then x + y else 999) else 0
theorem wv_iv {x y : Int32} : iv 0 999 (wv x y) := by
  unfold wv
  by_cases q : 0 ≤ x + y
  · rw [if_pos q]
    by_cases q2 : x + y ≤ 999
    · rw [if_pos q2]; exact ⟨(iv_0' _).mp q, (iv_999 _).mp q2⟩
    · rw [if_neg q2]; exact ⟨by decide, by decide⟩
  · rw [if_neg q]; exact ⟨by decide, by decide⟩
theorem wv_add {x y : Int32} (hx : iv 0 999 x) (hy : iv 0 999 y) : (if x + y < (999 : Int32) then x + y else 999) = wv x y := by
  unfold wv iv at *
  have e := ti_add (a := x) (b := y) (by omega) (by omega)
  rw [if_pos ((iv_0' _).mpr (by omega)), mnI_lt]
  rfl
theorem wv_sub {x y : Int32} (hx : iv 0 999 x) (hy : iv 0 999 y) : (if (0 : Int32) < x - y then x - y else 0) = wv x (-y) := by
  unfold wv iv at *
  have e : x + -y = x - y := (Int32.sub_eq_add_neg x y).symm
  rw [e]
  have e := ti_sub (a := x) (b := y) (by omega) (by omega)
  rw [if_pos ((iv_999 _).mpr (by omega))]
  by_cases q : 0 < x - y
  · rw [if_pos q, if_pos (Int32.le_of_lt q)]
  · rw [if_neg q]
    have q2 := Int32.not_lt.mp q
    by_cases q3 : 0 ≤ x - y
    · rw [if_pos q3]; exact Int32.le_antisymm q3 q2
    · rw [if_neg q3]
noncomputable def wy (N : zN) (t : Nat) (n : Int32) : Wst := Wy N (Mk N 5).1 8 (t, n, 0, 0, fun _ => 0, 0)
/-- the rules behind a hurt -/
noncomputable def Sr (N : zN) (w : Wst) : zN := DrR (cR N) (Sp 1 N w.2.2.2.2.1)
noncomputable def wN (N : zN) (t : Nat) (y : Int32) : zN := upd N (10 * t + 4) (wv (N (10 * t + 4)) y)
/-- a hurt, but for the rounds behind it -/
noncomputable def Hs (N : zN) (t : Nat) (n : Int32) (s : Stk) : zN × Stk :=
  if ¬ (wy N t n).2.2.1 = 0 then (wN (Sr N (wy N t n)) (wy N t n).1 (-(wy N t n).2.1), s)
  else if (wy N t n).2.1 ≤ 0 then (Sr N (wy N t n), s)
  else (wN (Sr N (wy N t n)) (wy N t n).1 (wy N t n).2.1, SOff (wN (Sr N (wy N t n)) (wy N t n).1 (wy N t n).2.1) (Mk N 5).1 0 ((1 : Int32) <<< (nI (wy N t n).1 &&& 31)) s)
theorem Sp_sub {x y : Int32} (hx : iv 1 99 x) (hy : iv 0 x.toInt y) : (x - y).toInt = x.toInt - y.toInt ∧ iv 0 99 (x - y) := by
  unfold iv at *
  have e := ti_sub (a := x) (b := y) (by omega) (by omega)
  rw [e]
  omega
theorem Sr_CQ {N : zN} {w : Wst} (hC : CN N) (hQ : WQ N) (hw : WI N w) : CN (Sr N w) ∧ (∀ i, i ≠ 240 → (i < 150 ∨ 182 ≤ i) → Sr N w i = N i) ∧ ∀ r, r < cR (Sr N w) → QR (Sr N w) r := by
  have h8 := hC.2.2.1.2
  obtain ⟨c1, -, -, c4, -⟩ := Sp_CN (fl := 1) (kp := w.2.2.2.2.1) hC
  obtain ⟨a, b⟩ := DrR_C (cR N) (Sp 1 N w.2.2.2.2.1) c1 (by omega)
  refine ⟨a, fun i h1 h2 => (b i h1 h2).trans (Sp_hi h2), ?_⟩
  refine DrR_Q (cR N) (Sp 1 N w.2.2.2.2.1) c1 (by omega) (fun j hj => ?_) (fun j h1 h2 => by omega)
  intro s0
  rw [show Sp 1 N w.2.2.2.2.1 (150 + 4 * j) = N (150 + 4 * j) from Sp_r (k := 0) (by omega)] at s0
  rw [Sp_v (by decide) (by omega)]
  have q := hQ.2.2.1 j hj s0
  rcases hw.2.2 j (by omega) with z | z
  · rw [z, Int32.sub_zero]
    exact q.mono (by omega) (by omega)
  · exact (Sp_sub q z.2.2).2
/-- N' has the things' numbers of N but for wounds, and the same effects and watchers -/
def Ks (N N' : zN) : Prop := (∀ i, i ≠ 240 → (i < 150 ∨ 182 ≤ i) → (∀ t, i ≠ 10 * t + 4) → N' i = N i) ∧ (∀ i, 80 ≤ i → i ≠ 240 → (i < 150 ∨ 182 ≤ i) → N' i = N i)
theorem Hs_CQ {N : zN} {t : Nat} {n : Int32} {s : Stk} (hC : CN N) (hQ : WQ N) (ht : t < cT N) (al : Al N t) (hn : iv 0 999 n) : CN (Hs N t n s).1 ∧ WQ (Hs N t n s).1 ∧ Ks N (Hs N t n s).1 := by
  have wi := Wy_I (L := (Mk N 5).1) hC hQ ht al hn
  change WI N (wy N t n) at wi
  obtain ⟨c1, c2, c3⟩ := Sr_CQ hC hQ wi
  have h8 := hC.1.2
  have h10 := hC.2.1.2
  have r8 := hC.2.2.1.2
  have v8 := hC.2.2.2.2
  have tT : cT (Sr N (wy N t n)) = cT N := by unfold cT; rw [c2 238 (by decide) (by decide)]
  have tE : cE (Sr N (wy N t n)) = cE N := by unfold cE; rw [c2 239 (by decide) (by decide)]
  have tV : cV (Sr N (wy N t n)) = cV N := by unfold cV; rw [c2 241 (by decide) (by decide)]
  have base : CN (Sr N (wy N t n)) ∧ WQ (Sr N (wy N t n)) ∧ Ks N (Sr N (wy N t n)) := by
    refine ⟨c1, ⟨fun u hu => ?_, fun u hu => ?_, c3, fun u hu => ?_⟩, fun i h1 h2 _ => c2 i h1 h2, fun i _ h1 h2 => c2 i h1 h2⟩
    · rw [tT] at hu
      exact QT_eq (hQ.1 u hu) (fun k hk => c2 _ (by omega) (by omega))
    · rw [tE] at hu
      exact QE_eq (hQ.2.1 u hu) (fun k hk => c2 _ (by omega) (by omega))
    · rw [tV] at hu
      exact QV_eq (hQ.2.2.2 u hu) (fun k hk => c2 _ (by omega) (by omega))
  have wnd : ∀ y, CN (wN (Sr N (wy N t n)) (wy N t n).1 y) ∧ WQ (wN (Sr N (wy N t n)) (wy N t n).1 y) ∧ Ks N (wN (Sr N (wy N t n)) (wy N t n).1 y) := by
    intro y
    have hw := wi.2.1.1
    have o : ∀ i, i ≠ 10 * (wy N t n).1 + 4 → wN (Sr N (wy N t n)) (wy N t n).1 y i = Sr N (wy N t n) i := fun i hi => pk_un hi
    have eT : cT (wN (Sr N (wy N t n)) (wy N t n).1 y) = cT (Sr N (wy N t n)) := by unfold cT; rw [o 238 (by omega)]
    have eE : cE (wN (Sr N (wy N t n)) (wy N t n).1 y) = cE (Sr N (wy N t n)) := by unfold cE; rw [o 239 (by omega)]
    have eR : cR (wN (Sr N (wy N t n)) (wy N t n).1 y) = cR (Sr N (wy N t n)) := by unfold cR; rw [o 240 (by omega)]
    have eV : cV (wN (Sr N (wy N t n)) (wy N t n).1 y) = cV (Sr N (wy N t n)) := by unfold cV; rw [o 241 (by omega)]
    obtain ⟨b1, b2, b3⟩ := base
    refine ⟨⟨by rw [o _ (by omega), eT]; exact b1.1, by rw [o _ (by omega), eE]; exact b1.2.1, by rw [o _ (by omega), eR]; exact b1.2.2.1, by rw [o _ (by omega), eV]; exact b1.2.2.2⟩, ⟨fun u hu => ?_, fun u hu => ?_, fun u hu => ?_, fun u hu => ?_⟩, fun i h1 h2 h3 => ?_, fun i h0 h1 h2 => ?_⟩
    · rw [eT] at hu
      have q := b2.1 u hu
      by_cases z : u = (wy N t n).1
      · unfold QT
        rw [o (10 * u) (by omega), o (10 * u + 5) (by omega), o (10 * u + 2) (by omega), o (10 * u + 3) (by omega), o (10 * u + 8) (by omega)]
        refine ⟨q.1, q.2.1, q.2.2.1, q.2.2.2.1, ?_, q.2.2.2.2.2⟩
        unfold wN
        rw [z, pk_us]
        exact wv_iv
      · exact QT_eq q (fun k hk => o _ (by omega))
    · rw [eE] at hu
      exact QE_eq (b2.2.1 u hu) (fun k hk => o _ (by omega))
    · rw [eR] at hu
      have := b1.2.2.1.2
      exact QR_eq (b2.2.2.1 u hu) (fun k hk => o _ (by omega))
    · rw [eV] at hu
      exact QV_eq (b2.2.2.2 u hu) (fun k hk => o _ (by omega))
    · rw [o i (h3 _)]; exact c2 i h1 h2
    · rw [o i (by omega)]; exact c2 i h1 h2
  unfold Hs
  by_cases z : ¬ (wy N t n).2.2.1 = 0
  · rw [if_pos z]; exact wnd _
  · rw [if_neg z]
    by_cases z1 : (wy N t n).2.1 ≤ 0
    · rw [if_pos z1]; exact base
    · rw [if_neg z1]; exact wnd _

