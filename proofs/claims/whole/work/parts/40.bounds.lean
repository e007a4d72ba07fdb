/-! numbers in their bounds -/
def iv (a b : Int) (x : Int32) : Prop := a ≤ x.toInt ∧ x.toInt ≤ b
theorem iv.mono {a b c d : Int} {x : Int32} (h : iv a b x) (h1 : c ≤ a) (h2 : b ≤ d) : iv c d x := ⟨Int.le_trans h1 h.1, Int.le_trans h.2 h2⟩
theorem ti_add {a b : Int32} (h1 : -2147483648 ≤ a.toInt + b.toInt) (h2 : a.toInt + b.toInt < 2147483648) : (a + b).toInt = a.toInt + b.toInt := by
  rw [Int32.toInt_add]
  exact Int.bmod_eq_of_le (by omega) (by omega)
theorem ti_sub {a b : Int32} (h1 : -2147483648 ≤ a.toInt - b.toInt) (h2 : a.toInt - b.toInt < 2147483648) : (a - b).toInt = a.toInt - b.toInt := by
  rw [Int32.toInt_sub]
  exact Int.bmod_eq_of_le (by omega) (by omega)
theorem ti_neg {a : Int32} (h1 : -2147483648 < a.toInt) : (-a).toInt = -a.toInt := by
  have := Int32.toInt_lt a
  rw [Int32.toInt_neg]
  exact Int.bmod_eq_of_le (by omega) (by omega)
theorem iv_of {a b : Int} {x A B : Int32} (h : A ≤ x ∧ x ≤ B) (hA : A.toInt = a) (hB : B.toInt = b) : iv a b x := by
  have h1 := Int32.le_iff_toInt_le.mp h.1
  have h2 := Int32.le_iff_toInt_le.mp h.2
  rw [hA] at h1
  rw [hB] at h2
  exact ⟨h1, h2⟩
theorem iv_to {a b : Int} {x A B : Int32} (h : iv a b x) (hA : A.toInt = a) (hB : B.toInt = b) : A ≤ x ∧ x ≤ B := by
  refine ⟨Int32.le_iff_toInt_le.mpr ?_, Int32.le_iff_toInt_le.mpr ?_⟩
  · rw [hA]; exact h.1
  · rw [hB]; exact h.2
/-- a thing that may stand in the row -/
def QT (N : zN) (t : Nat) : Prop := (N (10 * t) = 0 ∨ N (10 * t) = 1) ∧ (N (10 * t + 5) = 0 ∨ N (10 * t + 5) = 1) ∧ iv 0 99 (N (10 * t + 2)) ∧ iv 0 99 (N (10 * t + 3)) ∧ iv 0 999 (N (10 * t + 4)) ∧ iv (-200) 200 (N (10 * t + 8))
def QE (N : zN) (e : Nat) : Prop := iv 0 5 (N (80 + 7 * e + 1)) ∧ iv 0 5 (N (80 + 7 * e + 2)) ∧ (¬ N (80 + 7 * e + 2) = 0 → iv 0 7 (N (80 + 7 * e + 3))) ∧ iv (-9) 9 (N (80 + 7 * e + 4)) ∧ iv (-9) 9 (N (80 + 7 * e + 5)) ∧ iv 0 9 (N (80 + 7 * e + 6))
def QR (N : zN) (r : Nat) : Prop := N (150 + 4 * r) = 0 → iv 1 99 (N (150 + 4 * r + 3))
def QV (N : zN) (w : Nat) : Prop := iv 0 9 (N (182 + 7 * w + 4))
def WQ (N : zN) : Prop := (∀ t, t < cT N → QT N t) ∧ (∀ e, e < cE N → QE N e) ∧ (∀ r, r < cR N → QR N r) ∧ (∀ w, w < cV N → QV N w)
theorem WQ.n {N : zN} (h : WQ N) : WN N := ⟨fun t ht => (h.1 t ht).2.1, fun e he => iv_to (h.2.1 e he).1 rfl rfl⟩
theorem WQ.o {N : zN} (h : WQ N) : WO N := fun t ht => (h.1 t ht).1
theorem QT_eq {N N' : zN} {t : Nat} (h : QT N t) (e : ∀ k, k < 10 → N' (10 * t + k) = N (10 * t + k)) : QT N' t := by
  unfold QT
  rw [show N' (10 * t) = N (10 * t) from e 0 (by omega), e 2 (by omega), e 3 (by omega), e 4 (by omega), e 5 (by omega), e 8 (by omega)]
  exact h
theorem QE_eq {N N' : zN} {t u : Nat} (h : QE N u) (e : ∀ k, k < 7 → N' (80 + 7 * t + k) = N (80 + 7 * u + k)) : QE N' t := by
  unfold QE
  rw [e 1 (by omega), e 2 (by omega), e 3 (by omega), e 4 (by omega), e 5 (by omega), e 6 (by omega)]
  exact h
theorem QR_eq {N N' : zN} {t u : Nat} (h : QR N u) (e : ∀ k, k < 4 → N' (150 + 4 * t + k) = N (150 + 4 * u + k)) : QR N' t := by
  unfold QR
  rw [show N' (150 + 4 * t) = N (150 + 4 * u) from e 0 (by omega), e 3 (by omega)]
  exact h
theorem QV_eq {N N' : zN} {t u : Nat} (h : QV N u) (e : ∀ k, k < 7 → N' (182 + 7 * t + k) = N (182 + 7 * u + k)) : QV N' t := by
  unfold QV
  rw [e 4 (by omega)]
  exact h
/-! how strong a thing can be -/
def bdL (n : Nat) (B : Int) (L : zN) : Prop := ∀ t, t < n → iv (-B) B (L (4 * t + 2)) ∧ iv (-B) B (L (4 * t + 3))
theorem Do_bd {N L : zN} {e : Nat} {B : Int} (h0 : 9 ≤ B) (hB : B ≤ 1000) (hq : QE N e) (h : bdL (cT N) B L) : bdL (cT N) (B + 9) (Do N L e) := by
  intro t ht
  obtain ⟨a, b⟩ := h t ht
  rcases Classical.em (SE N L e t) with s | s
  · rw [Do_in ht s (by omega), Do_in ht s (by omega)]
    obtain ⟨-, -, -, q4, q5, -⟩ := hq
    show iv (-(B + 9)) (B + 9) (foU (N (80 + 7 * e + 1)) (N (80 + 7 * e + 4)) (L (4 * t + 2)) (L (4 * t + 3))) ∧ iv (-(B + 9)) (B + 9) (guU (N (80 + 7 * e + 1)) (N (80 + 7 * e + 5)) (L (4 * t + 2)) (L (4 * t + 3)))
    unfold foU guU
    have f1 : iv (-(B + 9)) (B + 9) (L (4 * t + 2) + N (80 + 7 * e + 4)) := by
      unfold iv at *
      rw [ti_add (by omega) (by omega)]
      omega
    have f2 : iv (-(B + 9)) (B + 9) (L (4 * t + 3) + N (80 + 7 * e + 5)) := by
      unfold iv at *
      rw [ti_add (by omega) (by omega)]
      omega
    have a' := a.mono (c := -(B + 9)) (d := B + 9) (by omega) (by omega)
    have b' := b.mono (c := -(B + 9)) (d := B + 9) (by omega) (by omega)
    have q4' := q4.mono (c := -(B + 9)) (d := B + 9) (by omega) (by omega)
    have q5' := q5.mono (c := -(B + 9)) (d := B + 9) (by omega) (by omega)
    constructor
    · split
      · exact a'
      · split
        · exact q4'
        · split
          · exact f1
          · exact b'
    · split
      · exact b'
      · split
        · exact q5'
        · split
          · exact f2
          · exact a'
  · rw [Do_out (fun z => s z.2) (by omega), Do_out (fun z => s z.2) (by omega)]
    exact ⟨a.mono (by omega) (by omega), b.mono (by omega) (by omega)⟩
theorem lyr_bd {N : zN} (hC : CN N) (hq : ∀ e, e < cE N → QE N e) : ∀ (m : Nat) (S : Int32) (X D : zN) (c : Nat), (∀ k, k < 32 → bi S (nI k) → k < cE N) → c + m ≤ 60 → bdL (cT N) (99 + 9 * c) X → bdL (cT N) (99 + 9 * (lyr N m S X D c).2.2) (lyr N m S X D c).1 := by
  have h10 := hC.2.1.2
  intro m
  induction m with
  | zero => intro S X D c _ _ h; exact h
  | succ m ih =>
    intro S X D c hs hc h
    rw [lyr]
    by_cases z : S = 0
    · rw [if_pos z]; exact h
    · rw [if_neg z]
      obtain ⟨a, b⟩ := Nx_in (N := N) (L := X) (fun k hk hb => by have := hs k hk hb; omega) z
      refine ih _ _ _ _ (fun k hk hb => hs k hk ((bi_out (by omega) hk).mp hb).1) (by omega) ?_
      have := Do_bd (e := Nx N X S) (by omega) (by omega) (hq _ (hs _ (by omega) b)) h
      rw [show (99 + 9 * ((c + 1 : Nat) : Int)) = 99 + 9 * (c : Int) + 9 by omega]
      exact this
theorem Mk_bd {N : zN} (hC : CN N) (hQ : WQ N) : ∀ l, l ≤ 5 → bdL (cT N) (99 + 9 * (Mk N l).2.2) (Mk N l).1 := by
  have h10 := hC.2.1.2
  intro l
  induction l with
  | zero =>
    intro _ t ht
    have q := hQ.1 t ht
    show iv _ _ (B0 N _) ∧ iv _ _ (B0 N _)
    unfold B0
    rw [if_neg (by omega), if_neg (by omega), if_pos (by omega), if_neg (by omega), if_neg (by omega), if_neg (by omega), show (4 * t + 2) / 4 = t by omega, show (4 * t + 3) / 4 = t by omega]
    exact ⟨q.2.2.1.mono (by show -(99 + 9 * ((0 : Nat) : Int)) ≤ _; omega) (by show _ ≤ 99 + 9 * ((0 : Nat) : Int); omega), q.2.2.2.1.mono (by show -(99 + 9 * ((0 : Nat) : Int)) ≤ _; omega) (by show _ ≤ 99 + 9 * ((0 : Nat) : Int); omega)⟩
  | succ l ih =>
    intro hl
    rw [Mk]
    have := Mk_le h10 (show l ≤ 5 by omega)
    exact lyr_bd hC hQ.2.1 _ _ _ _ _ (Wk_in hC) (by omega) (ih (by omega))
theorem Mk_fo {N : zN} {t : Nat} (hC : CN N) (hQ : WQ N) (ht : t < cT N) : iv (-200) 200 ((Mk N 5).1 (4 * t + 2)) := by
  have a := (Mk_bd hC hQ 5 (by omega) t ht).1
  have := Mk_le hC.2.1.2 (show 5 ≤ 5 by omega)
  exact a.mono (by omega) (by omega)
/-- what is buried stays in bounds -/
theorem Bu_WQ {N : zN} (hC : CN N) (hQ : WQ N) {D : Int32} : WQ (Bu N (Mk N 5).1 D) := by
  obtain ⟨-, t1, t2, t3, t4⟩ := Bu_CN (L := (Mk N 5).1) (D := D) hC
  have h8 := hC.1.2
  refine ⟨fun t ht => ?_, fun e he => ?_, fun r hr => ?_, fun w hw => ?_⟩
  · rw [t1] at ht
    have q := hQ.1 t ht
    rcases Classical.em (bi D (nI t)) with b | b
    · unfold QT
      rw [show Bu N (Mk N 5).1 D (10 * t) = N (10 * t) from by have := Bu_in (L := (Mk N 5).1) (k := 0) ht b (by omega); rw [if_neg (by decide), if_neg (by decide)] at this; exact this, Bu_in ht b (by omega), Bu_in ht b (by omega), Bu_in ht b (by omega), Bu_in ht b (by omega), Bu_in ht b (by omega), if_pos rfl, if_neg (by decide), if_neg (by decide), if_neg (by decide), if_neg (by decide), if_neg (by decide), if_neg (by decide), if_neg (by decide), if_pos (by decide)]
      exact ⟨q.1, Or.inl rfl, q.2.2.1, q.2.2.2.1, q.2.2.2.2.1, Mk_fo hC hQ ht⟩
    · exact QT_eq q (fun k hk => Bu_out (fun z => b z.2) hk)
  · rw [t2] at he
    exact QE_eq (hQ.2.1 e he) (fun k _ => Bu_hi hC (by omega))
  · rw [t3] at hr
    exact QR_eq (hQ.2.2.1 r hr) (fun k _ => Bu_hi hC (by omega))
  · rw [t4] at hw
    exact QV_eq (hQ.2.2.2 w hw) (fun k _ => Bu_hi hC (by omega))
theorem Ro_CQ {pl : Prop} {m : Nat} {N : zN} {s : Stk} (hC : CN N) (hQ : WQ N) : CN (Ro pl m N s).1 ∧ WQ (Ro pl m N s).1 :=
  Ro_ind (P := fun N => CN N ∧ WQ N) (fun _ h => h.1) (fun _ h => ⟨(Bu_CN h.1).1, Bu_WQ h.1 h.2⟩) m N s ⟨hC, hQ⟩
theorem Ro_cnt {pl : Prop} {N0 : zN} : ∀ (m : Nat) (N : zN) (s : Stk), CN N → (cT N = cT N0 ∧ cV N = cV N0) → (cT (Ro pl m N s).1 = cT N0 ∧ cV (Ro pl m N s).1 = cV N0) := fun m N s hC h =>
  (Ro_ind (P := fun N => CN N ∧ cT N = cT N0 ∧ cV N = cV N0) (fun _ h => h.1) (fun _ h => ⟨(Bu_CN h.1).1, (Bu_CN h.1).2.1.trans h.2.1, (Bu_CN h.1).2.2.2.2.trans h.2.2⟩) m N s ⟨hC, h⟩).2

