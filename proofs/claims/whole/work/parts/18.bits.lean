def bt (x : Int32) (i : Nat) : Bool := x.toBitVec.getLsbD i
theorem b_ext {x y : Int32} (h : ∀ i, i < 32 → bt x i = bt y i) : x = y := Int32.toBitVec_inj.mp (BitVec.eq_of_getLsbD_eq (fun i hi => h i hi))
theorem b_or (x y : Int32) (i : Nat) : bt (x ||| y) i = (bt x i || bt y i) := by unfold bt; rw [Int32.toBitVec_or, BitVec.getLsbD_or]
theorem b_and (x y : Int32) (i : Nat) : bt (x &&& y) i = (bt x i && bt y i) := by unfold bt; rw [Int32.toBitVec_and, BitVec.getLsbD_and]
theorem b_xor (x y : Int32) (i : Nat) : bt (x ^^^ y) i = (bt x i ^^ bt y i) := by unfold bt; rw [Int32.toBitVec_xor, BitVec.getLsbD_xor]
theorem b_big {x : Int32} {i : Nat} (h : 32 ≤ i) : bt x i = false := BitVec.getLsbD_of_ge _ _ h
theorem b_255 (i : Nat) : bt 255 i = decide (i < 8) := by
  rcases Nat.lt_or_ge i 32 with h | h
  · exact (by decide +kernel : ∀ i, i < 32 → bt 255 i = decide (i < 8)) i h
  · rw [b_big h, decide_eq_false (by omega)]
theorem b_65535 (i : Nat) : bt 65535 i = decide (i < 16) := by
  rcases Nat.lt_or_ge i 32 with h | h
  · exact (by decide +kernel : ∀ i, i < 32 → bt 65535 i = decide (i < 16)) i h
  · rw [b_big h, decide_eq_false (by omega)]
theorem b_m1 : ∀ i, i < 32 → bt (-1) i = true := by decide +kernel
theorem b_0 (i : Nat) : bt 0 i = false := BitVec.getLsbD_zero
theorem s_l : ∀ n, n < 32 → ((nI n &&& 31).toBitVec.smod 32).toNat = n := by decide +kernel
theorem s_u : ∀ n, n < 32 → (((nI n).toUInt32 &&& Int32.toUInt32 31).toBitVec % 32).toNat = n := by decide +kernel
theorem b_shl (n : Nat) (hn : n < 32) (x : Int32) {i : Nat} (hi : i < 32) : bt (x <<< (nI n &&& 31)) i = (decide (n ≤ i) && bt x (i - n)) := by
  unfold bt
  rw [Int32.toBitVec_shiftLeft]
  show (x.toBitVec <<< ((nI n &&& 31).toBitVec.smod 32).toNat).getLsbD i = _
  rw [s_l n hn, BitVec.getLsbD_shiftLeft]
  rcases Nat.lt_or_ge i n with h | h
  · simp [h, Nat.not_le.mpr h]
  · simp [hi, h, Nat.not_lt.mpr h]
theorem b_ushr (n : Nat) (hn : n < 32) (x : Int32) (i : Nat) : bt ((x.toUInt32 >>> ((nI n).toUInt32 &&& Int32.toUInt32 31)).toInt32) i = bt x (n + i) := by
  show (x.toUInt32 >>> ((nI n).toUInt32 &&& Int32.toUInt32 31)).toBitVec.getLsbD i = x.toUInt32.toBitVec.getLsbD (n + i)
  rw [UInt32.toBitVec_shiftRight]
  show (x.toUInt32.toBitVec >>> (((nI n).toUInt32 &&& Int32.toUInt32 31).toBitVec % 32).toNat).getLsbD i = _
  rw [s_u n hn, BitVec.getLsbD_ushiftRight]
theorem b_sshr (n : Nat) (hn : n < 32) (x : Int32) {i : Nat} (hi : i < 32) : bt (x >>> (nI n &&& 31)) i = if n + i < 32 then bt x (n + i) else bt x 31 := by
  unfold bt
  rw [Int32.toBitVec_shiftRight]
  show (x.toBitVec.sshiftRight ((nI n &&& 31).toBitVec.smod 32).toNat).getLsbD i = _
  rw [s_l n hn, BitVec.getLsbD_sshiftRight, BitVec.msb_eq_getLsbD_last]
  simp [hi]
/-! pure words: truth as a number, bits, sets told as bits -/
noncomputable def zb (p : Prop) : Int32 := @ite _ p (Classical.propDecidable p) 1 0
theorem zb_pos {p : Prop} (h : p) : zb p = 1 := by unfold zb; rw [if_pos h]
theorem zb_neg {p : Prop} (h : ¬ p) : zb p = 0 := by unfold zb; rw [if_neg h]
theorem zb0 {p : Prop} : zb p = 0 ↔ ¬ p := by
  constructor
  · intro h q
    rw [zb_pos q] at h
    exact absurd h (by decide)
  · exact zb_neg
theorem zbn {p : Prop} : ¬ zb p = 0 ↔ p := by rw [zb0, Classical.not_not]
theorem zb1 {p : Prop} : zb p = 1 ↔ p := by
  constructor
  · intro h
    exact zbn.mp (by rw [h]; decide)
  · exact zb_pos
theorem zb_B {p : Prop} : zB (zb p) := by
  rcases Classical.em p with h | h
  · exact Or.inr (zb_pos h)
  · exact Or.inl (zb_neg h)
theorem zb_congr {p q : Prop} (h : p ↔ q) : zb p = zb q := by rw [show p = q from propext h]
/-- bit k of x, as the code asks for it -/
def bi (x k : Int32) : Prop := (x >>> (k &&& 31)) &&& 1 = 1
theorem bi01 (y : Int32) : y &&& 1 = 0 ∨ y &&& 1 = 1 := by
  have h : y &&& 1 = nI (y.toBitVec.toNat % 2) := pk_and y 1 rfl
  rw [h]
  rcases Nat.mod_two_eq_zero_or_one y.toBitVec.toNat with q | q <;> rw [q]
  · exact Or.inl rfl
  · exact Or.inr rfl
theorem bi_n0 {x k : Int32} : ¬ (x >>> (k &&& 31)) &&& 1 = 0 ↔ bi x k := by
  unfold bi
  rcases bi01 (x >>> (k &&& 31)) with h | h <;> rw [h] <;> decide
theorem bi_0 {x k : Int32} : (x >>> (k &&& 31)) &&& 1 = 0 ↔ ¬ bi x k := by rw [← bi_n0, Classical.not_not]
theorem b_1 (i : Nat) : bt 1 i = decide (i = 0) := by
  rcases Nat.lt_or_ge i 32 with h | h
  · exact (by decide +kernel : ∀ i, i < 32 → bt 1 i = decide (i = 0)) i h
  · rw [b_big h, decide_eq_false (by omega)]
theorem bi_bt {x : Int32} {k : Nat} (hk : k < 32) : bi x (nI k) ↔ bt x k = true := by
  unfold bi
  constructor
  · intro h
    have h1 : bt ((x >>> (nI k &&& 31)) &&& 1) 0 = bt 1 0 := by rw [h]
    rw [b_and, b_sshr k hk x (by omega), b_1] at h1
    simpa [hk] using h1
  · intro h
    apply b_ext
    intro i hi
    rw [b_and, b_1, b_sshr k hk x hi]
    by_cases h0 : i = 0
    · subst h0
      simp [hk, h]
    · simp [h0]
theorem b_pw {e i : Nat} (he : e < 32) (hi : i < 32) : bt ((1 : Int32) <<< (nI e &&& 31)) i = decide (i = e) := by
  rw [b_shl e he 1 hi, b_1]
  by_cases h : i = e
  · subst h
    simp
  · by_cases h2 : e ≤ i
    · simp [h, h2]
      omega
    · simp [h, h2]
/-- the set of the k below n with p, as bits -/
noncomputable def mask : Nat → (Nat → Prop) → Int32
  | 0, _ => 0
  | n + 1, p => mask n p ||| @ite _ (p n) (Classical.propDecidable _) ((1 : Int32) <<< (nI n &&& 31)) 0
theorem mask_s1 {n : Nat} {p : Nat → Prop} (h : p n) : mask (n + 1) p = mask n p ||| ((1 : Int32) <<< (nI n &&& 31)) := by rw [mask, if_pos h]
theorem mask_s0 {n : Nat} {p : Nat → Prop} (h : ¬ p n) : mask (n + 1) p = mask n p ||| 0 := by rw [mask, if_neg h]
theorem or_0 (x : Int32) : x ||| 0 = x := by
  apply b_ext
  intro i hi
  rw [b_or, b_0, Bool.or_false]
theorem bt_mask {p : Nat → Prop} : ∀ {n : Nat}, n ≤ 32 → ∀ k, k < 32 → (bt (mask n p) k = true ↔ k < n ∧ p k) := by
  intro n
  induction n with
  | zero => intro _ k _; simp [mask, b_0]
  | succ n ih =>
    intro hn k hk
    have h1 := ih (by omega) k hk
    rcases Classical.em (p n) with hp | hp
    · rw [mask_s1 hp, b_or, Bool.or_eq_true, h1, b_pw (by omega) hk, decide_eq_true_eq]
      constructor
      · rintro (⟨q1, q2⟩ | q)
        · exact ⟨by omega, q2⟩
        · subst q; exact ⟨by omega, hp⟩
      · rintro ⟨q1, q2⟩
        rcases Nat.lt_or_ge k n with q | q
        · exact Or.inl ⟨q, q2⟩
        · exact Or.inr (by omega)
    · rw [mask_s0 hp, or_0, h1]
      constructor
      · rintro ⟨q1, q2⟩
        exact ⟨by omega, q2⟩
      · rintro ⟨q1, q2⟩
        rcases Nat.lt_or_ge k n with q | q
        · exact ⟨q, q2⟩
        · have : k = n := by omega
          subst this
          exact absurd q2 hp
theorem bi_mask {n k : Nat} {p : Nat → Prop} (hn : n ≤ 32) (hk : k < 32) : bi (mask n p) (nI k) ↔ k < n ∧ p k := by rw [bi_bt hk, bt_mask hn k hk]
theorem mask_ext {n : Nat} {p : Nat → Prop} (hn : n ≤ 32) {x : Int32} (h : ∀ k, k < 32 → (bi x (nI k) ↔ k < n ∧ p k)) : x = mask n p := by
  apply b_ext
  intro k hk
  have h1 := h k hk
  rw [bi_bt hk] at h1
  have h2 := bt_mask (p := p) hn k hk
  cases e1 : bt x k <;> cases e2 : bt (mask n p) k <;> simp_all
theorem mask_congr {n : Nat} {p q : Nat → Prop} (hn : n ≤ 32) (h : ∀ k, k < n → (p k ↔ q k)) : mask n p = mask n q := by
  apply mask_ext hn
  intro k hk
  rw [bi_mask hn hk]
  constructor
  · rintro ⟨a, b⟩; exact ⟨a, (h k a).mp b⟩
  · rintro ⟨a, b⟩; exact ⟨a, (h k a).mpr b⟩
theorem mask_0 {n : Nat} {p : Nat → Prop} (hn : n ≤ 32) : mask n p = 0 ↔ ∀ k, k < n → ¬ p k := by
  constructor
  · intro h k hk hp
    have h1 := (bi_mask (p := p) hn (show k < 32 by omega)).mpr ⟨hk, hp⟩
    rw [h, bi_bt (by omega), b_0] at h1
    cases h1
  · intro h
    have : (0 : Int32) = mask n p := mask_ext hn (fun k hk => by
      rw [bi_bt hk, b_0]
      constructor
      · intro q; cases q
      · rintro ⟨q1, q2⟩; exact absurd q2 (h k q1))
    exact this.symm
theorem bi_or {x y : Int32} {k : Nat} (hk : k < 32) : bi (x ||| y) (nI k) ↔ bi x (nI k) ∨ bi y (nI k) := by rw [bi_bt hk, bi_bt hk, bi_bt hk, b_or, Bool.or_eq_true]
theorem bi_and {x y : Int32} {k : Nat} (hk : k < 32) : bi (x &&& y) (nI k) ↔ bi x (nI k) ∧ bi y (nI k) := by rw [bi_bt hk, bi_bt hk, bi_bt hk, b_and, Bool.and_eq_true]
theorem bi_pw {e k : Nat} (he : e < 32) (hk : k < 32) : bi ((1 : Int32) <<< (nI e &&& 31)) (nI k) ↔ k = e := by rw [bi_bt hk, b_pw he hk, decide_eq_true_eq]
/-- one goes out of a set -/
theorem bi_out {x : Int32} {e k : Nat} (he : e < 32) (hk : k < 32) : bi (x &&& (((1 : Int32) <<< (nI e &&& 31)) ^^^ (-1))) (nI k) ↔ bi x (nI k) ∧ k ≠ e := by
  rw [bi_bt hk, bi_bt hk, b_and, b_xor, b_pw he hk, b_m1 k hk]
  by_cases h : k = e <;> simp [h]
theorem bi_all0 {x : Int32} : x = 0 ↔ ∀ k, k < 32 → ¬ bi x (nI k) := by
  constructor
  · intro h k hk q
    rw [h, bi_bt hk, b_0] at q
    cases q
  · intro h
    apply b_ext
    intro k hk
    have := h k hk
    rw [bi_bt hk] at this
    rw [b_0]
    simpa using this
theorem bi_zero {k : Nat} (hk : k < 32) : ¬ bi 0 (nI k) := by rw [bi_bt hk, b_0]; simp
