/-! the way of wounds: the reference -/
/-- the row N when rules have kept off kp -/
def Sp (fl : Int32) (N kp : zN) : zN := fun i => if ¬ fl = 0 ∧ 150 ≤ i ∧ i < 182 ∧ (i - 150) % 4 = 3 then N i - kp ((i - 150) / 4) else N i
theorem Sp_hi {fl : Int32} {N kp : zN} {i : Nat} (h : i < 150 ∨ 182 ≤ i) : Sp fl N kp i = N i := by
  unfold Sp
  rw [if_neg (fun z => by omega)]
theorem Sp_r {fl : Int32} {N kp : zN} {r k : Nat} (hk : k < 3) : Sp fl N kp (150 + 4 * r + k) = N (150 + 4 * r + k) := by
  unfold Sp
  rw [if_neg (fun z => by omega)]
theorem Sp_v0 {fl : Int32} {N kp : zN} {r : Nat} (h0 : kp r = 0) : Sp fl N kp (150 + 4 * r + 3) = N (150 + 4 * r + 3) := by
  unfold Sp
  split
  · rw [show (150 + 4 * r + 3 - 150) / 4 = r by omega, h0, Int32.sub_zero]
  · rfl
theorem Sp_v {fl : Int32} {N kp : zN} {r : Nat} (hf : ¬ fl = 0) (hr : r < 8) : Sp fl N kp (150 + 4 * r + 3) = N (150 + 4 * r + 3) - kp r := by
  unfold Sp
  rw [if_pos ⟨hf, by omega, by omega, by omega⟩, show (150 + 4 * r + 3 - 150) / 4 = r by omega]
theorem Sp_0 {N kp : zN} : Sp 0 N kp = N := by
  funext i
  unfold Sp
  rw [if_neg (fun z => z.1 rfl)]
theorem Sp_z {fl : Int32} {N : zN} : Sp fl N (fun _ => 0) = N := by
  funext i
  unfold Sp
  split
  · rw [Int32.sub_zero]
  · rfl
theorem upd_id {f : zN} {k : Nat} {v : Int32} (h : v = f k) : upd f k v = f := by
  funext i
  unfold upd
  by_cases q : i = k
  · rw [if_pos q, h, q]
  · rw [if_neg q]
theorem Sp_up {fl : Int32} {N kp : zN} {r : Nat} {x : Int32} (hr : r < 8) (hf : ¬ fl = 0) (h0 : kp r = 0) : upd (Sp fl N kp) (150 + 4 * r + 3) (N (150 + 4 * r + 3) - x) = Sp fl N (upd kp r x) := by
  funext i
  by_cases q : i = 150 + 4 * r + 3
  · subst q
    rw [Sp_v hf hr]
    simp [upd]
  · unfold Sp upd
    dsimp only
    rw [if_neg q]
    by_cases z : ¬ fl = 0 ∧ 150 ≤ i ∧ i < 182 ∧ (i - 150) % 4 = 3
    · rw [if_pos z, if_pos z, if_neg (by omega)]
    · rw [if_neg z, if_neg z]
theorem Sp_CN {fl : Int32} {N kp : zN} (hC : CN N) : CN (Sp fl N kp) ∧ cT (Sp fl N kp) = cT N ∧ cE (Sp fl N kp) = cE N ∧ cR (Sp fl N kp) = cR N ∧ cV (Sp fl N kp) = cV N := by
  have e : ∀ i, 182 ≤ i → Sp fl N kp i = N i := fun i hi => Sp_hi (Or.inr hi)
  have a1 : cT (Sp fl N kp) = cT N := by unfold cT; rw [e _ (by omega)]
  have a2 : cE (Sp fl N kp) = cE N := by unfold cE; rw [e _ (by omega)]
  have a3 : cR (Sp fl N kp) = cR N := by unfold cR; rw [e _ (by omega)]
  have a4 : cV (Sp fl N kp) = cV N := by unfold cV; rw [e _ (by omega)]
  refine ⟨?_, a1, a2, a3, a4⟩
  unfold CN
  rw [a1, a2, a3, a4, e _ (by omega), e _ (by omega), e _ (by omega), e _ (by omega)]
  exact hC
theorem AlI_eq {N N' : zN} {x : Int32} (hC : CN N) (h : ∀ i, (i < 150 ∨ 182 ≤ i) → N' i = N i) : AlI N' x ↔ AlI N x := by
  have h8 := hC.1.2
  unfold AlI
  rw [h 238 (by omega)]
  constructor
  · rintro ⟨a, b⟩
    have a' := a
    rw [hC.1.1] at a'
    obtain ⟨t, ht, rfl⟩ := zsm (by omega) a'
    rw [nI_clamp (by omega), h _ (by omega)] at b
    rw [nI_clamp (by omega)]
    exact ⟨a, b⟩
  · rintro ⟨a, b⟩
    have a' := a
    rw [hC.1.1] at a'
    obtain ⟨t, ht, rfl⟩ := zsm (by omega) a'
    rw [nI_clamp (by omega)] at b
    rw [nI_clamp (by omega), h _ (by omega)]
    exact ⟨a, b⟩
/-- what rules kept off doesn't change which is picked -/
theorem Pk_Sp {fl us : Int32} {N L kp : zN} {t : Nat} (hC : CN N) (ht : t < cT N) (hO : WO N) (hk : ∀ r, r < 8 → ¬ kp r = 0 → N (150 + 4 * r) = 0) : ∀ n, n ≤ 8 → Pk (Sp fl N kp) L us t n = Pk N L us t n := by
  have h8 := hC.1.2
  have e : ∀ i, (i < 150 ∨ 182 ≤ i) → Sp fl N kp i = N i := fun i hi => Sp_hi hi
  have eg : Gr (Sp fl N kp) t ↔ Gr N t := by
    unfold Gr
    rw [e (10 * t) (by omega), e _ (by omega)]
  intro n
  induction n with
  | zero => intro _; rfl
  | succ n ih =>
    intro hn
    have er : Rl (Sp fl N kp) L us t n ↔ Rl N L us t n := by
      have a0 : Sp fl N kp (150 + 4 * n) = N (150 + 4 * n) := Sp_r (k := 0) (by omega)
      unfold Rl
      rw [a0, Sp_r (k := 1) (by omega), Sp_r (k := 2) (by omega)]
      have sc : ∀ a b, Sc (Sp fl N kp) L a b t ↔ Sc N L a b t := by
        intro a b
        unfold Sc Al
        rw [e _ (by omega), e _ (by omega)]
      rw [sc]
      have : (N (150 + 4 * n) = 3 → ¬ Sp fl N kp (150 + 4 * n + 3) = nI t ∧ AlI (Sp fl N kp) (Sp fl N kp (150 + 4 * n + 3))) ↔ (N (150 + 4 * n) = 3 → ¬ N (150 + 4 * n + 3) = nI t ∧ AlI N (N (150 + 4 * n + 3))) := by
        have s0 : N (150 + 4 * n) = 3 → kp n = 0 := fun z => Classical.byContradiction (fun y => by
          have := hk n (by omega) y
          rw [z] at this
          exact absurd this (by decide))
        constructor
        · intro z y
          have := z y
          rw [Sp_v0 (s0 y), AlI_eq hC e] at this
          exact this
        · intro z y
          rw [Sp_v0 (s0 y), AlI_eq hC e]
          exact z y
      rw [this]
    have ec : (Rl (Sp fl N kp) L us t n ∧ (Pk (Sp fl N kp) L us t n = -1 ∨ Gr (Sp fl N kp) t)) ↔ (Rl N L us t n ∧ (Pk N L us t n = -1 ∨ Gr N t)) := by rw [er, eg, ih (by omega)]
    rcases Classical.em (Rl N L us t n ∧ (Pk N L us t n = -1 ∨ Gr N t)) with q | q
    · rw [Pk_1 q, Pk_1 (ec.mpr q)]
    · rw [Pk_0 q, Pk_0 (fun z => q (ec.mp z)), ih (by omega)]
theorem Wy_rq {N L L' : zN} (hC : CN N) (h : rq (cT N) L L') : ∀ (m : Nat) (s : Wst), s.1 < cT N → Al N s.1 → Wy N L m s = Wy N L' m s := by
  have r8 := hC.2.2.1.2
  intro m
  induction m with
  | zero => intro s _ _; rfl
  | succ m ih =>
    intro s h1 h2
    have e := Pk_rq (us := s.2.2.2.1) h h1 (cR N)
    rcases Classical.em (¬ s.2.1 ≤ 0 ∧ s.2.2.1 = 0 ∧ ¬ Pk N L s.2.2.2.1 s.1 (cR N) = -1) with q | q
    · have q' := q
      rw [e] at q'
      rw [Wy_1 q, Wy_1 q', ← e]
      rcases Pk_in (N := N) (L := L) (us := s.2.2.2.1) (t := s.1) (cR N) with z | ⟨r, hr, er, ok⟩
      · exact absurd z q.2.2
      · rw [er, nI_clamp (by omega)]
        obtain ⟨b1, b2, -⟩ := Ws_at hC ok h1 h2
        exact ih _ b1 b2
    · have q' := q
      rw [e] at q'
      rw [Wy_0 q, Wy_0 q']
def fL (h h' : zHp) : Prop := h'.2 = h.2 ∧ (∀ a, a ≠ 164 → a ≠ 165 → a ≠ 168 → a ≠ 169 → a ≠ 170 → h'.1 a = h.1 a) ∧ ∀ k, k ≠ 7 → (k < 11 ∨ 15 < k) → h'.1 164 k = h.1 164 k
/-- the reference's wound stands as s -/
def WM (h : zHp) (fl : Int32) (N : zN) (s : Wst) : Prop := rI h 164 11 = nI s.1 ∧ rI h 164 12 = s.2.1 ∧ rI h 164 15 = s.2.2.1 ∧ rI h 164 13 = s.2.2.2.1 ∧ h.1 165 = Sp fl N s.2.2.2.2.1 ∧ rI h 164 14 = nI s.2.2.2.2.2
/-- only rules that were used, and keep off, kept anything off -/
def WK (N : zN) (s : Wst) : Prop := ∀ r, r < 8 → ¬ s.2.2.2.2.1 r = 0 → N (150 + 4 * r) = 0 ∧ bi s.2.2.2.1 (nI r)
theorem Ws_K {N : zN} {r : Nat} {s : Wst} (hr : r < 8) (hk : WK N s) : WK N (Ws N r s) := by
  intro q hq hb
  change ¬ upd s.2.2.2.2.1 r _ q = 0 at hb
  change _ ∧ bi (s.2.2.2.1 ||| _) (nI q)
  rw [bi_or (by omega), bi_pw (by omega) (by omega)]
  unfold upd at hb
  by_cases z : q = r
  · subst z
    rw [if_pos rfl] at hb
    by_cases y : N (150 + 4 * q) = 0
    · exact ⟨y, Or.inr rfl⟩
    · rw [if_neg y] at hb
      exact absurd rfl hb
  · rw [if_neg z] at hb
    have := hk q hq hb
    exact ⟨this.1, Or.inl this.2⟩
/-- a rule less -/
theorem Ws_n {N : zN} {r n : Nat} {s : Wst} (hn : n ≤ 8) (hr : r < n) (hu : ¬ bi s.2.2.2.1 (nI r)) : nb n (fun k => ¬ bi (Ws N r s).2.2.2.1 (nI k)) + 1 = nb n (fun k => ¬ bi s.2.2.2.1 (nI k)) := by
  rw [← nb_one (p := fun k => ¬ bi s.2.2.2.1 (nI k)) hr hu]
  congr 1
  refine nb_congr (fun k hk => ?_)
  change ¬ bi (s.2.2.2.1 ||| _) (nI k) ↔ _
  rw [bi_or (by omega), bi_pw (by omega) (by omega), not_or]

