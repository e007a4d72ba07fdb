/-! what holds between two calls -/
theorem g_X11_changed {x1 : Int32} {h : zHp} {Q : Int32 → zHp → Prop}  (G : zG h) (F : zcV M_X11_rounds [.ref 164] (wI h 164 8 0) (fun h1 => zG h1 ∧ (Q x1 h1))) : zcI M_X11_changed [.ref 164, .int x1] h Q := by
  show zw zNT zNT M_X11_changed 0 [some (.ref 164), some (.int x1)] [] h _
  refine z_aload_n (pc := 0) dX11_changed_0 rfl rfl ?_
  refine z_iconst (pc := 1) (v := 0) dX11_changed_1 (by decide) ?_
  refine q_putB (pc := 2) dX11_changed_2 lk_RX11_135 (lyc rfl) (Or.inl rfl) ?_
  refine z_aload_n (pc := 5) dX11_changed_5 rfl rfl ?_
  refine q_invV (pc := 6) (As := []) (st := []) dX11_changed_6 ok_X11_rounds ml_RX11_153 iv_X11_rounds pa_X11_rounds ⟨Nat.le_of_ble_eq_true rfl, Nat.le_of_ble_eq_true rfl⟩ (lyc rfl) (q_kV F (fun h1 F => ?_))
  obtain ⟨G1, F⟩ := F
  refine z_iload_n (pc := 9) dX11_changed_9 rfl rfl ?_
  exact q_retI (pc := 10) dX11_changed_10 rfl F
theorem Ro_F1 : ∀ (m : Nat) (N : zN) (s : Stk), Ro False m N s = ((Ro False m N (fun _ => 0, fun _ => 0, 0)).1, s) := by
  intro m
  induction m with
  | zero => intro N s; rfl
  | succ m ih =>
    intro N s
    rw [Ro, Ro]
    by_cases z : Dy N (Mk N 5).1 = 0
    · rw [if_pos z, if_pos z]
    · rw [if_neg z, if_neg z, if_neg id, if_neg id]
      exact ih _ _
/-- the row behind rounds that set nothing off -/
noncomputable def RF (N : zN) : zN := (Ro False 9 N (fun _ => 0, fun _ => 0, 0)).1
theorem RF_e {N : zN} {s : Stk} : Ro False 9 N s = (RF N, s) := Ro_F1 9 N s
def IQ (N : zN) : Prop := CN N ∧ WQ N ∧ St N
theorem RF_IQ {N : zN} (hC : CN N) (hQ : WQ N) : IQ (RF N) := ⟨(Ro_CQ hC hQ).1, (Ro_CQ hC hQ).2, Ro_9 hC⟩
theorem RF_St {N : zN} (h : St N) : RF N = N := by unfold RF; rw [Ro_St h]
def IC (h : zHp) (N : zN) : Prop := PW h 2 ∧ RW h 2 N ∧ Lm h 42 N ∧ ∃ n, rI h 1 5 = nI n
def IOi (h : zHp) : Prop := rI h 0 5 = rI h 164 3 ∧ zB (rI h 0 5) ∧ (¬ rI h 0 5 = 0 → IQ (h.1 166) ∧ RW h 93 (h.1 166))
def IOs (h : zHp) : Prop := ∃ m, m ≤ 40 ∧ rI h 0 11 = nI m ∧ rI h 164 19 = nI m ∧ ∀ i, i < m → rI h 155 i = rI h 173 i
def IOt (h : zHp) : Prop := ∃ L, L ≤ 120 ∧ rI h 141 1 = nI L ∧ rI h 164 21 = nI L ∧ ∀ i, i < L → rI h 142 i = (rI h 174 i).toInt8.toInt32 ∧ iv 0 255 (rI h 174 i)
def IOh (h : zHp) : Prop := ∀ s, s < 4 → (rI h (156 + 2 * s) 0 = rI h 178 s ∧ (rI h 178 s = -1 ∨ rI h 178 s = 0 ∨ rI h 178 s = 1)) ∧ (∃ L, L ≤ 40 ∧ rI h (156 + 2 * s) 1 = nI L ∧ rI h 179 s = nI L) ∧ ∀ i, i < 40 → rI h (156 + 2 * s + 1) i = rI h 180 (40 * s + i)
def IO (h : zHp) : Prop := (PW h 53 ∧ PW h 93) ∧ (∃ n, rI h 164 10 = nI n) ∧ IOi h ∧ IOs h ∧ IOt h ∧ IOh h
def INV (h : zHp) : Prop := zG h ∧ IQ (h.1 165) ∧ IC h (h.1 165) ∧ IO h
theorem rG_of2 {h h' : zHp} {c k : Nat} (e : h'.2 c = h.2 c) : rG h' c k = rG h c k := by unfold rG rR; rw [e]
theorem PR_of2 {h h' : zHp} {c a n : Nat} (e : h'.2 c = h.2 c) (p : PR h c a n) : PR h' c a n := by
  refine ⟨fun i hi => ?_, fun i j hi hj q => ?_⟩
  · rw [rG_of2 e]
    refine ⟨?_, (p.1 i hi).2⟩
    show h'.2 c i = _
    rw [e]
    exact (p.1 i hi).1
  · rw [rG_of2 e, rG_of2 e] at q
    exact p.2 i j hi hj q
theorem PW_of2 {h h' : zHp} {B : Nat} (e : ∀ a, B + 2 ≤ a → a < B + 5 → h'.2 a = h.2 a) (p : PW h B) : PW h' B := ⟨PR_of2 (e _ (by omega) (by omega)) p.1, PR_of2 (e _ (by omega) (by omega)) p.2.1, PR_of2 (e _ (by omega) (by omega)) p.2.2⟩
theorem RW_of2 {h h' : zHp} {B : Nat} {N : zN} (e : ∀ a, B + 2 ≤ a → a < B + 5 → h'.2 a = h.2 a) (hf : ∀ a, B ≤ a → a < B + 40 → h'.1 a = h.1 a) (hP : PW h B) (hC : CN N) (hR : RW h B N) : RW h' B N := by
  have h8 := hC.1.2
  have h10 := hC.2.1.2
  have r8 := hC.2.2.1.2
  have v8 := hC.2.2.2.2
  have r : ∀ a k, B ≤ a → a < B + 40 → rI h' a k = rI h a k := fun a k h1 h2 => by show h'.1 a k = h.1 a k; rw [hf a h1 h2]
  obtain ⟨a, b, d, e', g⟩ := hR
  refine ⟨?_, fun t k h1 h2 => ?_, fun t k h1 h2 => ?_, fun t k h1 h2 => ?_, fun t k h1 h2 => ?_⟩
  · rw [r _ _ (by omega) (by omega), r _ _ (by omega) (by omega), r _ _ (by omega) (by omega), r _ _ (by omega) (by omega), r _ _ (by omega) (by omega), r _ _ (by omega) (by omega), r _ _ (by omega) (by omega), r _ _ (by omega) (by omega)]
    exact a
  · rw [r _ _ (by omega) (by omega)]; exact b t k h1 h2
  · have q := hP.1.1 t (by omega)
    rw [rG_of2 (e _ (by omega) (by omega)), r _ _ (by omega) (by omega)]; exact d t k h1 h2
  · have q := hP.2.1.1 t (by omega)
    rw [rG_of2 (e _ (by omega) (by omega)), r _ _ (by omega) (by omega)]; exact e' t k h1 h2
  · have q := hP.2.2.1 t (by omega)
    rw [rG_of2 (e _ (by omega) (by omega)), r _ _ (by omega) (by omega)]; exact g t k h1 h2
/-- N' is N as far as a row goes -/
def eqR (N N' : zN) : Prop := ∀ i, i < 246 → N' i = N i
theorem eqR.c {N N' : zN} (h : eqR N N') : cT N' = cT N ∧ cE N' = cE N ∧ cR N' = cR N ∧ cV N' = cV N := by
  unfold cT cE cR cV
  rw [h 238 (by decide), h 239 (by decide), h 240 (by decide), h 241 (by decide)]
  exact ⟨rfl, rfl, rfl, rfl⟩
theorem eqR.s {N N' : zN} (hC : CN N) (h : eqR N N') : Sm N N' := ⟨fun i hi => h i (by omega), h _ (by decide), h _ (by decide), fun e k h1 h2 => h _ (by have := hC.2.1.2; omega)⟩
theorem eqR.q {N N' : zN} (h : eqR N N') (q : IQ N) : IQ N' := by
  obtain ⟨hC, hQ, hS⟩ := q
  obtain ⟨e1, e2, e3, e4⟩ := h.c
  have h8 := hC.1.2
  have h10 := hC.2.1.2
  have r8 := hC.2.2.1.2
  have v8 := hC.2.2.2.2
  refine ⟨⟨by rw [h _ (by decide), e1]; exact hC.1, by rw [h _ (by decide), e2]; exact hC.2.1, by rw [h _ (by decide), e3]; exact hC.2.2.1, by rw [h _ (by decide), e4]; exact hC.2.2.2⟩, ⟨fun t ht => ?_, fun t ht => ?_, fun t ht => ?_, fun t ht => ?_⟩, St_Sm hC (h.s hC) hS⟩
  · rw [e1] at ht; exact QT_eq (hQ.1 t ht) (fun k hk => h _ (by omega))
  · rw [e2] at ht; exact QE_eq (hQ.2.1 t ht) (fun k hk => h _ (by omega))
  · rw [e3] at ht; exact QR_eq (hQ.2.2.1 t ht) (fun k hk => h _ (by omega))
  · rw [e4] at ht; exact QV_eq (hQ.2.2.2 t ht) (fun k hk => h _ (by omega))
theorem eqR.r {N N' : zN} {h : zHp} {B : Nat} (e : eqR N N') (hC : CN N) (r : RW h B N) : RW h B N' := by
  obtain ⟨e1, e2, e3, e4⟩ := e.c
  have h8 := hC.1.2
  have h10 := hC.2.1.2
  have r8 := hC.2.2.1.2
  have v8 := hC.2.2.2.2
  obtain ⟨a, b, d, e', g⟩ := r
  refine ⟨by rw [e _ (by decide), e _ (by decide), e _ (by decide), e _ (by decide), e _ (by decide), e _ (by decide), e _ (by decide), e _ (by decide)]; exact a, fun t k h1 h2 => ?_, fun t k h1 h2 => ?_, fun t k h1 h2 => ?_, fun t k h1 h2 => ?_⟩
  · rw [e1] at h1; rw [e _ (by omega)]; exact b t k h1 h2
  · rw [e2] at h1; rw [e _ (by omega)]; exact d t k h1 h2
  · rw [e3] at h1; rw [e _ (by omega)]; exact e' t k h1 h2
  · rw [e4] at h1; rw [e _ (by omega)]; exact g t k h1 h2
theorem eqR.i {N N' : zN} {h : zHp} (e : eqR N N') (hC : CN N) (c : IC h N) : IC h N' := ⟨c.1, e.r hC c.2.1, Lm_Sm hC (e.s hC) c.2.2.1, c.2.2.2⟩
/-- what a call of the class may change, but for what is shown, read and laid down -/
def fZ (h h' : zHp) : Prop := (∀ a, (a = 0 ∨ (93 ≤ a ∧ (a < 133 ∨ 140 < a))) → h'.1 a = h.1 a) ∧ ∀ a, a ≠ 4 → a ≠ 5 → a ≠ 6 → h'.2 a = h.2 a
theorem fZ.rf {h : zHp} : fZ h h := ⟨fun _ _ => rfl, fun _ _ _ _ => rfl⟩
theorem fZ.tr {h h' h2 : zHp} (a : fZ h h') (b : fZ h' h2) : fZ h h2 := ⟨fun z hz => (b.1 z hz).trans (a.1 z hz), fun z z1 z2 z3 => (b.2 z z1 z2 z3).trans (a.2 z z1 z2 z3)⟩
theorem fY.z {h h' : zHp} (f : fY h h') : fZ h h' := ⟨fun a ha => f.1 a (by omega), f.2⟩
theorem fZ.g {h h' : zHp} (f : fZ h h') (G : zG h) : zG h' := by
  have : fX (h'.1, h.2) h' := ⟨fun _ _ => rfl, f.2⟩
  exact this.g (zG_of rfl G)
theorem fW.z {h h' : zHp} (f : fW h h') : fZ h h' := f.x.y.z
/-- what a call of the reference may change -/
def fV (h h' : zHp) : Prop := h'.2 = h.2 ∧ (∀ a, (a < 164 ∨ a = 166 ∨ 173 ≤ a) → h'.1 a = h.1 a) ∧ h'.1 164 3 = h.1 164 3 ∧ h'.1 164 19 = h.1 164 19 ∧ h'.1 164 21 = h.1 164 21
theorem fV.rf {h : zHp} : fV h h := ⟨rfl, fun _ _ => rfl, rfl, rfl, rfl⟩
theorem fV.tr {h h' h2 : zHp} (a : fV h h') (b : fV h' h2) : fV h h2 := ⟨b.1.trans a.1, fun z hz => (b.2.1 z hz).trans (a.2.1 z hz), b.2.2.1.trans a.2.2.1, b.2.2.2.1.trans a.2.2.2.1, b.2.2.2.2.trans a.2.2.2.2⟩
theorem fH.v {h h' : zHp} (f : fH h h') : fV h h' := ⟨f.1, fun a ha => f.2.1 a (by omega) (by omega) (by omega) (by omega) (by omega) (by omega), f.2.2 3 (by decide) (by omega), f.2.2 19 (by decide) (by omega), f.2.2 21 (by decide) (by omega)⟩
theorem fV.a {h : zHp} {X : zN} : fV h (wA h 165 X) := ⟨rfl, fun a ha => wA_n (by omega), by rw [wA_n (by decide)], by rw [wA_n (by decide)], by rw [wA_n (by decide)]⟩
theorem fV.w {h : zHp} {k : Nat} {v : Int32} : fV h (wI h 165 k v) := ⟨rfl, fun a ha => wI_ne (by omega), by rw [wI_ne (by decide)], by rw [wI_ne (by decide)], by rw [wI_ne (by decide)]⟩
theorem fV.f {h : zHp} {k : Nat} {v : Int32} (hk : k ≠ 3 ∧ k ≠ 19 ∧ k ≠ 21) : fV h (wI h 164 k v) := ⟨rfl, fun a ha => wI_ne (by omega), by show rI _ 164 3 = _; rw [rI_k (fun z => hk.1 z.symm)]; rfl, by show rI _ 164 19 = _; rw [rI_k (fun z => hk.2.1 z.symm)]; rfl, by show rI _ 164 21 = _; rw [rI_k (fun z => hk.2.2 z.symm)]; rfl⟩
theorem IC_of {h h' : zHp} {N : zN} (e : h'.2 = h.2) (f : ∀ a, a < 53 → h'.1 a = h.1 a) (hC : CN N) (c : IC h N) : IC h' N := by
  have r : ∀ a k, a < 53 → rI h' a k = rI h a k := fun a k ha => by show h'.1 a k = h.1 a k; rw [f a ha]
  refine ⟨PW_of e c.1, RW_of e (fun a _ h2 => f a (by omega)) c.1 hC c.2.1, ⟨?_, ?_, fun i hi => ?_⟩, ?_⟩
  · rw [r _ _ (by decide)]; exact c.2.2.1.1
  · rw [VL_of (h := h) (fun a _ h2 => f a (by omega))]; exact c.2.2.1.2.1
  · rw [r _ _ (by decide)]; exact c.2.2.1.2.2 i hi
  · obtain ⟨n, hn⟩ := c.2.2.2
    exact ⟨n, by rw [r _ _ (by decide)]; exact hn⟩
theorem IO_of {h h' : zHp} (I : IO h) (f1 : ∀ a, (a = 0 ∨ (93 ≤ a ∧ (a < 133 ∨ 140 < a) ∧ a < 164) ∨ a = 166 ∨ 173 ≤ a) → h'.1 a = h.1 a) (f3 : h'.1 164 3 = h.1 164 3 ∧ h'.1 164 19 = h.1 164 19 ∧ h'.1 164 21 = h.1 164 21) (f4 : ∃ n, rI h' 164 10 = nI n) (f2 : ∀ a, a ≠ 4 → a ≠ 5 → a ≠ 6 → h'.2 a = h.2 a) : IO h' := by
  obtain ⟨⟨p1, p2⟩, -, ⟨i1, i2, i3⟩, ⟨m, s1, s2, s3, s4⟩, ⟨L, t1, t2, t3, t4⟩, sh⟩ := I
  have r : ∀ a k, (a = 0 ∨ (93 ≤ a ∧ (a < 133 ∨ 140 < a) ∧ a < 164) ∨ a = 166 ∨ 173 ≤ a) → rI h' a k = rI h a k := fun a k ha => by show h'.1 a k = h.1 a k; rw [f1 a ha]
  have r3 : rI h' 164 3 = rI h 164 3 := f3.1
  have r19 : rI h' 164 19 = rI h 164 19 := f3.2.1
  have r21 : rI h' 164 21 = rI h 164 21 := f3.2.2
  refine ⟨⟨PW_of2 (fun a _ _ => f2 a (by omega) (by omega) (by omega)) p1, PW_of2 (fun a _ _ => f2 a (by omega) (by omega) (by omega)) p2⟩, f4, ⟨by rw [r 0 5 (by omega), r3]; exact i1, by rw [r 0 5 (by omega)]; exact i2, fun z => ?_⟩, ⟨m, s1, by rw [r 0 11 (by omega)]; exact s2, by rw [r19]; exact s3, fun i hi => by rw [r 155 i (by omega), r 173 i (by omega)]; exact s4 i hi⟩, ⟨L, t1, by rw [r 141 1 (by omega)]; exact t2, by rw [r21]; exact t3, fun i hi => by rw [r 142 i (by omega), r 174 i (by omega)]; exact t4 i hi⟩, fun s hs => ?_⟩
  · rw [r 0 5 (by omega)] at z
    obtain ⟨a, b⟩ := i3 z
    rw [f1 166 (by omega)]
    exact ⟨a, RW_of2 (fun a _ _ => f2 a (by omega) (by omega) (by omega)) (fun a _ _ => f1 a (by omega)) p2 a.1 b⟩
  · obtain ⟨a, b, c⟩ := sh s hs
    rw [r (156 + 2 * s) 0 (by omega), r (156 + 2 * s) 1 (by omega), r 178 s (by omega), r 179 s (by omega)]
    exact ⟨a, b, fun i hi => by rw [r _ i (by omega), r 180 _ (by omega)]; exact c i hi⟩
/-- a call of the class and the same of the reference: both answer alike, and all stands as before -/
def Sim (M1 M2 : zMI) (as : List Value) : Prop := ∀ h, INV h → zcI M1 (.ref 0 :: as) h (fun v h1 => zG h1 ∧ zcI M2 (.ref 164 :: as) h1 (fun v' h2 => zG h2 ∧ v = v' ∧ INV h2))
theorem simW {M1 M2 : zMI} {as : List Value} {ans : zN → Int32} {F : zN → zN}
    (c : ∀ h N, zG h → IQ N → IC h N → zcI M1 (.ref 0 :: as) h (fun v h1 => v = ans N ∧ fZ h h1 ∧ IC h1 (F N)))
    (m : ∀ h N, zG h → IQ N → h.1 165 = N → (∃ n, rI h 164 10 = nI n) → zcI M2 (.ref 164 :: as) h (fun v h1 => v = ans N ∧ fV h h1 ∧ h1.1 165 = F N ∧ ∃ n, rI h1 164 10 = nI n))
    (q : ∀ N, IQ N → IQ (F N)) : Sim M1 M2 as := by
  intro h I
  obtain ⟨G, iq, ic, io⟩ := I
  refine zcI_then (c h (h.1 165) G iq ic) (fun v h1 hh => ⟨hh.2.1.g G, ?_⟩)
  obtain ⟨e1, f1, c1⟩ := hh
  have G1 := f1.g G
  have e165 : h1.1 165 = h.1 165 := f1.1 165 (by omega)
  have e10 : ∃ n, rI h1 164 10 = nI n := by
    obtain ⟨n, hn⟩ := io.2.1
    exact ⟨n, by show h1.1 164 10 = _; rw [f1.1 164 (by omega)]; exact hn⟩
  refine zcI_then (m h1 (h.1 165) G1 iq e165 e10) (fun v' h2 hh => ⟨zG_of hh.2.1.1 G1, by rw [e1, hh.1], ?_⟩)
  obtain ⟨-, f2, e2, e3⟩ := hh
  have q2 := q _ iq
  refine ⟨zG_of f2.1 G1, by rw [e2]; exact q2, by rw [e2]; exact IC_of f2.1 (fun a ha => f2.2.1 a (by omega)) q2.1 c1, IO_of io (fun a ha => ?_) ⟨?_, ?_, ?_⟩ e3 (fun a z1 z2 z3 => by rw [f2.1]; exact f1.2 a z1 z2 z3)⟩
  · rw [f2.2.1 a (by omega), f1.1 a (by omega)]
  · rw [f2.2.2.1, f1.1 164 (by omega)]
  · rw [f2.2.2.2.1, f1.1 164 (by omega)]
  · rw [f2.2.2.2.2, f1.1 164 (by omega)]
theorem s_settleF {N : zN} {h : zHp} (G : zG h) (hC : CN N) (hQ : WQ N) (hP : PW h 2) (hR : RW h 2 N) (top : ∃ n, rI h 1 5 = nI n) : zcV M_X0_settle [.ref 1, .int 0] h (fun h' => fY h h' ∧ IC h' (RF N)) := by
  obtain ⟨n, hn⟩ := top
  have st := s_X0_settle (x := 0) (s := (h.1 50, h.1 51, n)) G hC hP hR hQ.n ⟨hn, fun i _ => ⟨rfl, rfl⟩⟩ (fun z => absurd rfl z)
  rw [eq_false (show ¬ ¬ (0 : Int32) = 0 from fun z => z rfl), RF_e] at st
  exact zcV_then st (fun h1 hh => ⟨(fX.c hh.1).y, PW_of hh.1.1 hP, hh.2.1, hh.2.2.2, n, hh.2.2.1.1⟩)
theorem s_X11_changed {N : zN} {v : Int32} {h : zHp} (G : zG h) (hC : CN N) (hN : h.1 165 = N) (top : ∃ n, rI h 164 10 = nI n) : zcI M_X11_changed [.ref 164, .int v] h (fun r h' => r = v ∧ fV h h' ∧ h'.1 165 = RF N ∧ ∃ n, rI h' 164 10 = nI n) := by
  obtain ⟨n, hn⟩ := top
  have e8 : rI (wI h 164 8 0) 164 8 = 0 := rI_s
  have ro := s_X11_rounds (N := N) (s := ((fun i => rI h 171 (2 * i)), (fun i => rI h 171 (2 * i + 1)), n)) (h := wI h 164 8 0) (zG_of rfl G) hC (by rw [wI_ne (by decide)]; exact hN) ⟨by rw [rI_k (by decide)]; exact hn, fun i _ => ⟨by rw [rI_c (by decide)], by rw [rI_c (by decide)]⟩⟩ (fun z => absurd e8 z)
  rw [e8, eq_false (show ¬ ¬ (0 : Int32) = 0 from fun z => z rfl), RF_e] at ro
  refine g_X11_changed G (zcV_then ro (fun h1 hh => ⟨zG_of (hh.1.1.trans rfl) G, rfl, (fV.f (by decide)).tr hh.1.h.v, hh.2.1, n, hh.2.2.1.1⟩))

