/-! watchers act: pure side -/
/-- what a thing is, or last was -/
def isN (N L : zN) (t k : Nat) : Int32 := if N (10 * t + 5) = 1 then L (4 * t + k) else N (10 * t + 6 + k)
noncomputable def fo (N : zN) (x : Int32) : Int32 := if 0 ≤ x ∧ x ≤ N 238 - 1 then isN N (Mk N 5).1 x.toNatClampNeg 2 else 0
def ra (x v : Int32) : Int32 := mnI (x + v) 99
def Rs (N : zN) (t : Nat) (v : Int32) : zN := upd (upd N (10 * t + 2) (ra (N (10 * t + 2)) v)) (10 * t + 3) (ra (N (10 * t + 3)) v)
def acT (N : zN) (w : Nat) (x : Int32) : Int32 := if N (182 + 7 * w + 3) = -1 then x else N (182 + 7 * w + 3)
noncomputable def acV (N : zN) (w : Nat) (x : Int32) : Int32 := if N (182 + 7 * w + 4) = 0 then fo N x else N (182 + 7 * w + 4)
/-- watcher w acts, by x; the rounds behind it left out -/
noncomputable def Ac (N : zN) (w : Nat) (x : Int32) (s : Stk) : zN × Stk :=
  @ite _ (acV N w x ≤ 0 ∨ ¬ AlI N (acT N w x)) (Classical.propDecidable _) (N, s)
    (if N (182 + 7 * w + 2) = 0 then Hs N (acT N w x).toNatClampNeg (acV N w x) s
     else if N (182 + 7 * w + 2) = 1 then (wN N (acT N w x).toNatClampNeg (-(acV N w x)), s)
     else (Rs N (acT N w x).toNatClampNeg (acV N w x), s))
/-- by whom something is set off -/
def By (n : Nat) (x : Int32) : Prop := x = -1 ∨ ∃ t, t < n ∧ x = nI t
theorem isN_bd {N : zN} {t : Nat} (hC : CN N) (hQ : WQ N) (ht : t < cT N) : iv (-200) 200 (isN N (Mk N 5).1 t 2) := by
  unfold isN
  by_cases z : N (10 * t + 5) = 1
  · rw [if_pos z]; exact Mk_fo hC hQ ht
  · rw [if_neg z]; exact (hQ.1 t ht).2.2.2.2.2
theorem fo_n {N : zN} {t : Nat} (hC : CN N) (ht : t < cT N) : fo N (nI t) = isN N (Mk N 5).1 t 2 := by
  have h8 := hC.1.2
  unfold fo
  rw [hC.1.1, if_pos (zsm2 (by omega) ht), nI_clamp (by omega)]
theorem fo_1 {N : zN} : fo N (-1) = 0 := by
  unfold fo
  rw [if_neg (fun z => absurd z.1 (by decide))]
theorem fo_bd {N : zN} {x : Int32} (hC : CN N) (hQ : WQ N) (hx : By (cT N) x) : iv (-200) 200 (fo N x) := by
  rcases hx with rfl | ⟨t, ht, rfl⟩
  · rw [fo_1]; exact ⟨by decide, by decide⟩
  · rw [fo_n hC ht]; exact isN_bd hC hQ ht
theorem acV_bd {N : zN} {w : Nat} {x : Int32} (hC : CN N) (hQ : WQ N) (hw : w < cV N) (hx : By (cT N) x) (h0 : ¬ acV N w x ≤ 0) : iv 0 999 (acV N w x) := by
  have b : iv (-200) 200 (acV N w x) := by
    unfold acV
    by_cases z : N (182 + 7 * w + 4) = 0
    · rw [if_pos z]; exact fo_bd hC hQ hx
    · rw [if_neg z]; exact (hQ.2.2.2 w hw).mono (by decide) (by decide)
  have : ¬ (acV N w x).toInt ≤ 0 := fun z => h0 ((iv_0 _).mpr z)
  exact ⟨by omega, by have := b.2; omega⟩
theorem acV_iv {N : zN} {w : Nat} {x : Int32} (hQ : WQ N) (hw : w < cV N) : (N (182 + 7 * w + 4) ≤ 0 → acV N w x = fo N x) ∧ (¬ N (182 + 7 * w + 4) ≤ 0 → acV N w x = N (182 + 7 * w + 4)) := by
  have q : iv 0 9 (N (182 + 7 * w + 4)) := hQ.2.2.2 w hw
  unfold acV
  constructor
  · intro z
    have : N (182 + 7 * w + 4) = 0 := Int32.toInt_inj.mp (by have := (iv_0 _).mp z; have := q.1; show _ = (0 : Int); omega)
    rw [if_pos this]
  · intro z
    rw [if_neg (fun y => z (by rw [y]; exact Int32.le_refl _))]
theorem ra_iv {x v : Int32} (hx : iv 0 99 x) (hv : iv 0 999 v) : iv 0 99 (ra x v) := by
  unfold ra mnI iv at *
  have e := ti_add (a := x) (b := v) (by omega) (by omega)
  by_cases z : x + v ≤ 99
  · rw [if_pos z]
    have : (x + v).toInt ≤ 99 := Int32.le_iff_toInt_le.mp z
    omega
  · rw [if_neg z]; exact ⟨by decide, by decide⟩
/-- N' is N but for the numbers of some things, and they keep in bounds -/
theorem upd_CQ {N : zN} {t k : Nat} {v : Int32} (hC : CN N) (hQ : WQ N) (ht : t < cT N) (hk : k < 10) (hq : QT (upd N (10 * t + k) v) t) : CN (upd N (10 * t + k) v) ∧ WQ (upd N (10 * t + k) v) := by
  have h8 := hC.1.2
  refine ⟨CN_u hC (by omega), fun u hu => ?_, fun u hu => ?_, fun u hu => ?_, fun u hu => ?_⟩
  · rw [cT_u (by omega)] at hu
    by_cases z : u = t
    · rw [z]; exact hq
    · exact QT_eq (hQ.1 u hu) (fun q hq => pk_un (by omega))
  · rw [cE_u (by omega)] at hu
    exact QE_eq (hQ.2.1 u hu) (fun q hq => pk_un (by omega))
  · rw [cR_u (by omega)] at hu
    exact QR_eq (hQ.2.2.1 u hu) (fun q hq => pk_un (by omega))
  · rw [cV_u (by omega)] at hu
    exact QV_eq (hQ.2.2.2 u hu) (fun q hq => pk_un (by omega))
theorem wN_CQ {N : zN} {t : Nat} {y : Int32} (hC : CN N) (hQ : WQ N) (ht : t < cT N) : CN (wN N t y) ∧ WQ (wN N t y) := by
  have q := hQ.1 t ht
  refine upd_CQ hC hQ ht (by omega) ?_
  unfold QT
  rw [pk_un (by omega), pk_un (by omega), pk_un (by omega), pk_un (by omega), pk_us, pk_un (by omega)]
  exact ⟨q.1, q.2.1, q.2.2.1, q.2.2.2.1, wv_iv, q.2.2.2.2.2⟩
theorem Rs_CQ {N : zN} {t : Nat} {v : Int32} (hC : CN N) (hQ : WQ N) (ht : t < cT N) (hv : iv 0 999 v) : CN (Rs N t v) ∧ WQ (Rs N t v) := by
  have q := hQ.1 t ht
  have a : CN (upd N (10 * t + 2) (ra (N (10 * t + 2)) v)) ∧ WQ (upd N (10 * t + 2) (ra (N (10 * t + 2)) v)) := by
    refine upd_CQ hC hQ ht (by omega) ?_
    unfold QT
    rw [pk_un (by omega), pk_un (by omega), pk_us, pk_un (by omega), pk_un (by omega), pk_un (by omega)]
    exact ⟨q.1, q.2.1, ra_iv q.2.2.1 hv, q.2.2.2⟩
  have hT : t < cT (upd N (10 * t + 2) (ra (N (10 * t + 2)) v)) := by rw [cT_u (by have := hC.1.2; omega)]; exact ht
  have e : ∀ k, k < 10 → k ≠ 2 → k ≠ 3 → Rs N t v (10 * t + k) = N (10 * t + k) := fun k _ h1 h2 => (pk_un (by omega)).trans (pk_un (by omega))
  have e2 : Rs N t v (10 * t + 2) = ra (N (10 * t + 2)) v := (pk_un (by omega)).trans pk_us
  have e3 : Rs N t v (10 * t + 3) = ra (N (10 * t + 3)) v := pk_us
  have qq : QT (Rs N t v) t := by
    unfold QT
    rw [show Rs N t v (10 * t) = N (10 * t) from e 0 (by omega) (by omega) (by omega), e 5 (by omega) (by omega) (by omega), e2, e3, e 4 (by omega) (by omega) (by omega), e 8 (by omega) (by omega) (by omega)]
    exact ⟨q.1, q.2.1, ra_iv q.2.2.1 hv, ra_iv q.2.2.2.1 hv, q.2.2.2.2⟩
  exact upd_CQ a.1 a.2 hT (by omega) qq
/-- what is on the stack is there -/
def SV (v t : Nat) (s : Stk) : Prop := ∀ i, i < s.2.2 → (∃ w, w < v ∧ s.1 i = nI w) ∧ By t (s.2.1 i)
theorem SV_psh {v t w : Nat} {x : Int32} {s : Stk} (h : SV v t s) (hw : w < v) (hx : By t x) : SV v t (psh s (nI w) x) := by
  intro i hi
  by_cases z : i = s.2.2
  · have e1 : (psh s (nI w) x).1 i = nI w := by rw [z]; exact pk_us
    have e2 : (psh s (nI w) x).2.1 i = x := by rw [z]; exact pk_us
    rw [e1, e2]
    exact ⟨⟨w, hw, rfl⟩, hx⟩
  · have e1 : (psh s (nI w) x).1 i = s.1 i := pk_un z
    have e2 : (psh s (nI w) x).2.1 i = s.2.1 i := pk_un z
    rw [e1, e2]
    exact h i (by change i < s.2.2 + 1 at hi; omega)
theorem SV_soT {v t w : Nat} {p : Nat → Prop} (hw : w < v) (hp : ∀ u, p u → u < t) : ∀ (n : Nat) (s : Stk), SV v t s → SV v t (soT p (nI w) n s) := by
  intro n
  induction n with
  | zero => intro s h; exact h
  | succ n ih =>
    intro s h
    rcases Classical.em (p n) with z | z
    · rw [soT_1 z]
      exact SV_psh (ih s h) hw (Or.inr ⟨n, hp n z, rfl⟩)
    · rw [soT_0 z]; exact ih s h
theorem SV_soW {v t : Nat} {sel : Nat → Prop} {f : Nat → Stk → Stk} (hf : ∀ w s, w < v → SV v t s → SV v t (f w s)) : ∀ (n : Nat) (s : Stk), n ≤ v → SV v t s → SV v t (soW sel f n s) := by
  intro n
  induction n with
  | zero => intro s _ h; exact h
  | succ n ih =>
    intro s hn h
    rcases Classical.em (sel n) with z | z
    · rw [soW_1 z]
      exact hf n _ (by omega) (ih s (by omega) h)
    · rw [soW_0 z]; exact ih s (by omega) h
theorem SV_SOff {N L : zN} {on set : Int32} {s : Stk} (h : SV (cV N) (cT N) s) : SV (cV N) (cT N) (SOff N L on set s) := by
  have one : ∀ ow s, SV (cV N) (cT N) s → SV (cV N) (cT N) (SO N L on set ow s) := fun ow s h => SV_soW (fun w s hw h => SV_soT hw (fun u z => z.2.1) 8 s h) (cV N) s (Nat.le_refl _) h
  exact one _ _ (one _ _ h)
theorem SV_SOn {N : zN} {s : Stk} (h : SV (cV N) (cT N) s) : SV (cV N) (cT N) (SOn N s) :=
  SV_soW (fun w s hw h => SV_psh h hw (Or.inl rfl)) (cV N) s (Nat.le_refl _) h
theorem SV_Ro {pl : Prop} : ∀ (m : Nat) (N : zN) (s : Stk), CN N → SV (cV N) (cT N) s → SV (cV N) (cT N) (Ro pl m N s).2 := by
  intro m
  induction m with
  | zero => intro N s _ h; exact h
  | succ m ih =>
    intro N s hC h
    rw [Ro]
    by_cases z : Dy N (Mk N 5).1 = 0
    · rw [if_pos z]; exact h
    · rw [if_neg z]
      obtain ⟨c, t1, -, -, t4⟩ := Bu_CN (L := (Mk N 5).1) (D := Dy N (Mk N 5).1) hC
      have := ih (Bu N (Mk N 5).1 (Dy N (Mk N 5).1)) (@ite _ pl (Classical.propDecidable _) (SOff N (Mk N 5).1 1 (Dy N (Mk N 5).1) s) s) c (by
        rw [t1, t4]
        rcases Classical.em pl with y | y
        · rw [if_pos y]; exact SV_SOff h
        · rw [if_neg y]; exact h)
      rw [t1, t4] at this
      exact this
theorem Ro_room {pl : Prop} : ∀ (m : Nat) (N : zN) (s : Stk), CN N → (Ro pl m N s).2.2.2 + 8 * na (Ro pl m N s).1 ≤ s.2.2 + 8 * na N := by
  intro m
  induction m with
  | zero => intro N s _; exact Nat.le_refl _
  | succ m ih =>
    intro N s hC
    rw [Ro]
    by_cases z : Dy N (Mk N 5).1 = 0
    · rw [if_pos z]; exact Nat.le_refl _
    · rw [if_neg z]
      have r := SOff_room (N := N) (L := (Mk N 5).1) (s := s) hC
      have cnt := Bu_na (L := (Mk N 5).1) hC (D := Dy N (Mk N 5).1) (fun t ht hb => (Dy_al hC (by have := hC.1.2; omega) hb).2)
      have i := ih (Bu N (Mk N 5).1 (Dy N (Mk N 5).1)) (@ite _ pl (Classical.propDecidable _) (SOff N (Mk N 5).1 1 (Dy N (Mk N 5).1) s) s) (Bu_CN hC).1
      rcases Classical.em pl with y | y
      · rw [if_pos y] at i ⊢; omega
      · rw [if_neg y] at i ⊢; omega
theorem Hs_SV {N : zN} {t : Nat} {n : Int32} {s : Stk} (hC : CN N) (hQ : WQ N) (ht : t < cT N) (al : Al N t) (hn : iv 0 999 n) (h : SV (cV N) (cT N) s) : SV (cV N) (cT N) (Hs N t n s).2 := by
  have cq := Hs_CQ (s := s) hC hQ ht al hn
  have cnt := Hs_cnt hC cq.2.2
  rw [← cnt.1, ← cnt.2.1]
  rw [← cnt.1, ← cnt.2.1] at h
  by_cases z : ¬ (wy N t n).2.2.1 = 0
  · have e : (Hs N t n s).2 = s := by unfold Hs; rw [if_pos z]
    rw [e]; exact h
  · by_cases z1 : (wy N t n).2.1 ≤ 0
    · have e : (Hs N t n s).2 = s := by unfold Hs; rw [if_neg z, if_pos z1]
      rw [e]; exact h
    · have e : (Hs N t n s).2 = SOff (Hs N t n s).1 (Mk N 5).1 0 ((1 : Int32) <<< (nI (wy N t n).1 &&& 31)) s := by
        unfold Hs
        rw [if_neg z, if_neg z1]
      rw [e]
      exact SV_SOff h
/-- what an act leaves as it was -/
theorem Ac_all {N : zN} {w : Nat} {x : Int32} {s : Stk} (hC : CN N) (hQ : WQ N) (hw : w < cV N) (hx : By (cT N) x) (hs : SV (cV N) (cT N) s) : CN (Ac N w x s).1 ∧ WQ (Ac N w x s).1 ∧ cT (Ac N w x s).1 = cT N ∧ cV (Ac N w x s).1 = cV N ∧ na (Ac N w x s).1 = na N ∧ (Ac N w x s).2.2.2 ≤ s.2.2 + 8 ∧ SV (cV N) (cT N) (Ac N w x s).2 := by
  have h8 := hC.1.2
  unfold Ac
  by_cases z : acV N w x ≤ 0 ∨ ¬ AlI N (acT N w x)
  · rw [if_pos z]
    exact ⟨hC, hQ, rfl, rfl, rfl, by show s.2.2 ≤ _; omega, hs⟩
  · rw [if_neg z]
    have z1 : ¬ acV N w x ≤ 0 := fun y => z (Or.inl y)
    have z2 : AlI N (acT N w x) := Classical.byContradiction (fun y => z (Or.inr y))
    obtain ⟨t, ht, et, al⟩ := AlI_ex hC z2
    have bd := acV_bd hC hQ hw hx z1
    rw [et, nI_clamp (by omega)]
    by_cases y : N (182 + 7 * w + 2) = 0
    · rw [if_pos y]
      have cq := Hs_CQ (s := s) hC hQ ht al bd
      have cnt := Hs_cnt hC cq.2.2
      exact ⟨cq.1, cq.2.1, cnt.1, cnt.2.1, cnt.2.2, Hs_room hC hQ ht al bd, Hs_SV hC hQ ht al bd hs⟩
    · rw [if_neg y]
      by_cases y1 : N (182 + 7 * w + 2) = 1
      · rw [if_pos y1]
        obtain ⟨a, b⟩ := wN_CQ (y := -(acV N w x)) hC hQ ht
        have eT : cT (wN N t (-(acV N w x))) = cT N := cT_u (by omega)
        refine ⟨a, b, eT, cV_u (by omega), na_eq eT (fun u hu => pk_un (by omega)), by show s.2.2 ≤ _; omega, hs⟩
      · rw [if_neg y1]
        obtain ⟨a, b⟩ := Rs_CQ (v := acV N w x) hC hQ ht bd
        have eT : cT (Rs N t (acV N w x)) = cT N := (cT_u (by omega)).trans (cT_u (by omega))
        refine ⟨a, b, eT, (cV_u (by omega)).trans (cV_u (by omega)), na_eq eT (fun u hu => (pk_un (by omega)).trans (pk_un (by omega))), by show s.2.2 ≤ _; omega, hs⟩
/-- the stack is gone through: the answer, the row, who acted -/
noncomputable def Fn : Nat → zN → Stk → Nat → zN → Int32 × zN × zN
  | 0, N, s, k, D => if s.2.2 = 0 then (nI k, N, D) else (-5, N, D)
  | m + 1, N, s, k, D => if s.2.2 = 0 then (nI k, N, D) else
    Fn m (Ro True 9 (Ac N (s.1 (s.2.2 - 1)).toNatClampNeg (s.2.1 (s.2.2 - 1)) (s.1, s.2.1, s.2.2 - 1)).1 (Ac N (s.1 (s.2.2 - 1)).toNatClampNeg (s.2.1 (s.2.2 - 1)) (s.1, s.2.1, s.2.2 - 1)).2).1
      (Ro True 9 (Ac N (s.1 (s.2.2 - 1)).toNatClampNeg (s.2.1 (s.2.2 - 1)) (s.1, s.2.1, s.2.2 - 1)).1 (Ac N (s.1 (s.2.2 - 1)).toNatClampNeg (s.2.1 (s.2.2 - 1)) (s.1, s.2.1, s.2.2 - 1)).2).2 (k + 1) (upd D k (s.1 (s.2.2 - 1)))
/-- what holds between two acts, k of which are done -/
def FI (k : Nat) (N : zN) (s : Stk) : Prop := CN N ∧ WQ N ∧ St N ∧ SV (cV N) (cT N) s ∧ s.2.2 + 8 * na N ≤ 8 * (k + 1) + 64
theorem FI_pop {k : Nat} {N : zN} {s : Stk} (h : FI k N s) (h0 : ¬ s.2.2 = 0) : ∃ w x, w < cV N ∧ By (cT N) x ∧ s.1 (s.2.2 - 1) = nI w ∧ s.2.1 (s.2.2 - 1) = x ∧ SV (cV N) (cT N) (s.1, s.2.1, s.2.2 - 1) := by
  obtain ⟨⟨w, hw, ew⟩, hx⟩ := h.2.2.2.1 (s.2.2 - 1) (by omega)
  exact ⟨w, _, hw, hx, ew, rfl, fun i hi => h.2.2.2.1 i (by change i < s.2.2 - 1 at hi; omega)⟩
theorem FI_step {k w : Nat} {x : Int32} {N : zN} {s : Stk} (h : FI k N s) (h0 : ¬ s.2.2 = 0) (hw : w < cV N) (hx : By (cT N) x) (hs : SV (cV N) (cT N) (s.1, s.2.1, s.2.2 - 1)) : FI (k + 1) (Ro True 9 (Ac N w x (s.1, s.2.1, s.2.2 - 1)).1 (Ac N w x (s.1, s.2.1, s.2.2 - 1)).2).1 (Ro True 9 (Ac N w x (s.1, s.2.1, s.2.2 - 1)).1 (Ac N w x (s.1, s.2.1, s.2.2 - 1)).2).2 := by
  obtain ⟨a1, a2, a3, a4, a5, a6, a7⟩ := Ac_all h.1 h.2.1 hw hx hs
  obtain ⟨b1, b2⟩ := Ro_CQ (pl := True) (m := 9) (s := (Ac N w x (s.1, s.2.1, s.2.2 - 1)).2) a1 a2
  have b3 := Ro_cnt (pl := True) (N0 := N) 9 (Ac N w x (s.1, s.2.1, s.2.2 - 1)).1 (Ac N w x (s.1, s.2.1, s.2.2 - 1)).2 a1 ⟨a3, a4⟩
  have b4 := Ro_room (pl := True) 9 (Ac N w x (s.1, s.2.1, s.2.2 - 1)).1 (Ac N w x (s.1, s.2.1, s.2.2 - 1)).2 a1
  have b5 := SV_Ro (pl := True) 9 (Ac N w x (s.1, s.2.1, s.2.2 - 1)).1 (Ac N w x (s.1, s.2.1, s.2.2 - 1)).2 a1 (by rw [a3, a4]; exact a7)
  refine ⟨b1, b2, Ro_9 a1, ?_, ?_⟩
  · rw [b3.1, b3.2]
    rw [a3, a4] at b5
    exact b5
  · have := h.2.2.2.2
    change _ ≤ s.2.2 - 1 + 8 at a6
    omega

