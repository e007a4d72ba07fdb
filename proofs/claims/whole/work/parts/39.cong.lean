/-! what things are hangs on some places of the row alone -/
/-- N' is N as far as what things are hangs on it -/
def Sm (N N' : zN) : Prop := (∀ i, i < 80 → N' i = N i) ∧ N' 238 = N 238 ∧ N' 239 = N 239 ∧ ∀ e k, e < cE N → k < 6 → N' (80 + 7 * e + k) = N (80 + 7 * e + k)
theorem Sm.t {N N' : zN} (h : Sm N N') : cT N' = cT N := by unfold cT; rw [h.2.1]
theorem Sm.e {N N' : zN} (h : Sm N N') : cE N' = cE N := by unfold cE; rw [h.2.2.1]
theorem Sc_Sm {N N' L : zN} {w x : Int32} {t : Nat} (h : Sm N N') (ht : t < 8) : Sc N' L w x t ↔ Sc N L w x t := by
  unfold Sc Al
  rw [h.1 _ (by omega), h.1 _ (by omega)]
theorem SE_Sm {N N' L : zN} {e t : Nat} (h : Sm N N') (ht : t < 8) (he : e < cE N) : SE N' L e t ↔ SE N L e t := by
  unfold SE
  rw [h.2.2.2 e 2 he (by omega), h.2.2.2 e 3 he (by omega)]
  exact Sc_Sm h ht
theorem Do_Sm {N N' L : zN} {e : Nat} (hC : CN N) (h : Sm N N') (he : e < cE N) : Do N' L e = Do N L e := by
  have h8 := hC.1.2
  funext i
  unfold Do
  rw [h.t, h.2.2.2 e 1 he (by omega), h.2.2.2 e 4 he (by omega), h.2.2.2 e 5 he (by omega)]
  by_cases q : i / 4 < cT N
  · have e1 : (i / 4 < cT N ∧ SE N' L e (i / 4)) = (i / 4 < cT N ∧ SE N L e (i / 4)) := propext ⟨fun z => ⟨z.1, (SE_Sm h (by omega) he).mp z.2⟩, fun z => ⟨z.1, (SE_Sm h (by omega) he).mpr z.2⟩⟩
    rw [e1]
  · rw [if_neg (fun z => q z.1), if_neg (fun z => q z.1)]
theorem Dep_Sm {N N' L : zN} {e f : Nat} (hC : CN N) (h : Sm N N') (he : e < cE N) (hf : f < cE N) : Dep N' L e f ↔ Dep N L e f := by
  have h8 := hC.1.2
  unfold Dep
  rw [h.t, Do_Sm hC h hf]
  constructor
  · rintro ⟨t, h1, h2⟩
    exact ⟨t, h1, fun z => h2 ((SE_Sm h (by omega) he).trans (z.trans (SE_Sm h (by omega) he).symm))⟩
  · rintro ⟨t, h1, h2⟩
    exact ⟨t, h1, fun z => h2 ((SE_Sm h (by omega) he).symm.trans (z.trans (SE_Sm h (by omega) he)))⟩
theorem Fre_Sm {N N' L : zN} {S : Int32} {e : Nat} (hC : CN N) (h : Sm N N') (hs : ∀ k, k < 32 → bi S (nI k) → k < cE N) (h10 : e < 10) : Fre N' L S e ↔ Fre N L S e := by
  unfold Fre
  constructor
  · rintro ⟨a, b⟩
    exact ⟨a, fun f h1 h2 h3 z => b f h1 h2 h3 ((Dep_Sm hC h (hs e (by omega) a) (hs f (by omega) h3)).mpr z)⟩
  · rintro ⟨a, b⟩
    exact ⟨a, fun f h1 h2 h3 z => b f h1 h2 h3 ((Dep_Sm hC h (hs e (by omega) a) (hs f (by omega) h3)).mp z)⟩
theorem ffst_cg {p q : Nat → Prop} : ∀ (m i : Nat), (∀ j, i ≤ j → j < i + m → (p j ↔ q j)) → ffst p m i = ffst q m i := by
  intro m
  induction m with
  | zero => intro i _; rfl
  | succ m ih =>
    intro i h
    have e := h i (by omega) (by omega)
    have r := ih (i + 1) (fun j h1 h2 => h j (by omega) (by omega))
    rcases Classical.em (p i) with z | z
    · rw [ffst, if_pos z, ffst, if_pos (e.mp z)]
    · rw [ffst, if_neg z, ffst, if_neg (fun y => z (e.mpr y)), r]
theorem Nx_Sm {N N' L : zN} {S : Int32} (hC : CN N) (h : Sm N N') (hs : ∀ k, k < 32 → bi S (nI k) → k < cE N) : Nx N' L S = Nx N L S := by
  unfold Nx
  have e1 : (∃ e, e < 10 ∧ Fre N' L S e) = (∃ e, e < 10 ∧ Fre N L S e) := propext ⟨fun ⟨e, a, b⟩ => ⟨e, a, (Fre_Sm hC h hs a).mp b⟩, fun ⟨e, a, b⟩ => ⟨e, a, (Fre_Sm hC h hs a).mpr b⟩⟩
  rw [e1, ffst_cg 10 0 (fun j _ h2 => Fre_Sm hC h hs (by omega))]
theorem lyr_Sm {N N' : zN} (hC : CN N) (h : Sm N N') : ∀ (m : Nat) (S : Int32) (X D : zN) (c : Nat), (∀ k, k < 32 → bi S (nI k) → k < cE N) → lyr N' m S X D c = lyr N m S X D c := by
  have h10 := hC.2.1.2
  intro m
  induction m with
  | zero => intro S X D c _; rfl
  | succ m ih =>
    intro S X D c hs
    rw [lyr, lyr]
    by_cases z : S = 0
    · rw [if_pos z, if_pos z]
    · rw [if_neg z, if_neg z, Nx_Sm hC h hs]
      obtain ⟨a, b⟩ := Nx_in (N := N) (L := X) (fun k hk hb => by have := hs k hk hb; omega) z
      rw [Do_Sm hC h (hs _ (by omega) b)]
      exact ih _ _ _ _ (fun k hk hb => hs k hk ((bi_out (by omega) hk).mp hb).1)
theorem lyr_rq {N : zN} : ∀ (m : Nat) (S : Int32) (X X' D : zN) (c : Nat), rq (cT N) X X' → rq (cT N) (lyr N m S X D c).1 (lyr N m S X' D c).1 ∧ (lyr N m S X D c).2 = (lyr N m S X' D c).2 := by
  intro m
  induction m with
  | zero => intro S X X' D c h; exact ⟨h, rfl⟩
  | succ m ih =>
    intro S X X' D c h
    rw [lyr, lyr]
    by_cases z : S = 0
    · rw [if_pos z, if_pos z]; exact ⟨h, rfl⟩
    · rw [if_neg z, if_neg z, Nx_rq h]
      exact ih _ _ _ _ _ (Do_rq h)
theorem AlI_Sm {N N' : zN} {x : Int32} (hC : CN N) (h : Sm N N') : AlI N' x ↔ AlI N x := by
  have h8 := hC.1.2
  unfold AlI
  rw [h.2.1]
  constructor
  · rintro ⟨a, b⟩
    have a' := a
    rw [hC.1.1] at a'
    obtain ⟨j, hj, rfl⟩ := zsm (by omega) a'
    rw [nI_clamp (by omega)] at b ⊢
    rw [h.1 _ (by omega)] at b
    exact ⟨a, b⟩
  · rintro ⟨a, b⟩
    have a' := a
    rw [hC.1.1] at a'
    obtain ⟨j, hj, rfl⟩ := zsm (by omega) a'
    rw [nI_clamp (by omega)] at b ⊢
    rw [h.1 _ (by omega)]
    exact ⟨a, b⟩
theorem Wo_Sm {N N' : zN} {e : Nat} (hC : CN N) (h : Sm N N') (he : e < cE N) : Wo N' e ↔ Wo N e := by
  unfold Wo
  rw [show N' (80 + 7 * e) = N (80 + 7 * e) from h.2.2.2 e 0 he (by omega), AlI_Sm hC h]
theorem Wk_Sm {N N' : zN} {l : Nat} (hC : CN N) (h : Sm N N') : Wk N' l = Wk N l := by
  have h10 := hC.2.1.2
  unfold Wk
  rw [h.e]
  refine mask_congr (by omega) (fun k hk => ?_)
  rw [h.2.2.2 k 1 hk (by omega), Wo_Sm hC h hk]
theorem Mk_Sm {N N' : zN} (hC : CN N) (h : Sm N N') : ∀ l, rq (cT N) (Mk N' l).1 (Mk N l).1 ∧ (Mk N' l).2 = (Mk N l).2 := by
  have h8 := hC.1.2
  intro l
  induction l with
  | zero =>
    refine ⟨fun i hi => ?_, rfl⟩
    show B0 N' i = B0 N i
    unfold B0
    rw [h.1 _ (by omega), h.1 _ (by omega), h.1 _ (by omega)]
  | succ l ih =>
    rw [Mk, Mk, Wk_Sm hC h, lyr_Sm hC h _ _ _ _ _ (Wk_in hC), ih.2]
    exact lyr_rq _ _ _ _ _ _ ih.1
theorem Dy_Sm {N N' : zN} (hC : CN N) (h : Sm N N') : Dy N' (Mk N' 5).1 = Dy N (Mk N 5).1 := by
  have h8 := hC.1.2
  unfold Dy
  rw [h.t]
  refine mask_congr (by omega) (fun k hk => ?_)
  unfold Al
  rw [h.1 _ (by omega), h.1 _ (by omega), (Mk_Sm hC h 5).1 _ (by omega)]
theorem Lm_Sm {h : zHp} {K : Nat} {N N' : zN} (hC : CN N) (s : Sm N N') (l : Lm h K N) : Lm h K N' := by
  obtain ⟨a, b⟩ := Mk_Sm hC s 5
  refine ⟨by rw [b]; exact l.1, ?_, fun i hi => ?_⟩
  · rw [s.t]; exact l.2.1.tr a.sym
  · rw [b] at hi ⊢
    exact l.2.2 i hi
theorem Mm_Sm {h : zHp} {N N' : zN} (hC : CN N) (s : Sm N N') (l : Mm h N) : Mm h N' := by
  obtain ⟨a, b⟩ := Mk_Sm hC s 5
  refine ⟨by rw [b]; exact l.1, ?_, fun i hi => ?_⟩
  · rw [s.t]; exact l.2.1.tr a.sym
  · rw [b] at hi ⊢
    exact l.2.2 i hi
/-- no one dies -/
def St (N : zN) : Prop := Dy N (Mk N 5).1 = 0
theorem St_Sm {N N' : zN} (hC : CN N) (h : Sm N N') (s : St N) : St N' := by unfold St; rw [Dy_Sm hC h]; exact s
theorem Ro_St {pl : Prop} {m : Nat} {N : zN} {s : Stk} (h : St N) : Ro pl m N s = (N, s) := by
  cases m with
  | zero => rfl
  | succ m => unfold St at h; rw [Ro, if_pos h]
theorem Ro_ind {pl : Prop} {P : zN → Prop} (hP : ∀ N, P N → CN N) (hB : ∀ N, P N → P (Bu N (Mk N 5).1 (Dy N (Mk N 5).1))) : ∀ (m : Nat) (N : zN) (s : Stk), P N → P (Ro pl m N s).1 := by
  intro m
  induction m with
  | zero => intro N s h; exact h
  | succ m ih =>
    intro N s h
    rw [Ro]
    by_cases z : Dy N (Mk N 5).1 = 0
    · rw [if_pos z]; exact h
    · rw [if_neg z]; exact ih _ _ (hB N h)
/-- behind the rounds no one dies -/
theorem Ro_end {pl : Prop} : ∀ (m : Nat) (N : zN) (s : Stk), CN N → na N < m → St (Ro pl m N s).1 := by
  intro m
  induction m with
  | zero => intro N s _ h; omega
  | succ m ih =>
    intro N s hC hm
    rw [Ro]
    by_cases z : Dy N (Mk N 5).1 = 0
    · rw [if_pos z]; exact z
    · rw [if_neg z]
      have pos := Dy_pos hC z
      have cnt := Bu_na (L := (Mk N 5).1) hC (D := Dy N (Mk N 5).1) (fun t ht hb => (Dy_al hC (by have := hC.1.2; omega) hb).2)
      exact ih _ _ (Bu_CN hC).1 (by omega)
theorem na_8 {N : zN} (hC : CN N) : na N ≤ 8 := by
  have a := nb_le (n := cT N) (p := Al N)
  have b := hC.1.2
  unfold na
  omega
theorem Ro_9 {pl : Prop} {N : zN} {s : Stk} (hC : CN N) : St (Ro pl 9 N s).1 := Ro_end 9 N s hC (by have := na_8 hC; omega)

