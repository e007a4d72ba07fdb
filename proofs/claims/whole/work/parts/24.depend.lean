/-! which effect depends on which, which is next: the reference -/
def AlI (N : zN) (s : Int32) : Prop := (0 ≤ s ∧ s ≤ N 238 - 1) ∧ N (10 * s.toNatClampNeg + 5) = 1
/-- effect e does something -/
def Wo (N : zN) (e : Nat) : Prop := N (80 + 7 * e) = -1 ∨ AlI N (N (80 + 7 * e))
/-- effect e depends on effect f -/
def Dep (N L : zN) (e f : Nat) : Prop := ∃ t, t < cT N ∧ ¬ (SE N L e t ↔ SE N (Do N L f) e t)
/-- rows that are alike for the first n things -/
def rq (n : Nat) (L L' : zN) : Prop := ∀ i, i < 4 * n → L i = L' i
theorem rq.rf {n : Nat} {L : zN} : rq n L L := fun _ _ => rfl
theorem rq.sym {n : Nat} {L L' : zN} (h : rq n L L') : rq n L' L := fun i hi => (h i hi).symm
theorem rq.tr {n : Nat} {L L' L2 : zN} (h : rq n L L') (h2 : rq n L' L2) : rq n L L2 := fun i hi => (h i hi).trans (h2 i hi)
theorem Sc_rq {n t : Nat} {N L L' : zN} {w x : Int32} (h : rq n L L') (ht : t < n) : Sc N L w x t ↔ Sc N L' w x t := by
  unfold Sc
  rw [h (4 * t) (by omega), h (4 * t + 1) (by omega)]
theorem SE_rq {n t e : Nat} {N L L' : zN} (h : rq n L L') (ht : t < n) : SE N L e t ↔ SE N L' e t := Sc_rq h ht
theorem Do_rq {e : Nat} {N L L' : zN} (h : rq (cT N) L L') : rq (cT N) (Do N L e) (Do N L' e) := by
  intro i hi
  rw [show i = 4 * (i / 4) + i % 4 by omega]
  have ht : i / 4 < cT N := by omega
  rcases Classical.em (SE N L e (i / 4)) with q | q
  · rw [Do_in ht q (by omega), Do_in ht ((SE_rq h ht).mp q) (by omega), h (4 * (i / 4)) (by omega), h (4 * (i / 4) + 1) (by omega), h (4 * (i / 4) + 2) (by omega), h (4 * (i / 4) + 3) (by omega)]
  · rw [Do_out (fun z => q z.2) (by omega), Do_out (fun z => q ((SE_rq h ht).mpr z.2)) (by omega), h _ (by omega)]
theorem Dep_rq {e f : Nat} {N L L' : zN} (h : rq (cT N) L L') : Dep N L e f ↔ Dep N L' e f := by
  unfold Dep
  constructor
  · rintro ⟨t, ht, q⟩
    exact ⟨t, ht, fun z => q (by rw [SE_rq h ht, SE_rq (Do_rq h) ht]; exact z)⟩
  · rintro ⟨t, ht, q⟩
    exact ⟨t, ht, fun z => q (by rw [SE_rq h.sym ht, SE_rq (Do_rq h.sym) ht]; exact z)⟩
theorem g_X11_doesSomething {x1 : Int32} {h : zHp} {Q : Int32 → zHp → Prop}  (G : zG h) (F : vp_in ((80 + (7 * x1)) + 0) 246 ∧ ((rI h 165 ((Int32.toNatClampNeg (((80 + (7 * x1)) + 0)))) = -1 → (Q 1 h)) ∧ (¬ (rI h 165 ((Int32.toNatClampNeg (((80 + (7 * x1)) + 0)))) = -1) → (zCt (rI h 165 238) 8 ∧ ((¬ (aliveM h (rI h 165 ((Int32.toNatClampNeg (((80 + (7 * x1)) + 0)))))) → (Q 0 h)) ∧ ((aliveM h (rI h 165 ((Int32.toNatClampNeg (((80 + (7 * x1)) + 0)))))) → (Q 1 h))))))) : zcI M_X11_doesSomething [.ref 164, .int x1] h Q := by
  show zw zNT zNT M_X11_doesSomething 0 [some (.ref 164), some (.int x1)] [] h _
  refine z_aload_n (pc := 0) dX11_doesSomething_0 rfl rfl ?_
  refine z_iload_n (pc := 1) dX11_doesSomething_1 rfl rfl ?_
  refine z_iconst (pc := 2) (v := 0) dX11_doesSomething_2 (by decide) ?_
  obtain ⟨k1, F⟩ := F
  refine q_invV (pc := 3) (As := [.int x1, .int 0]) (st := []) dX11_doesSomething_3 ok_X11_effectIs ml_RX11_103 iv_X11_effectIs pa_X11_effectIs ⟨Nat.le_of_ble_eq_true rfl, Nat.le_of_ble_eq_true rfl⟩ (lyc rfl) (q_pI (s_X11_effectIs G k1) rfl ?_)
  refine z_iconst (pc := 6) (v := -1) dX11_doesSomething_6 (by decide) ?_
  refine z_icmp_eq (pc := 7) (tgt := 23) dX11_doesSomething_7 (by decide) (fun k4 => ?_) (fun k4 => ?_)
  · replace F := F.1 k4
    refine z_iconst (pc := 23) (v := 1) dX11_doesSomething_23 (by decide) ?_
    refine z_goto (pc := 24) (tgt := 28) dX11_doesSomething_24 (by decide) ?_
    exact q_retB (pc := 28) dX11_doesSomething_28 rfl (Or.inr rfl) F
  · replace F := F.2 k4
    refine z_aload_n (pc := 10) dX11_doesSomething_10 rfl rfl ?_
    refine z_aload_n (pc := 11) dX11_doesSomething_11 rfl rfl ?_
    refine z_iload_n (pc := 12) dX11_doesSomething_12 rfl rfl ?_
    refine z_iconst (pc := 13) (v := 0) dX11_doesSomething_13 (by decide) ?_
    refine q_invV (pc := 14) (As := [.int x1, .int 0]) (st := [.ref 164]) dX11_doesSomething_14 ok_X11_effectIs ml_RX11_103 iv_X11_effectIs pa_X11_effectIs ⟨Nat.le_of_ble_eq_true rfl, Nat.le_of_ble_eq_true rfl⟩ (lyc rfl) (q_pI (s_X11_effectIs G k1) rfl ?_)
    obtain ⟨k2, F⟩ := F
    refine q_invV (pc := 17) (As := [.int (rI h 165 ((Int32.toNatClampNeg (((80 + (7 * x1)) + 0)))))]) (st := []) dX11_doesSomething_17 ok_X11_isAlive ml_RX11_100 iv_X11_isAlive pa_X11_isAlive ⟨Nat.le_of_ble_eq_true rfl, Nat.le_of_ble_eq_true rfl⟩ (lyc rfl) (q_pI (s_X11_isAlive G k2) rfl ?_)
    refine z_if_eq (pc := 20) (tgt := 27) dX11_doesSomething_20 (by decide) (fun k3 => ?_) (fun k3 => ?_)
    · replace F := F.1 (zb0.mp k3)
      refine z_iconst (pc := 27) (v := 0) dX11_doesSomething_27 (by decide) ?_
      exact q_retB (pc := 28) dX11_doesSomething_28 rfl (Or.inl rfl) F
    · replace F := F.2 (zbn.mp k3)
      refine z_iconst (pc := 23) (v := 1) dX11_doesSomething_23 (by decide) ?_
      refine z_goto (pc := 24) (tgt := 28) dX11_doesSomething_24 (by decide) ?_
      exact q_retB (pc := 28) dX11_doesSomething_28 rfl (Or.inr rfl) F
theorem g_X11_doesDepend {x1 : Int32} {x2 : Int32} {h : zHp} {Q : Int32 → zHp → Prop}  (G : zG h) (F : zlI M_X11_doesDepend 2 [some (.ref 164), some (.int x1), some (.int x2), some (.int 0)] [] h Q) : zcI M_X11_doesDepend [.ref 164, .int x1, .int x2] h Q := by
  show zw zNT zNT M_X11_doesDepend 0 [some (.ref 164), some (.int x1), some (.int x2), none] [] h _
  refine z_iconst (pc := 0) (v := 0) dX11_doesDepend_0 (by decide) ?_
  refine z_istore_n (pc := 1) (ls' := [some (.ref 164), some (.int x1), some (.int x2), some (.int 0)]) dX11_doesDepend_1 rfl (by decide) rfl ?_
  exact F
theorem g_X11_doesDepend_2 {x1 : Int32} {x2 : Int32} {x3 : Int32} {h : zHp} {Q : Int32 → zHp → Prop}  (G : zG h) (F : (32 ≤ x3 → (zcV M_X11_does [.ref 164, .ref 169, .int x2] h (fun h1 => zG h1 ∧ (zcI M_X11_scopeOf [.ref 164, .ref 168, .int x1] h1 (fun vh2 h2 => zG h2 ∧ (zcI M_X11_scopeOf [.ref 164, .ref 169, .int x1] h2 (fun vh3 h3 => zG h3 ∧ ((vh2 = vh3 → (Q 0 h3)) ∧ (¬ (vh2 = vh3) → (Q 1 h3)))))))))) ∧ (¬ (32 ≤ x3) → (vp_in x3 32 ∧ (zlI M_X11_doesDepend 2 [some (.ref 164), some (.int x1), some (.int x2), some (.int (x3 + 1))] [] (wI h 169 ((Int32.toNatClampNeg x3)) (rI h 168 ((Int32.toNatClampNeg x3)))) Q)))) : zlI M_X11_doesDepend 2 [some (.ref 164), some (.int x1), some (.int x2), some (.int x3)] [] h Q := by
  refine z_iload_n (pc := 2) dX11_doesDepend_2 rfl rfl ?_
  refine z_bipush (pc := 3) (v := 32) dX11_doesDepend_3 (by decide) ?_
  refine z_icmp_ge (pc := 5) (tgt := 26) dX11_doesDepend_5 (by decide) (fun k6 => ?_) (fun k6 => ?_)
  · replace F := F.1 k6
    refine z_aload_n (pc := 26) dX11_doesDepend_26 rfl rfl ?_
    refine z_aload_n (pc := 27) dX11_doesDepend_27 rfl rfl ?_
    refine q_getR (pc := 28) (i := 169) dX11_doesDepend_28 lk_RX11_22 (lyc rfl) (G 164 5 169 rfl) ?_
    refine z_iload_n (pc := 31) dX11_doesDepend_31 rfl rfl ?_
    refine q_invV (pc := 32) (As := [.ref 169, .int x2]) (st := []) dX11_doesDepend_32 ok_X11_does ml_RX11_114 iv_X11_does pa_X11_does ⟨Nat.le_of_ble_eq_true rfl, Nat.le_of_ble_eq_true rfl⟩ (lyc rfl) (q_kV F (fun h1 F => ?_))
    obtain ⟨G1, F⟩ := F
    refine z_aload_n (pc := 35) dX11_doesDepend_35 rfl rfl ?_
    refine z_aload_n (pc := 36) dX11_doesDepend_36 rfl rfl ?_
    refine q_getR (pc := 37) (i := 168) dX11_doesDepend_37 lk_RX11_19 (lyc rfl) (G1 164 4 168 rfl) ?_
    refine z_iload_n (pc := 40) dX11_doesDepend_40 rfl rfl ?_
    refine q_invV (pc := 41) (As := [.ref 168, .int x1]) (st := []) dX11_doesDepend_41 ok_X11_scopeOf ml_RX11_110 iv_X11_scopeOf pa_X11_scopeOf ⟨Nat.le_of_ble_eq_true rfl, Nat.le_of_ble_eq_true rfl⟩ (lyc rfl) (q_kI F (fun vh2 h2 F => ?_))
    obtain ⟨G2, F⟩ := F
    refine z_aload_n (pc := 44) dX11_doesDepend_44 rfl rfl ?_
    refine z_aload_n (pc := 45) dX11_doesDepend_45 rfl rfl ?_
    refine q_getR (pc := 46) (i := 169) dX11_doesDepend_46 lk_RX11_22 (lyc rfl) (G2 164 5 169 rfl) ?_
    refine z_iload_n (pc := 49) dX11_doesDepend_49 rfl rfl ?_
    refine q_invV (pc := 50) (As := [.ref 169, .int x1]) (st := [.int vh2]) dX11_doesDepend_50 ok_X11_scopeOf ml_RX11_110 iv_X11_scopeOf pa_X11_scopeOf ⟨Nat.le_of_ble_eq_true rfl, Nat.le_of_ble_eq_true rfl⟩ (lyc rfl) (q_kI F (fun vh3 h3 F => ?_))
    obtain ⟨G3, F⟩ := F
    refine z_icmp_eq (pc := 53) (tgt := 60) dX11_doesDepend_53 (by decide) (fun k4 => ?_) (fun k4 => ?_)
    · replace F := F.1 k4
      refine z_iconst (pc := 60) (v := 0) dX11_doesDepend_60 (by decide) ?_
      exact q_retB (pc := 61) dX11_doesDepend_61 rfl (Or.inl rfl) F
    · replace F := F.2 k4
      refine z_iconst (pc := 56) (v := 1) dX11_doesDepend_56 (by decide) ?_
      refine z_goto (pc := 57) (tgt := 61) dX11_doesDepend_57 (by decide) ?_
      exact q_retB (pc := 61) dX11_doesDepend_61 rfl (Or.inr rfl) F
  · replace F := F.2 k6
    refine z_aload_n (pc := 8) dX11_doesDepend_8 rfl rfl ?_
    refine q_getR (pc := 9) (i := 169) dX11_doesDepend_9 lk_RX11_22 (lyc rfl) (G 164 5 169 rfl) ?_
    refine z_iload_n (pc := 12) dX11_doesDepend_12 rfl rfl ?_
    refine z_aload_n (pc := 13) dX11_doesDepend_13 rfl rfl ?_
    refine q_getR (pc := 14) (i := 168) dX11_doesDepend_14 lk_RX11_19 (lyc rfl) (G 164 4 168 rfl) ?_
    refine z_iload_n (pc := 17) dX11_doesDepend_17 rfl rfl ?_
    obtain ⟨k5, F⟩ := F
    refine q_iald (pc := 18) (j := (Int32.toNatClampNeg x3)) (v := rI h 168 ((Int32.toNatClampNeg x3))) dX11_doesDepend_18 (lyc rfl) (zvn (lnc rfl) k5) rfl rfl ?_
    refine q_iast (pc := 19) (j := (Int32.toNatClampNeg x3)) dX11_doesDepend_19 (lyc rfl) (zvn (lnc rfl) k5) rfl ?_
    refine z_iinc (pc := 20) (v := x3 + 1) (ls' := [some (.ref 164), some (.int x1), some (.int x2), some (.int (x3 + 1))]) dX11_doesDepend_20 (by decide) rfl rfl rfl ?_
    refine z_goto (pc := 23) (tgt := 2) dX11_doesDepend_23 (by decide) ?_
    exact F
theorem aliveM_Al {h : zHp} {s : Int32} : aliveM h s ↔ AlI (h.1 165) s := Iff.rfl
theorem s_X11_doesSomething {e : Nat} {h : zHp} (G : zG h) (k : zCt (rI h 165 238) 8) (he : e < 10) : zcI M_X11_doesSomething [.ref 164, .int (nI e)] h (fun r h' => r = zb (Wo (h.1 165) e) ∧ h' = h) := by
  obtain ⟨i0, -⟩ := ixE' he
  refine g_X11_doesSomething G ⟨i0.1, ?_⟩
  rw [i0.2]
  refine ⟨fun q => ⟨(zb_pos (Or.inl q)).symm, rfl⟩, fun q => ⟨k, fun q2 => ⟨(zb_neg (fun z => z.elim q q2)).symm, rfl⟩, fun q2 => ⟨(zb_pos (Or.inr q2)).symm, rfl⟩⟩⟩
theorem mask_eq {n : Nat} {p q : Nat → Prop} (hn : n ≤ 32) : mask n p = mask n q ↔ ∀ k, k < n → (p k ↔ q k) := by
  constructor
  · intro h k hk
    have a := bi_mask (p := p) hn (show k < 32 by omega)
    have b := bi_mask (p := q) hn (show k < 32 by omega)
    rw [h] at a
    constructor
    · intro z; exact (b.mp (a.mpr ⟨hk, z⟩)).2
    · intro z; exact (a.mp (b.mpr ⟨hk, z⟩)).2
  · exact mask_congr hn
theorem s_X11_doesDepend {e f : Nat} {h : zHp} (G : zG h) (k : zCt (rI h 165 238) 8) (he : e < 10) (hf : f < 10) : zcI M_X11_doesDepend [.ref 164, .int (nI e), .int (nI f)] h (fun r h' => r = zb (Dep (h.1 165) (h.1 168) e f) ∧ ∃ g, h' = wA h 169 g) := by
  have hn8 : cT (h.1 165) ≤ 8 := (zCt_n k (by omega)).2
  have loop : ∀ (m j : Nat), j + m = 32 → zlI M_X11_doesDepend 2 [some (.ref 164), some (.int (nI e)), some (.int (nI f)), some (.int (nI j))] [] (wA h 169 (fun i => if i < j then h.1 168 i else h.1 169 i)) (fun r h' => r = zb (Dep (h.1 165) (h.1 168) e f) ∧ ∃ g, h' = wA h 169 g) := by
    intro m
    induction m with
    | zero =>
      intro j hj
      have : j = 32 := by omega
      subst this
      refine g_X11_doesDepend_2 G ⟨fun _ => ?_, fun q => absurd (by decide) q⟩
      generalize hg : (fun i => if i < 32 then h.1 168 i else h.1 169 i) = g
      have hgr : rq (cT (h.1 165)) (h.1 168) g := by
        intro i hi
        rw [← hg]
        simp only []
        rw [if_pos (by omega)]
      have k1 : zCt (rI (wA h 169 g) 165 238) 8 := by rw [rI_An (by decide)]; exact k
      refine zcV_use (s_X11_does (c := 169) (e := f) G (Or.inr rfl) k1 hf) ⟨G, ?_⟩
      rw [wA_wA, wA_s, wA_n (show 165 ≠ 169 by decide)]
      have k2 : zCt (rI (wA h 169 (Do (h.1 165) g f)) 165 238) 8 := by rw [rI_An (by decide)]; exact k
      refine zcI_use (s_X11_scopeOf (c := 168) (e := e) G (Or.inl rfl) k2 he) ⟨G, ?_⟩
      refine zcI_use (s_X11_scopeOf (c := 169) (e := e) G (Or.inr rfl) k2 he) ⟨G, ?_⟩
      rw [wA_s, wA_n (show 165 ≠ 169 by decide), wA_n (show 168 ≠ 169 by decide), mask_eq (by omega)]
      have key : Dep (h.1 165) (h.1 168) e f ↔ ¬ ∀ k, k < cT (h.1 165) → (SE (h.1 165) (h.1 168) e k ↔ SE (h.1 165) (Do (h.1 165) g f) e k) := by
        unfold Dep
        constructor
        · rintro ⟨t, ht, q⟩ z
          exact q (by rw [SE_rq (Do_rq hgr) ht]; exact z t ht)
        · intro q
          apply Classical.byContradiction
          intro z
          refine q (fun t ht => Classical.byContradiction fun y => z ⟨t, ht, fun x => y ?_⟩)
          rw [← SE_rq (Do_rq hgr) ht]
          exact x
      exact ⟨fun q => ⟨(zb_neg (fun z => key.mp z q)).symm, _, rfl⟩, fun q => ⟨(zb_pos (key.mpr q)).symm, _, rfl⟩⟩
    | succ m ih =>
      intro j hj
      have nx := ih (j + 1) (by omega)
      rw [← nI_1] at nx
      refine g_X11_doesDepend_2 G ⟨fun q => absurd q (nI_ge (b := 32) (by omega) (by omega)), fun _ => ⟨vp_in_nI (by omega) (by omega), ?_⟩⟩
      rw [nI_clamp (by omega), wA_wI, rI_An (by decide)]
      have e9 : upd (fun i => if i < j then h.1 168 i else h.1 169 i) j (rI h 168 j) = fun i => if i < j + 1 then h.1 168 i else h.1 169 i := by
        funext i
        simp only [upd, rI]
        by_cases q : i = j
        · subst q
          rw [if_pos rfl, if_pos (by omega)]
        · rw [if_neg q]
          by_cases q2 : i < j
          · rw [if_pos q2, if_pos (by omega)]
          · rw [if_neg q2, if_neg (by omega)]
      rw [e9]
      exact nx
  have := loop 32 0 (by omega)
  rw [show (fun i => if i < 0 then h.1 168 i else h.1 169 i) = h.1 169 by funext i; rw [if_neg (by omega)], wA_id] at this
  exact g_X11_doesDepend G this
/-- effect e of the set S waits for no other one of it -/
def Fre (N L : zN) (S : Int32) (e : Nat) : Prop := bi S (nI e) ∧ ∀ f, f < 10 → f ≠ e → bi S (nI f) → ¬ Dep N L e f
/-- the first of m numbers from i on with p -/
noncomputable def ffst (p : Nat → Prop) : Nat → Nat → Nat
  | 0, i => i
  | m + 1, i => @ite _ (p i) (Classical.propDecidable _) i (ffst p m (i + 1))
theorem ffst_spec {p : Nat → Prop} : ∀ (m i : Nat), (∃ j, i ≤ j ∧ j < i + m ∧ p j) → i ≤ ffst p m i ∧ ffst p m i < i + m ∧ p (ffst p m i) ∧ ∀ j, i ≤ j → j < ffst p m i → ¬ p j := by
  intro m
  induction m with
  | zero => rintro i ⟨j, a, b, -⟩; omega
  | succ m ih =>
    rintro i ⟨j, a, b, c⟩
    rcases Classical.em (p i) with q | q
    · rw [ffst, if_pos q]
      exact ⟨by omega, by omega, q, fun j h1 h2 => by omega⟩
    · rw [ffst, if_neg q]
      have hj : j ≠ i := fun z => q (z ▸ c)
      obtain ⟨h1, h2, h3, h4⟩ := ih (i + 1) ⟨j, by omega, by omega, c⟩
      refine ⟨by omega, by omega, h3, fun j' g1 g2 => ?_⟩
      rcases Nat.eq_or_lt_of_le g1 with z | z
      · rw [← z]; exact q
      · exact h4 j' (by omega) g2
theorem ffst_eq {p : Nat → Prop} {m i j : Nat} (h1 : i ≤ j) (h2 : j < i + m) (h3 : p j) (h4 : ∀ k, i ≤ k → k < j → ¬ p k) : ffst p m i = j := by
  obtain ⟨a, b, c, d⟩ := ffst_spec m i ⟨j, h1, h2, h3⟩
  rcases Nat.lt_trichotomy (ffst p m i) j with q | q | q
  · exact absurd c (h4 _ a q)
  · exact q
  · exact absurd h3 (d j h1 q)
/-- the next effect of the set S -/
noncomputable def Nx (N L : zN) (S : Int32) : Nat := @ite _ (∃ e, e < 10 ∧ Fre N L S e) (Classical.propDecidable _) (ffst (Fre N L S) 10 0) (ffst (fun e => bi S (nI e)) 10 0)
theorem Fre_rq {N L L' : zN} {S : Int32} {e : Nat} (h : rq (cT N) L L') : Fre N L S e ↔ Fre N L' S e := by
  unfold Fre
  constructor
  · rintro ⟨a, b⟩; exact ⟨a, fun f h1 h2 h3 z => b f h1 h2 h3 ((Dep_rq h).mpr z)⟩
  · rintro ⟨a, b⟩; exact ⟨a, fun f h1 h2 h3 z => b f h1 h2 h3 ((Dep_rq h).mp z)⟩
theorem Nx_rq {N L L' : zN} {S : Int32} (h : rq (cT N) L L') : Nx N L S = Nx N L' S := by
  have : Fre N L S = Fre N L' S := by funext e; exact propext (Fre_rq h)
  unfold Nx
  rw [this]
/-- S is a set of effects below 10, and not empty -/
def Set10 (S : Int32) : Prop := ∀ k, k < 32 → bi S (nI k) → k < 10
theorem Nx_in {N L : zN} {S : Int32} (hs : Set10 S) (h0 : ¬ S = 0) : Nx N L S < 10 ∧ bi S (nI (Nx N L S)) := by
  unfold Nx
  rcases Classical.em (∃ e, e < 10 ∧ Fre N L S e) with q | q
  · rw [if_pos q]
    obtain ⟨e, h1, h2⟩ := q
    obtain ⟨a, b, c, -⟩ := ffst_spec (p := Fre N L S) 10 0 ⟨e, by omega, by omega, h2⟩
    exact ⟨by omega, c.1⟩
  · rw [if_neg q]
    have : ∃ k, k < 10 ∧ bi S (nI k) := Classical.byContradiction fun z => h0 (bi_all0.mpr fun k hk y => z ⟨k, hs k hk y, y⟩)
    obtain ⟨e, h1, h2⟩ := this
    obtain ⟨a, b, c, -⟩ := ffst_spec (p := fun e => bi S (nI e)) 10 0 ⟨e, by omega, by omega, h2⟩
    exact ⟨by omega, c⟩

