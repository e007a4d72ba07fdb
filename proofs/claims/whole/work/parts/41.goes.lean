/-! one goes out of a row, those behind it come one place ahead: the reference -/
def Go (b w m k : Nat) (N : zN) : zN := fun i => if i = m then N m - 1 else if b + w * k ≤ i ∧ i < b + w * ((N m).toNatClampNeg - 1) then N (i + w) else N i
def GoP (b w m k j : Nat) (N : zN) : zN := fun i => if i = m then N m - 1 else if b + w * k ≤ i ∧ i < j then N (i + w) else N i
theorem g_X11_goes {x1 : Int32} {x2 : Int32} {x3 : Int32} {x4 : Int32} {h : zHp} {Q : zHp → Prop}  (G : zG h) (F : vp_in x3 246 ∧ (zlV M_X11_goes 18 [some (.ref 164), some (.int x1), some (.int x2), some (.int x3), some (.int x4), some (.int (x1 + (x2 * x4)))] [] (wI h 165 ((Int32.toNatClampNeg x3)) ((rI h 165 ((Int32.toNatClampNeg x3))) - 1)) Q)) : zcV M_X11_goes [.ref 164, .int x1, .int x2, .int x3, .int x4] h Q := by
  show zw zNT zNT M_X11_goes 0 [some (.ref 164), some (.int x1), some (.int x2), some (.int x3), some (.int x4), none] [] h _
  refine z_aload_n (pc := 0) dX11_goes_0 rfl rfl ?_
  refine q_getR (pc := 1) (i := 165) dX11_goes_1 lk_RX11_7 (lyc rfl) (G 164 0 165 rfl) ?_
  refine z_iload_n (pc := 4) dX11_goes_4 rfl rfl ?_
  refine z_dup2 (pc := 5) dX11_goes_5 rfl rfl ?_
  obtain ⟨k1, F⟩ := F
  refine q_iald (pc := 6) (j := (Int32.toNatClampNeg x3)) (v := rI h 165 ((Int32.toNatClampNeg x3))) dX11_goes_6 (lyc rfl) (zvn (lnc rfl) k1) rfl rfl ?_
  refine z_iconst (pc := 7) (v := 1) dX11_goes_7 (by decide) ?_
  refine z_isub (pc := 8) dX11_goes_8 ?_
  refine q_iast (pc := 9) (j := (Int32.toNatClampNeg x3)) dX11_goes_9 (lyc rfl) (zvn (lnc rfl) k1) rfl ?_
  refine z_iload_n (pc := 10) dX11_goes_10 rfl rfl ?_
  refine z_iload_n (pc := 11) dX11_goes_11 rfl rfl ?_
  refine z_iload (pc := 12) dX11_goes_12 rfl ?_
  refine z_imul (pc := 14) dX11_goes_14 ?_
  refine z_iadd (pc := 15) dX11_goes_15 ?_
  refine z_istore (pc := 16) (ls' := [some (.ref 164), some (.int x1), some (.int x2), some (.int x3), some (.int x4), some (.int (x1 + (x2 * x4)))]) dX11_goes_16 (by decide) rfl ?_
  exact F
theorem g_X11_goes_18 {x1 : Int32} {x2 : Int32} {x3 : Int32} {x4 : Int32} {x5 : Int32} {h : zHp} {Q : zHp → Prop}  (G : zG h) (F : vp_in x3 246 ∧ ((x1 + (x2 * (rI h 165 ((Int32.toNatClampNeg x3)))) ≤ x5 → (Q h)) ∧ (¬ (x1 + (x2 * (rI h 165 ((Int32.toNatClampNeg x3)))) ≤ x5) → (vp_in (x5 + x2) 246 ∧ (vp_in x5 246 ∧ (zlV M_X11_goes 18 [some (.ref 164), some (.int x1), some (.int x2), some (.int x3), some (.int x4), some (.int (x5 + 1))] [] (wI h 165 ((Int32.toNatClampNeg x5)) (rI h 165 ((Int32.toNatClampNeg (x5 + x2))))) Q)))))) : zlV M_X11_goes 18 [some (.ref 164), some (.int x1), some (.int x2), some (.int x3), some (.int x4), some (.int x5)] [] h Q := by
  refine z_iload (pc := 18) dX11_goes_18 rfl ?_
  refine z_iload_n (pc := 20) dX11_goes_20 rfl rfl ?_
  refine z_iload_n (pc := 21) dX11_goes_21 rfl rfl ?_
  refine z_aload_n (pc := 22) dX11_goes_22 rfl rfl ?_
  refine q_getR (pc := 23) (i := 165) dX11_goes_23 lk_RX11_7 (lyc rfl) (G 164 0 165 rfl) ?_
  refine z_iload_n (pc := 26) dX11_goes_26 rfl rfl ?_
  obtain ⟨k1, F⟩ := F
  refine q_iald (pc := 27) (j := (Int32.toNatClampNeg x3)) (v := rI h 165 ((Int32.toNatClampNeg x3))) dX11_goes_27 (lyc rfl) (zvn (lnc rfl) k1) rfl rfl ?_
  refine z_imul (pc := 28) dX11_goes_28 ?_
  refine z_iadd (pc := 29) dX11_goes_29 ?_
  refine z_icmp_ge (pc := 30) (tgt := 55) dX11_goes_30 (by decide) (fun k4 => ?_) (fun k4 => ?_)
  · replace F := F.1 k4
    exact q_retV (pc := 55) dX11_goes_55 rfl F
  · replace F := F.2 k4
    refine z_aload_n (pc := 33) dX11_goes_33 rfl rfl ?_
    refine q_getR (pc := 34) (i := 165) dX11_goes_34 lk_RX11_7 (lyc rfl) (G 164 0 165 rfl) ?_
    refine z_iload (pc := 37) dX11_goes_37 rfl ?_
    refine z_aload_n (pc := 39) dX11_goes_39 rfl rfl ?_
    refine q_getR (pc := 40) (i := 165) dX11_goes_40 lk_RX11_7 (lyc rfl) (G 164 0 165 rfl) ?_
    refine z_iload (pc := 43) dX11_goes_43 rfl ?_
    refine z_iload_n (pc := 45) dX11_goes_45 rfl rfl ?_
    refine z_iadd (pc := 46) dX11_goes_46 ?_
    obtain ⟨k2, F⟩ := F
    refine q_iald (pc := 47) (j := (Int32.toNatClampNeg (x5 + x2))) (v := rI h 165 ((Int32.toNatClampNeg (x5 + x2)))) dX11_goes_47 (lyc rfl) (zvn (lnc rfl) k2) rfl rfl ?_
    obtain ⟨k3, F⟩ := F
    refine q_iast (pc := 48) (j := (Int32.toNatClampNeg x5)) dX11_goes_48 (lyc rfl) (zvn (lnc rfl) k3) rfl ?_
    refine z_iinc (pc := 49) (v := x5 + 1) (ls' := [some (.ref 164), some (.int x1), some (.int x2), some (.int x3), some (.int x4), some (.int (x5 + 1))]) dX11_goes_49 (by decide) rfl rfl rfl ?_
    refine z_goto (pc := 52) (tgt := 18) dX11_goes_52 (by decide) ?_
    exact F
theorem s_X11_goes {b w m k n : Nat} {N : zN} {h : zHp} (G : zG h) (hN : h.1 165 = N) (hm : N m = nI n) (hk : k < n) (hn : n ≤ 10) (hw : w ≤ 7) (hw0 : 0 < w) (hb : b + w * n ≤ m) (hm2 : m < 246) : zcV M_X11_goes [.ref 164, .int (nI b), .int (nI w), .int (nI m), .int (nI k)] h (fun h' => h' = wA h 165 (Go b w m k N)) := by
  obtain ⟨n, rfl⟩ : ∃ q, n = q + 1 := ⟨n - 1, by omega⟩
  have e1 : w * (n + 1) = w * n + w := Nat.mul_succ w n
  have e2 : w * k ≤ w * n := Nat.mul_le_mul_left w (by omega)
  have hc : (N m).toNatClampNeg - 1 = n := by rw [hm, nI_clamp (by omega)]; omega
  have hm1 : N m - 1 = nI n := by rw [hm, nI_pred]
  have loop : ∀ (d j : Nat), j + d = b + w * n → b + w * k ≤ j → zlV M_X11_goes 18 [some (.ref 164), some (.int (nI b)), some (.int (nI w)), some (.int (nI m)), some (.int (nI k)), some (.int (nI j))] [] (wA h 165 (GoP b w m k j N)) (fun h' => h' = wA h 165 (Go b w m k N)) := by
    intro d
    induction d with
    | zero =>
      intro j hj _
      have : j = b + w * n := by omega
      subst this
      refine g_X11_goes_18 (zG_of rfl G) ?_
      rw [nI_clamp (n := m) (by omega), rI_As]
      have v : GoP b w m k (b + w * n) N m = nI n := by unfold GoP; rw [if_pos rfl, hm1]
      rw [v, pk_mul, nI_add]
      refine ⟨vp_in_nI (by omega) (by omega), fun _ => ?_, fun q => absurd (Int32.le_refl _) q⟩
      have : GoP b w m k (b + w * n) N = Go b w m k N := by
        funext i
        unfold GoP Go
        rw [hc]
      rw [this]
    | succ d ih =>
      intro j hj hk2
      refine g_X11_goes_18 (zG_of rfl G) ?_
      rw [nI_clamp (n := m) (by omega), rI_As]
      have v : GoP b w m k j N m = nI n := by unfold GoP; rw [if_pos rfl, hm1]
      rw [v, pk_mul, nI_add, nI_add, nI_clamp (n := j) (by omega), nI_clamp (n := j + w) (by omega), nI_1, rI_As, wA_wI]
      refine ⟨vp_in_nI (by omega) (by omega), fun q => absurd q (nI_ge (by omega) (by omega)), fun _ => ⟨vp_in_nI (by omega) (by omega), vp_in_nI (by omega) (by omega), ?_⟩⟩
      have : upd (GoP b w m k j N) j (GoP b w m k j N (j + w)) = GoP b w m k (j + 1) N := by
        funext i
        unfold upd GoP
        by_cases z : i = j
        · subst z
          rw [if_pos rfl, if_neg (by omega), if_neg (by omega), if_neg (by omega), if_pos (by omega)]
        · rw [if_neg z]
          by_cases z2 : i = m
          · rw [if_pos z2, if_pos z2]
          · rw [if_neg z2, if_neg z2]
            by_cases z3 : b + w * k ≤ i ∧ i < j
            · rw [if_pos z3, if_pos (by omega)]
            · rw [if_neg z3, if_neg (by omega)]
      rw [this]
      exact ih (j + 1) (by omega) (by omega)
  refine g_X11_goes G ?_
  rw [nI_clamp (n := m) (by omega), show rI h 165 m = N m by show h.1 165 m = _; rw [hN], wI_wA, hN, pk_mul, nI_add]
  refine ⟨vp_in_nI (by omega) (by omega), ?_⟩
  have : upd N m (N m - 1) = GoP b w m k (b + w * k) N := by
    funext i
    unfold upd GoP
    by_cases z2 : i = m
    · rw [if_pos z2, if_pos z2]
    · rw [if_neg z2, if_neg z2, if_neg (by omega)]
  rw [this]
  exact loop (w * n - w * k) _ (by omega) (Nat.le_refl _)
/-- the order behind it: the one that goes is put last -/
def pm (k n i : Nat) : Nat := if k ≤ i ∧ i < n - 1 then i + 1 else if i = n - 1 then k else i
theorem pm_lt {k n M i : Nat} (hk : k < n) (hn : n ≤ M) (hi : i < M) : pm k n i < M := by
  unfold pm
  split
  · omega
  · split <;> omega
theorem pm_inj {k n i j : Nat} (hk : k < n) (h : pm k n i = pm k n j) : i = j := by
  unfold pm at h
  split at h <;> split at h <;> (try split at h) <;> (try split at h) <;> omega
/-- the cells behind it -/
def drh (h : zHp) (B f c k n : Nat) : zHp := (fun a i => if a = B ∧ i = f then nI (n - 1) else h.1 a i, fun a i => if a = c then h.2 c (pm k n i) else h.2 a i)
def shh (h : zHp) (c k j : Nat) : zHp := (h.1, fun a i => if a = c ∧ k ≤ i ∧ i < j then h.2 c (i + 1) else h.2 a i)
theorem drh_I {h : zHp} {B f c k n a i : Nat} (ha : a ≠ B ∨ i ≠ f) : rI (drh h B f c k n) a i = rI h a i := by
  show (if a = B ∧ i = f then nI (n - 1) else h.1 a i) = _
  rw [if_neg (fun z => by rcases ha with q | q; exact q z.1; exact q z.2)]
  rfl
theorem drh_If {h : zHp} {B f c k n : Nat} : rI (drh h B f c k n) B f = nI (n - 1) := by
  show (if B = B ∧ f = f then nI (n - 1) else h.1 B f) = _
  rw [if_pos ⟨rfl, rfl⟩]
theorem drh_1 {h : zHp} {B f c k n a : Nat} (ha : a ≠ B) : (drh h B f c k n).1 a = h.1 a := by
  funext i
  exact drh_I (Or.inl ha)
theorem drh_2 {h : zHp} {B f c k n a : Nat} (ha : a ≠ c) : (drh h B f c k n).2 a = h.2 a := by
  funext i
  show (if a = c then _ else h.2 a i) = _
  rw [if_neg ha]
theorem drh_G {h : zHp} {B f c k n i : Nat} : rG (drh h B f c k n) c i = rG h c (pm k n i) := by
  show (if c = c then h.2 c (pm k n i) else h.2 c i).getD 0 = _
  rw [if_pos rfl]
  rfl
theorem drh_Go {h : zHp} {B f c k n a i : Nat} (ha : a ≠ c) : rG (drh h B f c k n) a i = rG h a i := by
  show ((drh h B f c k n).2 a i).getD 0 = _
  rw [drh_2 ha]
  rfl
theorem drh_PR {h : zHp} {B f c k n a M : Nat} (hk : k < n) (hn : n ≤ M) (p : PR h c a M) : PR (drh h B f c k n) c a M := by
  refine ⟨fun i hi => ?_, fun i j hi hj e => ?_⟩
  · rw [drh_G]
    have q := p.1 _ (pm_lt hk hn hi)
    refine ⟨?_, q.2⟩
    show (if c = c then h.2 c (pm k n i) else h.2 c i) = _
    rw [if_pos rfl]
    exact q.1
  · rw [drh_G, drh_G] at e
    exact pm_inj hk (p.2 _ _ (pm_lt hk hn hi) (pm_lt hk hn hj) e)
theorem drh_PRo {h : zHp} {B f c k n d a M : Nat} (hd : d ≠ c) (p : PR h d a M) : PR (drh h B f c k n) d a M := by
  refine ⟨fun i hi => ?_, fun i j hi hj e => ?_⟩
  · rw [drh_Go hd]
    refine ⟨?_, (p.1 i hi).2⟩
    show (drh h B f c k n).2 d i = _
    rw [drh_2 hd]
    exact (p.1 i hi).1
  · rw [drh_Go hd, drh_Go hd] at e
    exact p.2 _ _ hi hj e
theorem drh_end {h : zHp} {B f c k n : Nat} (hB : k < n) (hp : h.2 c k = some (rG h c k)) : wR (wI (shh h c k (n - 1)) B f (nI (n - 1))) c (n - 1) (some (rG h c k)) = drh h B f c k n := by
  refine Prod.ext rfl ?_
  funext a i
  show (if a = c ∧ i = n - 1 then some (rG h c k) else if a = c ∧ k ≤ i ∧ i < n - 1 then h.2 c (i + 1) else h.2 a i) = if a = c then h.2 c (pm k n i) else h.2 a i
  unfold pm
  by_cases z : a = c
  · subst z
    rw [if_pos rfl]
    by_cases z1 : i = n - 1
    · rw [if_pos ⟨rfl, z1⟩, if_neg (by omega), if_pos z1, hp]
    · rw [if_neg (fun y => z1 y.2)]
      by_cases z2 : k ≤ i ∧ i < n - 1
      · rw [if_pos ⟨rfl, z2⟩, if_pos z2]
      · rw [if_neg (fun y => z2 y.2), if_neg z2, if_neg z1]
  · rw [if_neg (fun y => z y.1), if_neg (fun y => z y.1), if_neg z]
theorem shh_0 {h : zHp} {c k : Nat} : shh h c k k = h := by
  refine Prod.ext rfl ?_
  funext a i
  show (if a = c ∧ k ≤ i ∧ i < k then h.2 c (i + 1) else h.2 a i) = _
  rw [if_neg (by omega)]
theorem shh_G {h : zHp} {c k j : Nat} : rR (shh h c k j) c (j + 1) = rR h c (j + 1) := by
  show (if c = c ∧ k ≤ j + 1 ∧ j + 1 < j then h.2 c (j + 1 + 1) else h.2 c (j + 1)) = _
  rw [if_neg (by omega)]
  rfl
theorem shh_s {h : zHp} {c k j : Nat} (hk : k ≤ j) (hp : h.2 c (j + 1) = some (rG h c (j + 1))) : wR (shh h c k j) c j (some (rG (shh h c k j) c (j + 1))) = shh h c k (j + 1) := by
  have e : rG (shh h c k j) c (j + 1) = rG h c (j + 1) := by unfold rG; rw [shh_G]
  rw [e]
  refine Prod.ext rfl ?_
  funext a i
  show (if a = c ∧ i = j then some (rG h c (j + 1)) else if a = c ∧ k ≤ i ∧ i < j then h.2 c (i + 1) else h.2 a i) = if a = c ∧ k ≤ i ∧ i < j + 1 then h.2 c (i + 1) else h.2 a i
  by_cases z : a = c ∧ i = j
  · rw [if_pos z, if_pos ⟨z.1, by omega⟩, z.2, hp]
  · rw [if_neg z]
    by_cases z2 : a = c ∧ k ≤ i ∧ i < j
    · rw [if_pos z2, if_pos (by omega)]
    · rw [if_neg z2, if_neg (by omega)]
theorem zG_drh {h : zHp} {B f c k n : Nat} (G : zG h) (hz : ∀ i, zst c i = none) : zG (drh h B f c k n) := by
  intro a b i hi
  have : a ≠ c := fun z => by rw [z, hz b] at hi; cases hi
  show (drh h B f c k n).2 a b = _
  rw [drh_2 this]
  exact G a b i hi
theorem zG_shh {h : zHp} {c k j : Nat} (G : zG h) (hz : ∀ i, zst c i = none) : zG (shh h c k j) := by
  intro a b i hi
  have : a ≠ c := fun z => by rw [z, hz b] at hi; cases hi
  show (if a = c ∧ k ≤ b ∧ b < j then h.2 c (b + 1) else h.2 a b) = _
  rw [if_neg (fun z => this z.1)]
  exact G a b i hi
theorem GoE_n {N : zN} {k : Nat} (hC : CN N) (hk : k < cE N) : (Go 80 7 239 k N) 239 = nI (cE N - 1) ∧ cE (Go 80 7 239 k N) = cE N - 1 := by
  have a := hC.2.1
  have e : (Go 80 7 239 k N) 239 = nI (cE N - 1) := by
    unfold Go
    rw [if_pos rfl, a.1]
    obtain ⟨q, hq⟩ : ∃ q, cE N = q + 1 := ⟨cE N - 1, by omega⟩
    rw [hq, nI_pred]
    rfl
  refine ⟨e, ?_⟩
  show ((Go 80 7 239 k N) 239).toNatClampNeg = _
  rw [e, nI_clamp (by omega)]
theorem GoE_o {N : zN} {k i : Nat} (hC : CN N) (hi : i ≠ 239 ∧ (i < 80 ∨ 150 ≤ i)) : (Go 80 7 239 k N) i = N i := by
  have a := hC.2.1
  unfold Go
  rw [if_neg hi.1]
  have : (N 239).toNatClampNeg = cE N := rfl
  rw [this, if_neg (by omega)]
theorem GoE_at {N : zN} {k j q : Nat} (hC : CN N) (hj : j < cE N - 1) (hq : q < 7) : (Go 80 7 239 k N) (80 + 7 * j + q) = N (80 + 7 * (pm k (cE N) j) + q) := by
  have a := hC.2.1
  unfold Go pm
  have : (N 239).toNatClampNeg = cE N := rfl
  rw [this, if_neg (by omega)]
  by_cases z : k ≤ j
  · rw [if_pos (by omega), if_pos ⟨z, hj⟩, show 80 + 7 * j + q + 7 = 80 + 7 * (j + 1) + q by omega]
  · rw [if_neg (by omega), if_neg (fun y => z y.1), if_neg (by omega)]
theorem GoE_lo {N : zN} {k j q : Nat} (hC : CN N) (hj : j < k) (hj2 : j < 10) (hq : q < 7) : (Go 80 7 239 k N) (80 + 7 * j + q) = N (80 + 7 * j + q) := by
  have a := hC.2.1
  unfold Go
  have : (N 239).toNatClampNeg = cE N := rfl
  rw [this, if_neg (by omega), if_neg (by omega)]
theorem GoE_C {N : zN} {k : Nat} (hC : CN N) (hk : k < cE N) : CN (Go 80 7 239 k N) ∧ cT (Go 80 7 239 k N) = cT N ∧ cR (Go 80 7 239 k N) = cR N ∧ cV (Go 80 7 239 k N) = cV N := by
  obtain ⟨e1, e2⟩ := GoE_n hC hk
  have a := hC.2.1
  have t : (Go 80 7 239 k N) 238 = N 238 := GoE_o hC (by decide)
  have u : (Go 80 7 239 k N) 240 = N 240 := GoE_o hC (by decide)
  have v : (Go 80 7 239 k N) 241 = N 241 := GoE_o hC (by decide)
  have t' : cT (Go 80 7 239 k N) = cT N := by unfold cT; rw [t]
  have u' : cR (Go 80 7 239 k N) = cR N := by unfold cR; rw [u]
  have v' : cV (Go 80 7 239 k N) = cV N := by unfold cV; rw [v]
  have q : (Go 80 7 239 k N) 239 = nI (cE (Go 80 7 239 k N)) ∧ cE (Go 80 7 239 k N) ≤ 10 := ⟨by rw [e1, e2], by omega⟩
  have qt : (Go 80 7 239 k N) 238 = nI (cT (Go 80 7 239 k N)) ∧ cT (Go 80 7 239 k N) ≤ 8 := by rw [t, t']; exact hC.1
  have qu : (Go 80 7 239 k N) 240 = nI (cR (Go 80 7 239 k N)) ∧ cR (Go 80 7 239 k N) ≤ 8 := by rw [u, u']; exact hC.2.2.1
  have qv : (Go 80 7 239 k N) 241 = nI (cV (Go 80 7 239 k N)) ∧ cV (Go 80 7 239 k N) ≤ 8 := by rw [v, v']; exact hC.2.2.2
  exact ⟨⟨qt, q, qu, qv⟩, t', u', v'⟩
theorem GoE_Q {N : zN} {k : Nat} (hC : CN N) (hQ : WQ N) (hk : k < cE N) : WQ (Go 80 7 239 k N) := by
  obtain ⟨-, t', u', v'⟩ := GoE_C hC hk
  obtain ⟨-, e2⟩ := GoE_n hC hk
  have a := hC.2.1
  have h8 := hC.1.2
  have he := hC.2.1.2
  have hr := hC.2.2.1.2
  have hv := hC.2.2.2.2
  refine ⟨fun t ht => ?_, fun t ht => ?_, fun t ht => ?_, fun t ht => ?_⟩
  · rw [t'] at ht
    exact QT_eq (hQ.1 t ht) (fun q hq => GoE_o hC (by omega))
  · rw [e2] at ht
    exact QE_eq (hQ.2.1 (pm k (cE N) t) (pm_lt hk (Nat.le_refl _) (by omega))) (fun q hq => GoE_at hC ht hq)
  · rw [u'] at ht
    exact QR_eq (hQ.2.2.1 t ht) (fun q hq => GoE_o hC (by omega))
  · rw [v'] at ht
    exact QV_eq (hQ.2.2.2 t ht) (fun q hq => GoE_o hC (by omega))
theorem g_X8_dropEffect {c0 : Nat} {x1 : Int32} {h : zHp} {Q : zHp → Prop} (hc0 : zW c0) (G : zG h) (F : ((0 ≤ x1 ∧ x1 ≤ (rI h c0 3) - 1) → (vp_in x1 10 ∧ (zRef h (c0 + 2) ((Int32.toNatClampNeg x1)) 2 ∧ (zlV M_X8_dropEffect 18 [some (.ref c0), some (.int x1), some (.ref (rG h (c0 + 2) ((Int32.toNatClampNeg x1)))), some (.int x1)] [] h Q)))) ∧ (¬ (0 ≤ x1 ∧ x1 ≤ (rI h c0 3) - 1) → (Q h))) : zcV M_X8_dropEffect [.ref c0, .int x1] h Q := by
  show zw zNT zNT M_X8_dropEffect 0 [some (.ref c0), some (.int x1), none, none] [] h _
  refine z_aload_n (pc := 0) dX8_dropEffect_0 rfl rfl ?_
  refine z_iload_n (pc := 1) dX8_dropEffect_1 rfl rfl ?_
  refine q_invV (pc := 2) (As := [.int x1]) (st := []) dX8_dropEffect_2 ok_X8_hasEffect ml_RX8_102 iv_X8_hasEffect pa_X8_hasEffect ⟨Nat.le_of_ble_eq_true rfl, Nat.le_of_ble_eq_true rfl⟩ (lyW0 hc0) (q_pI (s_X8_hasEffect G hc0) rfl ?_)
  refine z_if_ne (pc := 5) (tgt := 9) dX8_dropEffect_5 (by decide) (fun k3 => ?_) (fun k3 => ?_)
  · replace F := F.1 (zbn.mp k3)
    refine z_aload_n (pc := 9) dX8_dropEffect_9 rfl rfl ?_
    refine q_getR (pc := 10) (i := c0 + 2) dX8_dropEffect_10 lk_RX8_19 (lyW0 hc0) (grW2 G hc0) ?_
    refine z_iload_n (pc := 13) dX8_dropEffect_13 rfl rfl ?_
    obtain ⟨k1, F⟩ := F
    obtain ⟨k2, F⟩ := F
    refine q_aald (pc := 14) (j := (Int32.toNatClampNeg x1)) (r := rG h (c0 + 2) ((Int32.toNatClampNeg x1))) (t := 1) dX8_dropEffect_14 (lyW2 hc0) (zvn (lnW2 hc0) k1) rfl k2.1 ?_
    refine z_astore_n (pc := 15) (ls' := [some (.ref c0), some (.int x1), some (.ref (rG h (c0 + 2) ((Int32.toNatClampNeg x1)))), none]) dX8_dropEffect_15 rfl (by decide) rfl ?_
    refine z_iload_n (pc := 16) dX8_dropEffect_16 rfl rfl ?_
    refine z_istore_n (pc := 17) (ls' := [some (.ref c0), some (.int x1), some (.ref (rG h (c0 + 2) ((Int32.toNatClampNeg x1)))), some (.int x1)]) dX8_dropEffect_17 rfl (by decide) rfl ?_
    exact F
  · replace F := F.2 (zb0.mp k3)
    exact q_retV (pc := 8) dX8_dropEffect_8 rfl F
theorem g_X8_dropEffect_18 {c0 : Nat} {x1 : Int32} {c2 : Nat} {x3 : Int32} {h : zHp} {Q : zHp → Prop} (hc0 : zW c0) (hc2 : ly c2 = 2) (G : zG h) (F : ((rI h c0 3) - 1 ≤ x3 → (vp_in ((rI h c0 3) - 1) 10 ∧ (Q (wR (wI h c0 3 ((rI h c0 3) - 1)) (c0 + 2) ((Int32.toNatClampNeg ((rI h c0 3) - 1))) (some c2))))) ∧ (¬ ((rI h c0 3) - 1 ≤ x3) → (vp_in (x3 + 1) 10 ∧ (zRef h (c0 + 2) ((Int32.toNatClampNeg (x3 + 1))) 2 ∧ (vp_in x3 10 ∧ (zlV M_X8_dropEffect 18 [some (.ref c0), some (.int x1), some (.ref c2), some (.int (x3 + 1))] [] (wR h (c0 + 2) ((Int32.toNatClampNeg x3)) (some (rG h (c0 + 2) ((Int32.toNatClampNeg (x3 + 1)))))) Q)))))) : zlV M_X8_dropEffect 18 [some (.ref c0), some (.int x1), some (.ref c2), some (.int x3)] [] h Q := by
  refine z_iload_n (pc := 18) dX8_dropEffect_18 rfl rfl ?_
  refine z_aload_n (pc := 19) dX8_dropEffect_19 rfl rfl ?_
  refine q_getI (pc := 20) (v := rI h c0 3) dX8_dropEffect_20 lk_RX8_50 (lyW0 hc0) rfl ?_
  refine z_iconst (pc := 23) (v := 1) dX8_dropEffect_23 (by decide) ?_
  refine z_isub (pc := 24) dX8_dropEffect_24 ?_
  refine z_icmp_ge (pc := 25) (tgt := 48) dX8_dropEffect_25 (by decide) (fun k5 => ?_) (fun k5 => ?_)
  · replace F := F.1 k5
    refine z_aload_n (pc := 48) dX8_dropEffect_48 rfl rfl ?_
    refine z_dup (pc := 49) dX8_dropEffect_49 rfl ?_
    refine q_getI (pc := 50) (v := rI h c0 3) dX8_dropEffect_50 lk_RX8_50 (lyW0 hc0) rfl ?_
    refine z_iconst (pc := 53) (v := 1) dX8_dropEffect_53 (by decide) ?_
    refine z_isub (pc := 54) dX8_dropEffect_54 ?_
    refine q_putI (pc := 55) dX8_dropEffect_55 lk_RX8_50 (lyW0 hc0) ?_
    refine z_aload_n (pc := 58) dX8_dropEffect_58 rfl rfl ?_
    refine q_getR (pc := 59) (i := c0 + 2) dX8_dropEffect_59 lk_RX8_19 (lyW0 hc0) (grW2 G hc0) ?_
    refine z_aload_n (pc := 62) dX8_dropEffect_62 rfl rfl ?_
    refine q_getI (pc := 63) (v := (rI h c0 3) - 1) dX8_dropEffect_63 lk_RX8_50 (lyW0 hc0) rI_s ?_
    refine z_aload_n (pc := 66) dX8_dropEffect_66 rfl rfl ?_
    obtain ⟨k1, F⟩ := F
    refine q_aast (pc := 67) (j := (Int32.toNatClampNeg ((rI h c0 3) - 1))) (t := 1) dX8_dropEffect_67 (lyW2 hc0) (zvn (lnW2 hc0) k1) rfl hc2 ?_
    exact q_retV (pc := 68) dX8_dropEffect_68 rfl F
  · replace F := F.2 k5
    refine z_aload_n (pc := 28) dX8_dropEffect_28 rfl rfl ?_
    refine q_getR (pc := 29) (i := c0 + 2) dX8_dropEffect_29 lk_RX8_19 (lyW0 hc0) (grW2 G hc0) ?_
    refine z_iload_n (pc := 32) dX8_dropEffect_32 rfl rfl ?_
    refine z_aload_n (pc := 33) dX8_dropEffect_33 rfl rfl ?_
    refine q_getR (pc := 34) (i := c0 + 2) dX8_dropEffect_34 lk_RX8_19 (lyW0 hc0) (grW2 G hc0) ?_
    refine z_iload_n (pc := 37) dX8_dropEffect_37 rfl rfl ?_
    refine z_iconst (pc := 38) (v := 1) dX8_dropEffect_38 (by decide) ?_
    refine z_iadd (pc := 39) dX8_dropEffect_39 ?_
    obtain ⟨k2, F⟩ := F
    obtain ⟨k3, F⟩ := F
    refine q_aald (pc := 40) (j := (Int32.toNatClampNeg (x3 + 1))) (r := rG h (c0 + 2) ((Int32.toNatClampNeg (x3 + 1)))) (t := 1) dX8_dropEffect_40 (lyW2 hc0) (zvn (lnW2 hc0) k2) rfl k3.1 ?_
    obtain ⟨k4, F⟩ := F
    refine q_aast (pc := 41) (j := (Int32.toNatClampNeg x3)) (t := 1) dX8_dropEffect_41 (lyW2 hc0) (zvn (lnW2 hc0) k4) rfl k3.2 ?_
    refine z_iinc (pc := 42) (v := x3 + 1) (ls' := [some (.ref c0), some (.int x1), some (.ref c2), some (.int (x3 + 1))]) dX8_dropEffect_42 (by decide) rfl rfl rfl ?_
    refine z_goto (pc := 45) (tgt := 18) dX8_dropEffect_45 (by decide) ?_
    exact F
theorem drh_WE {h : zHp} {B k : Nat} {N : zN} (hB : zW B) (hC : CN N) (hP : PW h B) (hR : RW h B N) (hk : k < cE N) : PW (drh h B 3 (B + 2) k (cE N)) B ∧ RW (drh h B 3 (B + 2) k (cE N)) B (Go 80 7 239 k N) := by
  have ha := hC.2.1
  have h8 := hC.1.2
  have h10 := hC.2.1.2
  have hr8 := hC.2.2.1.2
  have hv8 := hC.2.2.2.2
  obtain ⟨-, t', u', v'⟩ := GoE_C hC hk
  obtain ⟨e1, e2⟩ := GoE_n hC hk
  refine ⟨⟨drh_PR hk ha.2 hP.1, drh_PRo (by omega) hP.2.1, drh_PRo (by omega) hP.2.2⟩, ?_⟩
  obtain ⟨⟨a1, a2, a3, a4, a5, a6, a7, a8⟩, b, d, e, g⟩ := hR
  refine ⟨⟨by rw [drh_I (by omega), GoE_o hC (by decide)]; exact a1, by rw [drh_If, e1], by rw [drh_I (by omega), GoE_o hC (by decide)]; exact a3, by rw [drh_I (by omega), GoE_o hC (by decide)]; exact a4, by rw [drh_I (by omega), GoE_o hC (by decide)]; exact a5, by rw [drh_I (by omega), GoE_o hC (by decide)]; exact a6, by rw [drh_I (by omega), GoE_o hC (by decide)]; exact a7, by rw [drh_I (by omega), GoE_o hC (by decide)]; exact a8⟩, fun t q h1 h2 => ?_, fun t q h1 h2 => ?_, fun t q h1 h2 => ?_, fun t q h1 h2 => ?_⟩
  · rw [t'] at h1
    rw [drh_I (by omega), GoE_o hC (by omega)]
    exact b t q h1 h2
  · rw [e2] at h1
    have lt := pm_lt (i := t) hk (Nat.le_refl _) (by omega)
    have pl := hP.1.1 (pm k (cE N) t) (by omega)
    rw [drh_G, drh_I (by omega), GoE_at hC h1 h2]
    exact d _ q lt h2
  · rw [u'] at h1
    have pl := hP.2.1.1 t (by omega)
    rw [drh_Go (by omega), drh_I (by omega), GoE_o hC (by omega)]
    exact e t q h1 h2
  · rw [v'] at h1
    have pl := hP.2.2.1 t (by omega)
    rw [drh_Go (by omega), drh_I (by omega), GoE_o hC (by omega)]
    exact g t q h1 h2
theorem s_X8_dropEffect {B k : Nat} {N : zN} {h : zHp} (G : zG h) (hB : zW B) (hC : CN N) (hP : PW h B) (hR : RW h B N) (hk : k < cE N) : zcV M_X8_dropEffect [.ref B, .int (nI k)] h (fun h' => h' = drh h B 3 (B + 2) k (cE N)) := by
  have ha := hC.2.1
  have hcn : rI h B 3 = nI (cE N) := by rw [hR.1.2.1, ha.1]
  have hz : ∀ i, zst (B + 2) i = none := fun i => (zstE hB (j := i)).1
  have hpred : nI (cE N) - 1 = nI (cE N - 1) := by
    obtain ⟨q, hq⟩ : ∃ q, cE N = q + 1 := ⟨cE N - 1, by omega⟩
    rw [hq, nI_pred]
    rfl
  have loop : ∀ (d j : Nat), j + d = cE N - 1 → k ≤ j → zlV M_X8_dropEffect 18 [some (.ref B), some (.int (nI k)), some (.ref (rG h (B + 2) k)), some (.int (nI j))] [] (shh h (B + 2) k j) (fun h' => h' = drh h B 3 (B + 2) k (cE N)) := by
    intro d
    induction d with
    | zero =>
      intro j hj _
      have : j = cE N - 1 := by omega
      subst this
      refine g_X8_dropEffect_18 hB (hP.e hB (by omega)).2 (zG_shh G hz) ?_
      rw [show rI (shh h (B + 2) k (cE N - 1)) B 3 = nI (cE N) from hcn, hpred, nI_clamp (by omega)]
      refine ⟨fun _ => ⟨vp_in_nI (by omega) (by omega), ?_⟩, fun q => absurd (Int32.le_refl _) q⟩
      exact drh_end (by omega) (hP.1.1 k (by omega)).1
    | succ d ih =>
      intro j hj hkj
      refine g_X8_dropEffect_18 hB (hP.e hB (by omega)).2 (zG_shh G hz) ?_
      rw [show rI (shh h (B + 2) k j) B 3 = nI (cE N) from hcn, hpred, nI_1, nI_clamp (n := cE N - 1) (by omega), nI_clamp (n := j + 1) (by omega), nI_clamp (n := j) (by omega), shh_s hkj (hP.1.1 (j + 1) (by omega)).1]
      have r := hP.e hB (show j + 1 < 10 by omega)
      have eg : rG (shh h (B + 2) k j) (B + 2) (j + 1) = rG h (B + 2) (j + 1) := by unfold rG; rw [shh_G]
      refine ⟨fun q => absurd q (nI_ge (by omega) (by omega)), fun _ => ⟨vp_in_nI (by omega) (by omega), ⟨by rw [shh_G, eg]; exact r.1, by rw [eg]; exact r.2⟩, vp_in_nI (by omega) (by omega), ih (j + 1) (by omega) (by omega)⟩⟩
  refine g_X8_dropEffect hB G ⟨fun _ => ?_, fun q => absurd (by rw [hcn]; exact zsm2 (by omega) hk) q⟩
  rw [nI_clamp (by omega)]
  have := loop (cE N - 1 - k) k (by omega) (Nat.le_refl _)
  rw [shh_0] at this
  exact ⟨vp_in_nI (by omega) (by omega), hP.e hB (by omega), this⟩
theorem GoR_n {N : zN} {k : Nat} (hC : CN N) (hk : k < cR N) : (Go 150 4 240 k N) 240 = nI (cR N - 1) ∧ cR (Go 150 4 240 k N) = cR N - 1 := by
  have a := hC.2.2.1
  have e : (Go 150 4 240 k N) 240 = nI (cR N - 1) := by
    unfold Go
    rw [if_pos rfl, a.1]
    obtain ⟨q, hq⟩ : ∃ q, cR N = q + 1 := ⟨cR N - 1, by omega⟩
    rw [hq, nI_pred]
    rfl
  refine ⟨e, ?_⟩
  show ((Go 150 4 240 k N) 240).toNatClampNeg = _
  rw [e, nI_clamp (by omega)]
theorem GoR_o {N : zN} {k i : Nat} (hC : CN N) (hi : i ≠ 240 ∧ (i < 150 ∨ 182 ≤ i)) : (Go 150 4 240 k N) i = N i := by
  have a := hC.2.2.1
  unfold Go
  rw [if_neg hi.1]
  have : (N 240).toNatClampNeg = cR N := rfl
  rw [this, if_neg (by omega)]
theorem GoR_at {N : zN} {k j q : Nat} (hC : CN N) (hj : j < cR N - 1) (hq : q < 4) : (Go 150 4 240 k N) (150 + 4 * j + q) = N (150 + 4 * (pm k (cR N) j) + q) := by
  have a := hC.2.2.1
  unfold Go pm
  have : (N 240).toNatClampNeg = cR N := rfl
  rw [this, if_neg (by omega)]
  by_cases z : k ≤ j
  · rw [if_pos (by omega), if_pos ⟨z, hj⟩, show 150 + 4 * j + q + 4 = 150 + 4 * (j + 1) + q by omega]
  · rw [if_neg (by omega), if_neg (fun y => z y.1), if_neg (by omega)]
theorem GoR_lo {N : zN} {k j q : Nat} (hC : CN N) (hj : j < k) (hj2 : j < 8) (hq : q < 4) : (Go 150 4 240 k N) (150 + 4 * j + q) = N (150 + 4 * j + q) := by
  have a := hC.2.2.1
  unfold Go
  have : (N 240).toNatClampNeg = cR N := rfl
  rw [this, if_neg (by omega), if_neg (by omega)]
theorem GoR_C {N : zN} {k : Nat} (hC : CN N) (hk : k < cR N) : CN (Go 150 4 240 k N) ∧ cT (Go 150 4 240 k N) = cT N ∧ cE (Go 150 4 240 k N) = cE N ∧ cV (Go 150 4 240 k N) = cV N := by
  obtain ⟨e1, e2⟩ := GoR_n hC hk
  have a := hC.2.2.1
  have t : (Go 150 4 240 k N) 238 = N 238 := GoR_o hC (by decide)
  have u : (Go 150 4 240 k N) 239 = N 239 := GoR_o hC (by decide)
  have v : (Go 150 4 240 k N) 241 = N 241 := GoR_o hC (by decide)
  have t' : cT (Go 150 4 240 k N) = cT N := by unfold cT; rw [t]
  have u' : cE (Go 150 4 240 k N) = cE N := by unfold cE; rw [u]
  have v' : cV (Go 150 4 240 k N) = cV N := by unfold cV; rw [v]
  have q : (Go 150 4 240 k N) 240 = nI (cR (Go 150 4 240 k N)) ∧ cR (Go 150 4 240 k N) ≤ 8 := ⟨by rw [e1, e2], by omega⟩
  have qt : (Go 150 4 240 k N) 238 = nI (cT (Go 150 4 240 k N)) ∧ cT (Go 150 4 240 k N) ≤ 8 := by rw [t, t']; exact hC.1
  have qu : (Go 150 4 240 k N) 239 = nI (cE (Go 150 4 240 k N)) ∧ cE (Go 150 4 240 k N) ≤ 10 := by rw [u, u']; exact hC.2.1
  have qv : (Go 150 4 240 k N) 241 = nI (cV (Go 150 4 240 k N)) ∧ cV (Go 150 4 240 k N) ≤ 8 := by rw [v, v']; exact hC.2.2.2
  exact ⟨⟨qt, qu, q, qv⟩, t', u', v'⟩
theorem GoR_Q {N : zN} {k : Nat} (hC : CN N) (hQ : WQ N) (hk : k < cR N) : WQ (Go 150 4 240 k N) := by
  obtain ⟨-, t', u', v'⟩ := GoR_C hC hk
  obtain ⟨-, e2⟩ := GoR_n hC hk
  have a := hC.2.2.1
  have h8 := hC.1.2
  have he := hC.2.1.2
  have hr := hC.2.2.1.2
  have hv := hC.2.2.2.2
  refine ⟨fun t ht => ?_, fun t ht => ?_, fun t ht => ?_, fun t ht => ?_⟩
  · rw [t'] at ht
    exact QT_eq (hQ.1 t ht) (fun q hq => GoR_o hC (by omega))
  · rw [u'] at ht
    exact QE_eq (hQ.2.1 t ht) (fun q hq => GoR_o hC (by omega))
  · rw [e2] at ht
    exact QR_eq (hQ.2.2.1 (pm k (cR N) t) (pm_lt hk (Nat.le_refl _) (by omega))) (fun q hq => GoR_at hC ht hq)
  · rw [v'] at ht
    exact QV_eq (hQ.2.2.2 t ht) (fun q hq => GoR_o hC (by omega))
theorem g_X8_dropRule {c0 : Nat} {x1 : Int32} {h : zHp} {Q : zHp → Prop} (hc0 : zW c0) (G : zG h) (F : ((0 ≤ x1 ∧ x1 ≤ (rI h c0 5) - 1) → (vp_in x1 8 ∧ (zRef h (c0 + 3) ((Int32.toNatClampNeg x1)) 5 ∧ (zlV M_X8_dropRule 18 [some (.ref c0), some (.int x1), some (.ref (rG h (c0 + 3) ((Int32.toNatClampNeg x1)))), some (.int x1)] [] h Q)))) ∧ (¬ (0 ≤ x1 ∧ x1 ≤ (rI h c0 5) - 1) → (Q h))) : zcV M_X8_dropRule [.ref c0, .int x1] h Q := by
  show zw zNT zNT M_X8_dropRule 0 [some (.ref c0), some (.int x1), none, none] [] h _
  refine z_aload_n (pc := 0) dX8_dropRule_0 rfl rfl ?_
  refine z_iload_n (pc := 1) dX8_dropRule_1 rfl rfl ?_
  refine q_invV (pc := 2) (As := [.int x1]) (st := []) dX8_dropRule_2 ok_X8_hasRule ml_RX8_105 iv_X8_hasRule pa_X8_hasRule ⟨Nat.le_of_ble_eq_true rfl, Nat.le_of_ble_eq_true rfl⟩ (lyW0 hc0) (q_pI (s_X8_hasRule G hc0) rfl ?_)
  refine z_if_ne (pc := 5) (tgt := 9) dX8_dropRule_5 (by decide) (fun k3 => ?_) (fun k3 => ?_)
  · replace F := F.1 (zbn.mp k3)
    refine z_aload_n (pc := 9) dX8_dropRule_9 rfl rfl ?_
    refine q_getR (pc := 10) (i := c0 + 3) dX8_dropRule_10 lk_RX8_25 (lyW0 hc0) (grW4 G hc0) ?_
    refine z_iload_n (pc := 13) dX8_dropRule_13 rfl rfl ?_
    obtain ⟨k1, F⟩ := F
    obtain ⟨k2, F⟩ := F
    refine q_aald (pc := 14) (j := (Int32.toNatClampNeg x1)) (r := rG h (c0 + 3) ((Int32.toNatClampNeg x1))) (t := 2) dX8_dropRule_14 (lyW3 hc0) (zvn (lnW3 hc0) k1) rfl k2.1 ?_
    refine z_astore_n (pc := 15) (ls' := [some (.ref c0), some (.int x1), some (.ref (rG h (c0 + 3) ((Int32.toNatClampNeg x1)))), none]) dX8_dropRule_15 rfl (by decide) rfl ?_
    refine z_iload_n (pc := 16) dX8_dropRule_16 rfl rfl ?_
    refine z_istore_n (pc := 17) (ls' := [some (.ref c0), some (.int x1), some (.ref (rG h (c0 + 3) ((Int32.toNatClampNeg x1)))), some (.int x1)]) dX8_dropRule_17 rfl (by decide) rfl ?_
    exact F
  · replace F := F.2 (zb0.mp k3)
    exact q_retV (pc := 8) dX8_dropRule_8 rfl F
theorem g_X8_dropRule_18 {c0 : Nat} {x1 : Int32} {c2 : Nat} {x3 : Int32} {h : zHp} {Q : zHp → Prop} (hc0 : zW c0) (hc2 : ly c2 = 5) (G : zG h) (F : ((rI h c0 5) - 1 ≤ x3 → (vp_in ((rI h c0 5) - 1) 8 ∧ (Q (wR (wI h c0 5 ((rI h c0 5) - 1)) (c0 + 3) ((Int32.toNatClampNeg ((rI h c0 5) - 1))) (some c2))))) ∧ (¬ ((rI h c0 5) - 1 ≤ x3) → (vp_in (x3 + 1) 8 ∧ (zRef h (c0 + 3) ((Int32.toNatClampNeg (x3 + 1))) 5 ∧ (vp_in x3 8 ∧ (zlV M_X8_dropRule 18 [some (.ref c0), some (.int x1), some (.ref c2), some (.int (x3 + 1))] [] (wR h (c0 + 3) ((Int32.toNatClampNeg x3)) (some (rG h (c0 + 3) ((Int32.toNatClampNeg (x3 + 1)))))) Q)))))) : zlV M_X8_dropRule 18 [some (.ref c0), some (.int x1), some (.ref c2), some (.int x3)] [] h Q := by
  refine z_iload_n (pc := 18) dX8_dropRule_18 rfl rfl ?_
  refine z_aload_n (pc := 19) dX8_dropRule_19 rfl rfl ?_
  refine q_getI (pc := 20) (v := rI h c0 5) dX8_dropRule_20 lk_RX8_53 (lyW0 hc0) rfl ?_
  refine z_iconst (pc := 23) (v := 1) dX8_dropRule_23 (by decide) ?_
  refine z_isub (pc := 24) dX8_dropRule_24 ?_
  refine z_icmp_ge (pc := 25) (tgt := 48) dX8_dropRule_25 (by decide) (fun k5 => ?_) (fun k5 => ?_)
  · replace F := F.1 k5
    refine z_aload_n (pc := 48) dX8_dropRule_48 rfl rfl ?_
    refine z_dup (pc := 49) dX8_dropRule_49 rfl ?_
    refine q_getI (pc := 50) (v := rI h c0 5) dX8_dropRule_50 lk_RX8_53 (lyW0 hc0) rfl ?_
    refine z_iconst (pc := 53) (v := 1) dX8_dropRule_53 (by decide) ?_
    refine z_isub (pc := 54) dX8_dropRule_54 ?_
    refine q_putI (pc := 55) dX8_dropRule_55 lk_RX8_53 (lyW0 hc0) ?_
    refine z_aload_n (pc := 58) dX8_dropRule_58 rfl rfl ?_
    refine q_getR (pc := 59) (i := c0 + 3) dX8_dropRule_59 lk_RX8_25 (lyW0 hc0) (grW4 G hc0) ?_
    refine z_aload_n (pc := 62) dX8_dropRule_62 rfl rfl ?_
    refine q_getI (pc := 63) (v := (rI h c0 5) - 1) dX8_dropRule_63 lk_RX8_53 (lyW0 hc0) rI_s ?_
    refine z_aload_n (pc := 66) dX8_dropRule_66 rfl rfl ?_
    obtain ⟨k1, F⟩ := F
    refine q_aast (pc := 67) (j := (Int32.toNatClampNeg ((rI h c0 5) - 1))) (t := 2) dX8_dropRule_67 (lyW3 hc0) (zvn (lnW3 hc0) k1) rfl hc2 ?_
    exact q_retV (pc := 68) dX8_dropRule_68 rfl F
  · replace F := F.2 k5
    refine z_aload_n (pc := 28) dX8_dropRule_28 rfl rfl ?_
    refine q_getR (pc := 29) (i := c0 + 3) dX8_dropRule_29 lk_RX8_25 (lyW0 hc0) (grW4 G hc0) ?_
    refine z_iload_n (pc := 32) dX8_dropRule_32 rfl rfl ?_
    refine z_aload_n (pc := 33) dX8_dropRule_33 rfl rfl ?_
    refine q_getR (pc := 34) (i := c0 + 3) dX8_dropRule_34 lk_RX8_25 (lyW0 hc0) (grW4 G hc0) ?_
    refine z_iload_n (pc := 37) dX8_dropRule_37 rfl rfl ?_
    refine z_iconst (pc := 38) (v := 1) dX8_dropRule_38 (by decide) ?_
    refine z_iadd (pc := 39) dX8_dropRule_39 ?_
    obtain ⟨k2, F⟩ := F
    obtain ⟨k3, F⟩ := F
    refine q_aald (pc := 40) (j := (Int32.toNatClampNeg (x3 + 1))) (r := rG h (c0 + 3) ((Int32.toNatClampNeg (x3 + 1)))) (t := 2) dX8_dropRule_40 (lyW3 hc0) (zvn (lnW3 hc0) k2) rfl k3.1 ?_
    obtain ⟨k4, F⟩ := F
    refine q_aast (pc := 41) (j := (Int32.toNatClampNeg x3)) (t := 2) dX8_dropRule_41 (lyW3 hc0) (zvn (lnW3 hc0) k4) rfl k3.2 ?_
    refine z_iinc (pc := 42) (v := x3 + 1) (ls' := [some (.ref c0), some (.int x1), some (.ref c2), some (.int (x3 + 1))]) dX8_dropRule_42 (by decide) rfl rfl rfl ?_
    refine z_goto (pc := 45) (tgt := 18) dX8_dropRule_45 (by decide) ?_
    exact F
theorem drh_WR {h : zHp} {B k : Nat} {N : zN} (hB : zW B) (hC : CN N) (hP : PW h B) (hR : RW h B N) (hk : k < cR N) : PW (drh h B 5 (B + 3) k (cR N)) B ∧ RW (drh h B 5 (B + 3) k (cR N)) B (Go 150 4 240 k N) := by
  have ha := hC.2.2.1
  have h8 := hC.1.2
  have h10 := hC.2.1.2
  have hr8 := hC.2.2.1.2
  have hv8 := hC.2.2.2.2
  obtain ⟨-, t', u', v'⟩ := GoR_C hC hk
  obtain ⟨e1, e2⟩ := GoR_n hC hk
  refine ⟨⟨drh_PRo (by omega) hP.1, drh_PR hk ha.2 hP.2.1, drh_PRo (by omega) hP.2.2⟩, ?_⟩
  obtain ⟨⟨a1, a2, a3, a4, a5, a6, a7, a8⟩, b, d, e, g⟩ := hR
  refine ⟨⟨by rw [drh_I (by omega), GoR_o hC (by decide)]; exact a1, by rw [drh_I (by omega), GoR_o hC (by decide)]; exact a2, by rw [drh_If, e1], by rw [drh_I (by omega), GoR_o hC (by decide)]; exact a4, by rw [drh_I (by omega), GoR_o hC (by decide)]; exact a5, by rw [drh_I (by omega), GoR_o hC (by decide)]; exact a6, by rw [drh_I (by omega), GoR_o hC (by decide)]; exact a7, by rw [drh_I (by omega), GoR_o hC (by decide)]; exact a8⟩, fun t q h1 h2 => ?_, fun t q h1 h2 => ?_, fun t q h1 h2 => ?_, fun t q h1 h2 => ?_⟩
  · rw [t'] at h1
    rw [drh_I (by omega), GoR_o hC (by omega)]
    exact b t q h1 h2
  · rw [u'] at h1
    have pl := hP.1.1 t (by omega)
    rw [drh_Go (by omega), drh_I (by omega), GoR_o hC (by omega)]
    exact d t q h1 h2
  · rw [e2] at h1
    have lt := pm_lt (i := t) hk (Nat.le_refl _) (by omega)
    have pl := hP.2.1.1 (pm k (cR N) t) (by omega)
    rw [drh_G, drh_I (by omega), GoR_at hC h1 h2]
    exact e _ q lt h2
  · rw [v'] at h1
    have pl := hP.2.2.1 t (by omega)
    rw [drh_Go (by omega), drh_I (by omega), GoR_o hC (by omega)]
    exact g t q h1 h2
theorem s_X8_dropRule {B k : Nat} {N : zN} {h : zHp} (G : zG h) (hB : zW B) (hC : CN N) (hP : PW h B) (hR : RW h B N) (hk : k < cR N) : zcV M_X8_dropRule [.ref B, .int (nI k)] h (fun h' => h' = drh h B 5 (B + 3) k (cR N)) := by
  have ha := hC.2.2.1
  have hcn : rI h B 5 = nI (cR N) := by rw [hR.1.2.2.1, ha.1]
  have hz : ∀ i, zst (B + 3) i = none := fun i => (zstE hB (j := i)).2.1
  have hpred : nI (cR N) - 1 = nI (cR N - 1) := by
    obtain ⟨q, hq⟩ : ∃ q, cR N = q + 1 := ⟨cR N - 1, by omega⟩
    rw [hq, nI_pred]
    rfl
  have loop : ∀ (d j : Nat), j + d = cR N - 1 → k ≤ j → zlV M_X8_dropRule 18 [some (.ref B), some (.int (nI k)), some (.ref (rG h (B + 3) k)), some (.int (nI j))] [] (shh h (B + 3) k j) (fun h' => h' = drh h B 5 (B + 3) k (cR N)) := by
    intro d
    induction d with
    | zero =>
      intro j hj _
      have : j = cR N - 1 := by omega
      subst this
      refine g_X8_dropRule_18 hB (hP.r hB (by omega)).2 (zG_shh G hz) ?_
      rw [show rI (shh h (B + 3) k (cR N - 1)) B 5 = nI (cR N) from hcn, hpred, nI_clamp (by omega)]
      refine ⟨fun _ => ⟨vp_in_nI (by omega) (by omega), ?_⟩, fun q => absurd (Int32.le_refl _) q⟩
      exact drh_end (by omega) (hP.2.1.1 k (by omega)).1
    | succ d ih =>
      intro j hj hkj
      refine g_X8_dropRule_18 hB (hP.r hB (by omega)).2 (zG_shh G hz) ?_
      rw [show rI (shh h (B + 3) k j) B 5 = nI (cR N) from hcn, hpred, nI_1, nI_clamp (n := cR N - 1) (by omega), nI_clamp (n := j + 1) (by omega), nI_clamp (n := j) (by omega), shh_s hkj (hP.2.1.1 (j + 1) (by omega)).1]
      have r := hP.r hB (show j + 1 < 8 by omega)
      have eg : rG (shh h (B + 3) k j) (B + 3) (j + 1) = rG h (B + 3) (j + 1) := by unfold rG; rw [shh_G]
      refine ⟨fun q => absurd q (nI_ge (by omega) (by omega)), fun _ => ⟨vp_in_nI (by omega) (by omega), ⟨by rw [shh_G, eg]; exact r.1, by rw [eg]; exact r.2⟩, vp_in_nI (by omega) (by omega), ih (j + 1) (by omega) (by omega)⟩⟩
  refine g_X8_dropRule hB G ⟨fun _ => ?_, fun q => absurd (by rw [hcn]; exact zsm2 (by omega) hk) q⟩
  rw [nI_clamp (by omega)]
  have := loop (cR N - 1 - k) k (by omega) (Nat.le_refl _)
  rw [shh_0] at this
  exact ⟨vp_in_nI (by omega) (by omega), hP.r hB (by omega), this⟩
theorem GoV_n {N : zN} {k : Nat} (hC : CN N) (hk : k < cV N) : (Go 182 7 241 k N) 241 = nI (cV N - 1) ∧ cV (Go 182 7 241 k N) = cV N - 1 := by
  have a := hC.2.2.2
  have e : (Go 182 7 241 k N) 241 = nI (cV N - 1) := by
    unfold Go
    rw [if_pos rfl, a.1]
    obtain ⟨q, hq⟩ : ∃ q, cV N = q + 1 := ⟨cV N - 1, by omega⟩
    rw [hq, nI_pred]
    rfl
  refine ⟨e, ?_⟩
  show ((Go 182 7 241 k N) 241).toNatClampNeg = _
  rw [e, nI_clamp (by omega)]
theorem GoV_o {N : zN} {k i : Nat} (hC : CN N) (hi : i ≠ 241 ∧ (i < 182 ∨ 238 ≤ i)) : (Go 182 7 241 k N) i = N i := by
  have a := hC.2.2.2
  unfold Go
  rw [if_neg hi.1]
  have : (N 241).toNatClampNeg = cV N := rfl
  rw [this, if_neg (by omega)]
theorem GoV_at {N : zN} {k j q : Nat} (hC : CN N) (hj : j < cV N - 1) (hq : q < 7) : (Go 182 7 241 k N) (182 + 7 * j + q) = N (182 + 7 * (pm k (cV N) j) + q) := by
  have a := hC.2.2.2
  unfold Go pm
  have : (N 241).toNatClampNeg = cV N := rfl
  rw [this, if_neg (by omega)]
  by_cases z : k ≤ j
  · rw [if_pos (by omega), if_pos ⟨z, hj⟩, show 182 + 7 * j + q + 7 = 182 + 7 * (j + 1) + q by omega]
  · rw [if_neg (by omega), if_neg (fun y => z y.1), if_neg (by omega)]
theorem GoV_lo {N : zN} {k j q : Nat} (hC : CN N) (hj : j < k) (hj2 : j < 8) (hq : q < 7) : (Go 182 7 241 k N) (182 + 7 * j + q) = N (182 + 7 * j + q) := by
  have a := hC.2.2.2
  unfold Go
  have : (N 241).toNatClampNeg = cV N := rfl
  rw [this, if_neg (by omega), if_neg (by omega)]
theorem GoV_C {N : zN} {k : Nat} (hC : CN N) (hk : k < cV N) : CN (Go 182 7 241 k N) ∧ cT (Go 182 7 241 k N) = cT N ∧ cE (Go 182 7 241 k N) = cE N ∧ cR (Go 182 7 241 k N) = cR N := by
  obtain ⟨e1, e2⟩ := GoV_n hC hk
  have a := hC.2.2.2
  have t : (Go 182 7 241 k N) 238 = N 238 := GoV_o hC (by decide)
  have u : (Go 182 7 241 k N) 239 = N 239 := GoV_o hC (by decide)
  have v : (Go 182 7 241 k N) 240 = N 240 := GoV_o hC (by decide)
  have t' : cT (Go 182 7 241 k N) = cT N := by unfold cT; rw [t]
  have u' : cE (Go 182 7 241 k N) = cE N := by unfold cE; rw [u]
  have v' : cR (Go 182 7 241 k N) = cR N := by unfold cR; rw [v]
  have q : (Go 182 7 241 k N) 241 = nI (cV (Go 182 7 241 k N)) ∧ cV (Go 182 7 241 k N) ≤ 8 := ⟨by rw [e1, e2], by omega⟩
  have qt : (Go 182 7 241 k N) 238 = nI (cT (Go 182 7 241 k N)) ∧ cT (Go 182 7 241 k N) ≤ 8 := by rw [t, t']; exact hC.1
  have qu : (Go 182 7 241 k N) 239 = nI (cE (Go 182 7 241 k N)) ∧ cE (Go 182 7 241 k N) ≤ 10 := by rw [u, u']; exact hC.2.1
  have qv : (Go 182 7 241 k N) 240 = nI (cR (Go 182 7 241 k N)) ∧ cR (Go 182 7 241 k N) ≤ 8 := by rw [v, v']; exact hC.2.2.1
  exact ⟨⟨qt, qu, qv, q⟩, t', u', v'⟩
theorem GoV_Q {N : zN} {k : Nat} (hC : CN N) (hQ : WQ N) (hk : k < cV N) : WQ (Go 182 7 241 k N) := by
  obtain ⟨-, t', u', v'⟩ := GoV_C hC hk
  obtain ⟨-, e2⟩ := GoV_n hC hk
  have a := hC.2.2.2
  have h8 := hC.1.2
  have he := hC.2.1.2
  have hr := hC.2.2.1.2
  have hv := hC.2.2.2.2
  refine ⟨fun t ht => ?_, fun t ht => ?_, fun t ht => ?_, fun t ht => ?_⟩
  · rw [t'] at ht
    exact QT_eq (hQ.1 t ht) (fun q hq => GoV_o hC (by omega))
  · rw [u'] at ht
    exact QE_eq (hQ.2.1 t ht) (fun q hq => GoV_o hC (by omega))
  · rw [v'] at ht
    exact QR_eq (hQ.2.2.1 t ht) (fun q hq => GoV_o hC (by omega))
  · rw [e2] at ht
    exact QV_eq (hQ.2.2.2 (pm k (cV N) t) (pm_lt hk (Nat.le_refl _) (by omega))) (fun q hq => GoV_at hC ht hq)
theorem g_X8_dropWatcher {c0 : Nat} {x1 : Int32} {h : zHp} {Q : zHp → Prop} (hc0 : zW c0) (G : zG h) (F : ((0 ≤ x1 ∧ x1 ≤ (rI h c0 7) - 1) → (vp_in x1 8 ∧ (zRef h (c0 + 4) ((Int32.toNatClampNeg x1)) 8 ∧ (zlV M_X8_dropWatcher 18 [some (.ref c0), some (.int x1), some (.ref (rG h (c0 + 4) ((Int32.toNatClampNeg x1)))), some (.int x1)] [] h Q)))) ∧ (¬ (0 ≤ x1 ∧ x1 ≤ (rI h c0 7) - 1) → (Q h))) : zcV M_X8_dropWatcher [.ref c0, .int x1] h Q := by
  show zw zNT zNT M_X8_dropWatcher 0 [some (.ref c0), some (.int x1), none, none] [] h _
  refine z_aload_n (pc := 0) dX8_dropWatcher_0 rfl rfl ?_
  refine z_iload_n (pc := 1) dX8_dropWatcher_1 rfl rfl ?_
  refine q_invV (pc := 2) (As := [.int x1]) (st := []) dX8_dropWatcher_2 ok_X8_hasWatcher ml_RX8_108 iv_X8_hasWatcher pa_X8_hasWatcher ⟨Nat.le_of_ble_eq_true rfl, Nat.le_of_ble_eq_true rfl⟩ (lyW0 hc0) (q_pI (s_X8_hasWatcher G hc0) rfl ?_)
  refine z_if_ne (pc := 5) (tgt := 9) dX8_dropWatcher_5 (by decide) (fun k3 => ?_) (fun k3 => ?_)
  · replace F := F.1 (zbn.mp k3)
    refine z_aload_n (pc := 9) dX8_dropWatcher_9 rfl rfl ?_
    refine q_getR (pc := 10) (i := c0 + 4) dX8_dropWatcher_10 lk_RX8_31 (lyW0 hc0) (grW6 G hc0) ?_
    refine z_iload_n (pc := 13) dX8_dropWatcher_13 rfl rfl ?_
    obtain ⟨k1, F⟩ := F
    obtain ⟨k2, F⟩ := F
    refine q_aald (pc := 14) (j := (Int32.toNatClampNeg x1)) (r := rG h (c0 + 4) ((Int32.toNatClampNeg x1))) (t := 3) dX8_dropWatcher_14 (lyW4 hc0) (zvn (lnW4 hc0) k1) rfl k2.1 ?_
    refine z_astore_n (pc := 15) (ls' := [some (.ref c0), some (.int x1), some (.ref (rG h (c0 + 4) ((Int32.toNatClampNeg x1)))), none]) dX8_dropWatcher_15 rfl (by decide) rfl ?_
    refine z_iload_n (pc := 16) dX8_dropWatcher_16 rfl rfl ?_
    refine z_istore_n (pc := 17) (ls' := [some (.ref c0), some (.int x1), some (.ref (rG h (c0 + 4) ((Int32.toNatClampNeg x1)))), some (.int x1)]) dX8_dropWatcher_17 rfl (by decide) rfl ?_
    exact F
  · replace F := F.2 (zb0.mp k3)
    exact q_retV (pc := 8) dX8_dropWatcher_8 rfl F
theorem g_X8_dropWatcher_18 {c0 : Nat} {x1 : Int32} {c2 : Nat} {x3 : Int32} {h : zHp} {Q : zHp → Prop} (hc0 : zW c0) (hc2 : ly c2 = 8) (G : zG h) (F : ((rI h c0 7) - 1 ≤ x3 → (vp_in ((rI h c0 7) - 1) 8 ∧ (Q (wR (wI h c0 7 ((rI h c0 7) - 1)) (c0 + 4) ((Int32.toNatClampNeg ((rI h c0 7) - 1))) (some c2))))) ∧ (¬ ((rI h c0 7) - 1 ≤ x3) → (vp_in (x3 + 1) 8 ∧ (zRef h (c0 + 4) ((Int32.toNatClampNeg (x3 + 1))) 8 ∧ (vp_in x3 8 ∧ (zlV M_X8_dropWatcher 18 [some (.ref c0), some (.int x1), some (.ref c2), some (.int (x3 + 1))] [] (wR h (c0 + 4) ((Int32.toNatClampNeg x3)) (some (rG h (c0 + 4) ((Int32.toNatClampNeg (x3 + 1)))))) Q)))))) : zlV M_X8_dropWatcher 18 [some (.ref c0), some (.int x1), some (.ref c2), some (.int x3)] [] h Q := by
  refine z_iload_n (pc := 18) dX8_dropWatcher_18 rfl rfl ?_
  refine z_aload_n (pc := 19) dX8_dropWatcher_19 rfl rfl ?_
  refine q_getI (pc := 20) (v := rI h c0 7) dX8_dropWatcher_20 lk_RX8_56 (lyW0 hc0) rfl ?_
  refine z_iconst (pc := 23) (v := 1) dX8_dropWatcher_23 (by decide) ?_
  refine z_isub (pc := 24) dX8_dropWatcher_24 ?_
  refine z_icmp_ge (pc := 25) (tgt := 48) dX8_dropWatcher_25 (by decide) (fun k5 => ?_) (fun k5 => ?_)
  · replace F := F.1 k5
    refine z_aload_n (pc := 48) dX8_dropWatcher_48 rfl rfl ?_
    refine z_dup (pc := 49) dX8_dropWatcher_49 rfl ?_
    refine q_getI (pc := 50) (v := rI h c0 7) dX8_dropWatcher_50 lk_RX8_56 (lyW0 hc0) rfl ?_
    refine z_iconst (pc := 53) (v := 1) dX8_dropWatcher_53 (by decide) ?_
    refine z_isub (pc := 54) dX8_dropWatcher_54 ?_
    refine q_putI (pc := 55) dX8_dropWatcher_55 lk_RX8_56 (lyW0 hc0) ?_
    refine z_aload_n (pc := 58) dX8_dropWatcher_58 rfl rfl ?_
    refine q_getR (pc := 59) (i := c0 + 4) dX8_dropWatcher_59 lk_RX8_31 (lyW0 hc0) (grW6 G hc0) ?_
    refine z_aload_n (pc := 62) dX8_dropWatcher_62 rfl rfl ?_
    refine q_getI (pc := 63) (v := (rI h c0 7) - 1) dX8_dropWatcher_63 lk_RX8_56 (lyW0 hc0) rI_s ?_
    refine z_aload_n (pc := 66) dX8_dropWatcher_66 rfl rfl ?_
    obtain ⟨k1, F⟩ := F
    refine q_aast (pc := 67) (j := (Int32.toNatClampNeg ((rI h c0 7) - 1))) (t := 3) dX8_dropWatcher_67 (lyW4 hc0) (zvn (lnW4 hc0) k1) rfl hc2 ?_
    exact q_retV (pc := 68) dX8_dropWatcher_68 rfl F
  · replace F := F.2 k5
    refine z_aload_n (pc := 28) dX8_dropWatcher_28 rfl rfl ?_
    refine q_getR (pc := 29) (i := c0 + 4) dX8_dropWatcher_29 lk_RX8_31 (lyW0 hc0) (grW6 G hc0) ?_
    refine z_iload_n (pc := 32) dX8_dropWatcher_32 rfl rfl ?_
    refine z_aload_n (pc := 33) dX8_dropWatcher_33 rfl rfl ?_
    refine q_getR (pc := 34) (i := c0 + 4) dX8_dropWatcher_34 lk_RX8_31 (lyW0 hc0) (grW6 G hc0) ?_
    refine z_iload_n (pc := 37) dX8_dropWatcher_37 rfl rfl ?_
    refine z_iconst (pc := 38) (v := 1) dX8_dropWatcher_38 (by decide) ?_
    refine z_iadd (pc := 39) dX8_dropWatcher_39 ?_
    obtain ⟨k2, F⟩ := F
    obtain ⟨k3, F⟩ := F
    refine q_aald (pc := 40) (j := (Int32.toNatClampNeg (x3 + 1))) (r := rG h (c0 + 4) ((Int32.toNatClampNeg (x3 + 1)))) (t := 3) dX8_dropWatcher_40 (lyW4 hc0) (zvn (lnW4 hc0) k2) rfl k3.1 ?_
    obtain ⟨k4, F⟩ := F
    refine q_aast (pc := 41) (j := (Int32.toNatClampNeg x3)) (t := 3) dX8_dropWatcher_41 (lyW4 hc0) (zvn (lnW4 hc0) k4) rfl k3.2 ?_
    refine z_iinc (pc := 42) (v := x3 + 1) (ls' := [some (.ref c0), some (.int x1), some (.ref c2), some (.int (x3 + 1))]) dX8_dropWatcher_42 (by decide) rfl rfl rfl ?_
    refine z_goto (pc := 45) (tgt := 18) dX8_dropWatcher_45 (by decide) ?_
    exact F
theorem drh_WV {h : zHp} {B k : Nat} {N : zN} (hB : zW B) (hC : CN N) (hP : PW h B) (hR : RW h B N) (hk : k < cV N) : PW (drh h B 7 (B + 4) k (cV N)) B ∧ RW (drh h B 7 (B + 4) k (cV N)) B (Go 182 7 241 k N) := by
  have ha := hC.2.2.2
  have h8 := hC.1.2
  have h10 := hC.2.1.2
  have hr8 := hC.2.2.1.2
  have hv8 := hC.2.2.2.2
  obtain ⟨-, t', u', v'⟩ := GoV_C hC hk
  obtain ⟨e1, e2⟩ := GoV_n hC hk
  refine ⟨⟨drh_PRo (by omega) hP.1, drh_PRo (by omega) hP.2.1, drh_PR hk ha.2 hP.2.2⟩, ?_⟩
  obtain ⟨⟨a1, a2, a3, a4, a5, a6, a7, a8⟩, b, d, e, g⟩ := hR
  refine ⟨⟨by rw [drh_I (by omega), GoV_o hC (by decide)]; exact a1, by rw [drh_I (by omega), GoV_o hC (by decide)]; exact a2, by rw [drh_I (by omega), GoV_o hC (by decide)]; exact a3, by rw [drh_If, e1], by rw [drh_I (by omega), GoV_o hC (by decide)]; exact a5, by rw [drh_I (by omega), GoV_o hC (by decide)]; exact a6, by rw [drh_I (by omega), GoV_o hC (by decide)]; exact a7, by rw [drh_I (by omega), GoV_o hC (by decide)]; exact a8⟩, fun t q h1 h2 => ?_, fun t q h1 h2 => ?_, fun t q h1 h2 => ?_, fun t q h1 h2 => ?_⟩
  · rw [t'] at h1
    rw [drh_I (by omega), GoV_o hC (by omega)]
    exact b t q h1 h2
  · rw [u'] at h1
    have pl := hP.1.1 t (by omega)
    rw [drh_Go (by omega), drh_I (by omega), GoV_o hC (by omega)]
    exact d t q h1 h2
  · rw [v'] at h1
    have pl := hP.2.1.1 t (by omega)
    rw [drh_Go (by omega), drh_I (by omega), GoV_o hC (by omega)]
    exact e t q h1 h2
  · rw [e2] at h1
    have lt := pm_lt (i := t) hk (Nat.le_refl _) (by omega)
    have pl := hP.2.2.1 (pm k (cV N) t) (by omega)
    rw [drh_G, drh_I (by omega), GoV_at hC h1 h2]
    exact g _ q lt h2
theorem s_X8_dropWatcher {B k : Nat} {N : zN} {h : zHp} (G : zG h) (hB : zW B) (hC : CN N) (hP : PW h B) (hR : RW h B N) (hk : k < cV N) : zcV M_X8_dropWatcher [.ref B, .int (nI k)] h (fun h' => h' = drh h B 7 (B + 4) k (cV N)) := by
  have ha := hC.2.2.2
  have hcn : rI h B 7 = nI (cV N) := by rw [hR.1.2.2.2.1, ha.1]
  have hz : ∀ i, zst (B + 4) i = none := fun i => (zstE hB (j := i)).2.2
  have hpred : nI (cV N) - 1 = nI (cV N - 1) := by
    obtain ⟨q, hq⟩ : ∃ q, cV N = q + 1 := ⟨cV N - 1, by omega⟩
    rw [hq, nI_pred]
    rfl
  have loop : ∀ (d j : Nat), j + d = cV N - 1 → k ≤ j → zlV M_X8_dropWatcher 18 [some (.ref B), some (.int (nI k)), some (.ref (rG h (B + 4) k)), some (.int (nI j))] [] (shh h (B + 4) k j) (fun h' => h' = drh h B 7 (B + 4) k (cV N)) := by
    intro d
    induction d with
    | zero =>
      intro j hj _
      have : j = cV N - 1 := by omega
      subst this
      refine g_X8_dropWatcher_18 hB (hP.v hB (by omega)).2 (zG_shh G hz) ?_
      rw [show rI (shh h (B + 4) k (cV N - 1)) B 7 = nI (cV N) from hcn, hpred, nI_clamp (by omega)]
      refine ⟨fun _ => ⟨vp_in_nI (by omega) (by omega), ?_⟩, fun q => absurd (Int32.le_refl _) q⟩
      exact drh_end (by omega) (hP.2.2.1 k (by omega)).1
    | succ d ih =>
      intro j hj hkj
      refine g_X8_dropWatcher_18 hB (hP.v hB (by omega)).2 (zG_shh G hz) ?_
      rw [show rI (shh h (B + 4) k j) B 7 = nI (cV N) from hcn, hpred, nI_1, nI_clamp (n := cV N - 1) (by omega), nI_clamp (n := j + 1) (by omega), nI_clamp (n := j) (by omega), shh_s hkj (hP.2.2.1 (j + 1) (by omega)).1]
      have r := hP.v hB (show j + 1 < 8 by omega)
      have eg : rG (shh h (B + 4) k j) (B + 4) (j + 1) = rG h (B + 4) (j + 1) := by unfold rG; rw [shh_G]
      refine ⟨fun q => absurd q (nI_ge (by omega) (by omega)), fun _ => ⟨vp_in_nI (by omega) (by omega), ⟨by rw [shh_G, eg]; exact r.1, by rw [eg]; exact r.2⟩, vp_in_nI (by omega) (by omega), ih (j + 1) (by omega) (by omega)⟩⟩
  refine g_X8_dropWatcher hB G ⟨fun _ => ?_, fun q => absurd (by rw [hcn]; exact zsm2 (by omega) hk) q⟩
  rw [nI_clamp (by omega)]
  have := loop (cV N - 1 - k) k (by omega) (Nat.le_refl _)
  rw [shh_0] at this
  exact ⟨vp_in_nI (by omega) (by omega), hP.v hB (by omega), this⟩

