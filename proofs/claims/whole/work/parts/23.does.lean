/-! effects that are done, that depend on others: the reference -/
def SE (N L : zN) (e t : Nat) : Prop := Sc N L (N (80 + 7 * e + 2)) (N (80 + 7 * e + 3)) t
def wA (h : zHp) (c : Nat) (f : zN) : zHp := (fun a => if a = c then f else h.1 a, h.2)
theorem wA_s {h : zHp} {c : Nat} {f : zN} : (wA h c f).1 c = f := by simp [wA]
theorem wA_n {h : zHp} {c d : Nat} {f : zN} (hd : d ≠ c) : (wA h c f).1 d = h.1 d := by simp [wA, hd]
theorem rI_As {h : zHp} {c k : Nat} {f : zN} : rI (wA h c f) c k = f k := by simp [rI, wA]
theorem rI_An {h : zHp} {c d k : Nat} {f : zN} (hd : d ≠ c) : rI (wA h c f) d k = rI h d k := by simp [rI, wA, hd]
theorem wA_id {h : zHp} {c : Nat} : wA h c (h.1 c) = h := by
  refine Prod.ext ?_ rfl
  funext a
  by_cases q : a = c <;> simp [wA, q]
theorem wA_wA {h : zHp} {c : Nat} {f g : zN} : wA (wA h c f) c g = wA h c g := by
  refine Prod.ext ?_ rfl
  funext a
  by_cases q : a = c <;> simp [wA, q]
theorem wI_wA {h : zHp} {c k : Nat} {v : Int32} : wI h c k v = wA h c (upd (h.1 c) k v) := by
  refine Prod.ext ?_ rfl
  funext a b
  by_cases q : a = c
  · subst q; simp [wA, wI, upd]
  · simp [wA, wI, q]
theorem wA_wI {h : zHp} {c k : Nat} {f : zN} {v : Int32} : wI (wA h c f) c k v = wA h c (upd f k v) := by rw [wI_wA, wA_s, wA_wA]
def foU (s v f g : Int32) : Int32 := if s = 0 ∨ s = 1 ∨ s = 2 then f else if s = 3 then v else if s = 4 then f + v else g
def guU (s u f g : Int32) : Int32 := if s = 0 ∨ s = 1 ∨ s = 2 then g else if s = 3 then u else if s = 4 then g + u else f
/-- what an effect of sort s makes of a thing's four numbers -/
def doK (s v u a b f g : Int32) (k : Nat) : Int32 := if k = 0 then tyU s v a else if k = 1 then mkU s v b else if k = 2 then foU s v f g else guU s u f g
/-- the row of what things are, when effect e is done -/
noncomputable def Do (N L : zN) (e : Nat) : zN := fun i => @ite _ (i / 4 < cT N ∧ SE N L e (i / 4)) (Classical.propDecidable _) (doK (N (80 + 7 * e + 1)) (N (80 + 7 * e + 4)) (N (80 + 7 * e + 5)) (L (4 * (i / 4))) (L (4 * (i / 4) + 1)) (L (4 * (i / 4) + 2)) (L (4 * (i / 4) + 3)) (i % 4)) (L i)
theorem Do_in {N L : zN} {e t k : Nat} (ht : t < cT N) (hs : SE N L e t) (hk : k < 4) : Do N L e (4 * t + k) = doK (N (80 + 7 * e + 1)) (N (80 + 7 * e + 4)) (N (80 + 7 * e + 5)) (L (4 * t)) (L (4 * t + 1)) (L (4 * t + 2)) (L (4 * t + 3)) k := by
  unfold Do
  rw [show (4 * t + k) / 4 = t by omega, show (4 * t + k) % 4 = k by omega, if_pos ⟨ht, hs⟩]
theorem Do_out {N L : zN} {e t k : Nat} (hs : ¬ (t < cT N ∧ SE N L e t)) (hk : k < 4) : Do N L e (4 * t + k) = L (4 * t + k) := by
  unfold Do
  rw [show (4 * t + k) / 4 = t by omega, if_neg hs]
/-- the row, with the first j things done -/
noncomputable def DoP (N L : zN) (e j : Nat) : zN := fun i => if i < 4 * j then Do N L e i else L i
theorem DoP_0 {N L : zN} {e : Nat} : DoP N L e 0 = L := by funext i; unfold DoP; rw [if_neg (by omega)]
theorem DoP_n {N L : zN} {e : Nat} : DoP N L e (cT N) = Do N L e := by
  funext i
  unfold DoP
  by_cases h : i < 4 * cT N
  · rw [if_pos h]
  · rw [if_neg h]
    unfold Do
    rw [if_neg (fun q => h (by omega))]
theorem DoP_s0 {N L : zN} {e j : Nat} (hs : ¬ SE N L e j) : DoP N L e (j + 1) = DoP N L e j := by
  funext i
  unfold DoP
  by_cases h : i < 4 * j
  · rw [if_pos h, if_pos (by omega)]
  · rw [if_neg h]
    by_cases h2 : i < 4 * (j + 1)
    · rw [if_pos h2, show i = 4 * j + (i - 4 * j) by omega, Do_out (fun q => hs q.2) (by omega)]
    · rw [if_neg h2]
theorem DoP_at {N L : zN} {e j k : Nat} : DoP N L e j (4 * j + k) = L (4 * j + k) := by unfold DoP; rw [if_neg (by omega)]
theorem DoP_s1 {N L : zN} {e j : Nat} {R : zN} (hj : j < cT N) (hs : SE N L e j) (h4 : ∀ k, k < 4 → R (4 * j + k) = doK (N (80 + 7 * e + 1)) (N (80 + 7 * e + 4)) (N (80 + 7 * e + 5)) (L (4 * j)) (L (4 * j + 1)) (L (4 * j + 2)) (L (4 * j + 3)) k) (ho : ∀ i, i < 4 * j ∨ 4 * j + 4 ≤ i → R i = DoP N L e j i) : R = DoP N L e (j + 1) := by
  funext i
  by_cases h : i < 4 * j ∨ 4 * j + 4 ≤ i
  · rw [ho i h]
    unfold DoP
    by_cases h2 : i < 4 * j
    · rw [if_pos h2, if_pos (by omega)]
    · rw [if_neg h2, if_neg (by omega)]
  · rw [show i = 4 * j + (i - 4 * j) by omega, h4 _ (by omega)]
    unfold DoP
    rw [if_pos (by omega), Do_in hj hs (by omega)]
theorem ixE' {e : Nat} (he : e < 10) : (vp_in ((80 + (7 * nI e)) + 0) 246 ∧ ((80 + (7 * nI e)) + 0).toNatClampNeg = 80 + 7 * e) ∧ (vp_in ((80 + (7 * nI e)) + 1) 246 ∧ ((80 + (7 * nI e)) + 1).toNatClampNeg = 80 + 7 * e + 1) ∧ (vp_in ((80 + (7 * nI e)) + 2) 246 ∧ ((80 + (7 * nI e)) + 2).toNatClampNeg = 80 + 7 * e + 2) ∧ (vp_in ((80 + (7 * nI e)) + 3) 246 ∧ ((80 + (7 * nI e)) + 3).toNatClampNeg = 80 + 7 * e + 3) ∧ (vp_in ((80 + (7 * nI e)) + 4) 246 ∧ ((80 + (7 * nI e)) + 4).toNatClampNeg = 80 + 7 * e + 4) ∧ (vp_in ((80 + (7 * nI e)) + 5) 246 ∧ ((80 + (7 * nI e)) + 5).toNatClampNeg = 80 + 7 * e + 5) ∧ (vp_in ((80 + (7 * nI e)) + 6) 246 ∧ ((80 + (7 * nI e)) + 6).toNatClampNeg = 80 + 7 * e + 6) :=
  ⟨ixE (k := 0) he (by omega), ixE (k := 1) he (by omega), ixE (k := 2) he (by omega), ixE (k := 3) he (by omega), ixE (k := 4) he (by omega), ixE (k := 5) he (by omega), ixE (k := 6) he (by omega)⟩
theorem g_X11_scopeOf {c1 : Nat} {x2 : Int32} {h : zHp} {Q : Int32 → zHp → Prop} (hc1 : zRow c1) (G : zG h) (F : vp_in ((80 + (7 * x2)) + 2) 246 ∧ (vp_in ((80 + (7 * x2)) + 3) 246 ∧ (zCt (rI h 165 238) 8 ∧ (Q (mask (cT (h.1 165)) (Sc (h.1 165) (h.1 c1) (rI h 165 ((Int32.toNatClampNeg (((80 + (7 * x2)) + 2))))) (rI h 165 ((Int32.toNatClampNeg (((80 + (7 * x2)) + 3))))))) h)))) : zcI M_X11_scopeOf [.ref 164, .ref c1, .int x2] h Q := by
  show zw zNT zNT M_X11_scopeOf 0 [some (.ref 164), some (.ref c1), some (.int x2)] [] h _
  refine z_aload_n (pc := 0) dX11_scopeOf_0 rfl rfl ?_
  refine z_aload_n (pc := 1) dX11_scopeOf_1 rfl rfl ?_
  refine z_aload_n (pc := 2) dX11_scopeOf_2 rfl rfl ?_
  refine z_iload_n (pc := 3) dX11_scopeOf_3 rfl rfl ?_
  refine z_iconst (pc := 4) (v := 2) dX11_scopeOf_4 (by decide) ?_
  obtain ⟨k1, F⟩ := F
  refine q_invV (pc := 5) (As := [.int x2, .int 2]) (st := [.ref c1, .ref 164]) dX11_scopeOf_5 ok_X11_effectIs ml_RX11_103 iv_X11_effectIs pa_X11_effectIs ⟨Nat.le_of_ble_eq_true rfl, Nat.le_of_ble_eq_true rfl⟩ (lyc rfl) (q_pI (s_X11_effectIs G k1) rfl ?_)
  refine z_aload_n (pc := 8) dX11_scopeOf_8 rfl rfl ?_
  refine z_iload_n (pc := 9) dX11_scopeOf_9 rfl rfl ?_
  refine z_iconst (pc := 10) (v := 3) dX11_scopeOf_10 (by decide) ?_
  obtain ⟨k2, F⟩ := F
  refine q_invV (pc := 11) (As := [.int x2, .int 3]) (st := [.int (rI h 165 ((Int32.toNatClampNeg (((80 + (7 * x2)) + 2))))), .ref c1, .ref 164]) dX11_scopeOf_11 ok_X11_effectIs ml_RX11_103 iv_X11_effectIs pa_X11_effectIs ⟨Nat.le_of_ble_eq_true rfl, Nat.le_of_ble_eq_true rfl⟩ (lyc rfl) (q_pI (s_X11_effectIs G k2) rfl ?_)
  obtain ⟨k3, F⟩ := F
  refine q_invV (pc := 14) (As := [.ref c1, .int (rI h 165 ((Int32.toNatClampNeg (((80 + (7 * x2)) + 2))))), .int (rI h 165 ((Int32.toNatClampNeg (((80 + (7 * x2)) + 3)))))]) (st := []) dX11_scopeOf_14 ok_X11_inScope ml_RX11_106 iv_X11_inScope pa_X11_inScope ⟨Nat.le_of_ble_eq_true rfl, Nat.le_of_ble_eq_true rfl⟩ (lyc rfl) (q_pI (s_X11_inScope G hc1 k3) rfl ?_)
  exact q_retI (pc := 17) dX11_scopeOf_17 rfl F
theorem g_X11_does {c1 : Nat} {x2 : Int32} {h : zHp} {Q : zHp → Prop} (hc1 : zRow c1) (G : zG h) (F : zcI M_X11_scopeOf [.ref 164, .ref c1, .int x2] h (fun vh1 h1 => zG h1 ∧ (vp_in ((80 + (7 * x2)) + 4) 246 ∧ (vp_in ((80 + (7 * x2)) + 5) 246 ∧ (zlV M_X11_does 26 [some (.ref 164), some (.ref c1), some (.int x2), some (.int vh1), some (.int (rI h1 165 ((Int32.toNatClampNeg (((80 + (7 * x2)) + 4)))))), some (.int (rI h1 165 ((Int32.toNatClampNeg (((80 + (7 * x2)) + 5)))))), some (.int 0), none, none] [] h1 Q))))) : zcV M_X11_does [.ref 164, .ref c1, .int x2] h Q := by
  show zw zNT zNT M_X11_does 0 [some (.ref 164), some (.ref c1), some (.int x2), none, none, none, none, none, none] [] h _
  refine z_aload_n (pc := 0) dX11_does_0 rfl rfl ?_
  refine z_aload_n (pc := 1) dX11_does_1 rfl rfl ?_
  refine z_iload_n (pc := 2) dX11_does_2 rfl rfl ?_
  refine q_invV (pc := 3) (As := [.ref c1, .int x2]) (st := []) dX11_does_3 ok_X11_scopeOf ml_RX11_110 iv_X11_scopeOf pa_X11_scopeOf ⟨Nat.le_of_ble_eq_true rfl, Nat.le_of_ble_eq_true rfl⟩ (lyc rfl) (q_kI F (fun vh1 h1 F => ?_))
  obtain ⟨G1, F⟩ := F
  refine z_istore_n (pc := 6) (ls' := [some (.ref 164), some (.ref c1), some (.int x2), some (.int vh1), none, none, none, none, none]) dX11_does_6 rfl (by decide) rfl ?_
  refine z_aload_n (pc := 7) dX11_does_7 rfl rfl ?_
  refine z_iload_n (pc := 8) dX11_does_8 rfl rfl ?_
  refine z_iconst (pc := 9) (v := 4) dX11_does_9 (by decide) ?_
  obtain ⟨k2, F⟩ := F
  refine q_invV (pc := 10) (As := [.int x2, .int 4]) (st := []) dX11_does_10 ok_X11_effectIs ml_RX11_103 iv_X11_effectIs pa_X11_effectIs ⟨Nat.le_of_ble_eq_true rfl, Nat.le_of_ble_eq_true rfl⟩ (lyc rfl) (q_pI (s_X11_effectIs G1 k2) rfl ?_)
  refine z_istore (pc := 13) (ls' := [some (.ref 164), some (.ref c1), some (.int x2), some (.int vh1), some (.int (rI h1 165 ((Int32.toNatClampNeg (((80 + (7 * x2)) + 4)))))), none, none, none, none]) dX11_does_13 (by decide) rfl ?_
  refine z_aload_n (pc := 15) dX11_does_15 rfl rfl ?_
  refine z_iload_n (pc := 16) dX11_does_16 rfl rfl ?_
  refine z_iconst (pc := 17) (v := 5) dX11_does_17 (by decide) ?_
  obtain ⟨k3, F⟩ := F
  refine q_invV (pc := 18) (As := [.int x2, .int 5]) (st := []) dX11_does_18 ok_X11_effectIs ml_RX11_103 iv_X11_effectIs pa_X11_effectIs ⟨Nat.le_of_ble_eq_true rfl, Nat.le_of_ble_eq_true rfl⟩ (lyc rfl) (q_pI (s_X11_effectIs G1 k3) rfl ?_)
  refine z_istore (pc := 21) (ls' := [some (.ref 164), some (.ref c1), some (.int x2), some (.int vh1), some (.int (rI h1 165 ((Int32.toNatClampNeg (((80 + (7 * x2)) + 4)))))), some (.int (rI h1 165 ((Int32.toNatClampNeg (((80 + (7 * x2)) + 5)))))), none, none, none]) dX11_does_21 (by decide) rfl ?_
  refine z_iconst (pc := 23) (v := 0) dX11_does_23 (by decide) ?_
  refine z_istore (pc := 24) (ls' := [some (.ref 164), some (.ref c1), some (.int x2), some (.int vh1), some (.int (rI h1 165 ((Int32.toNatClampNeg (((80 + (7 * x2)) + 4)))))), some (.int (rI h1 165 ((Int32.toNatClampNeg (((80 + (7 * x2)) + 5)))))), some (.int 0), none, none]) dX11_does_24 (by decide) rfl ?_
  exact F
theorem g_X11_does_26 {c1 : Nat} {x2 : Int32} {x3 : Int32} {x4 : Int32} {x5 : Int32} {x6 : Int32} {h : zHp} {Q : zHp → Prop} (hc1 : zRow c1) (G : zG h) (F : (rI h 165 238 ≤ x6 → (Q h)) ∧ (¬ (rI h 165 238 ≤ x6) → (((bi x3 x6) → (vp_in ((4 * x6) + 2) 32 ∧ (vp_in ((4 * x6) + 3) 32 ∧ (vp_in ((80 + (7 * x2)) + 1) 246 ∧ ((rI h 165 ((Int32.toNatClampNeg (((80 + (7 * x2)) + 1)))) = 0 → (vp_in (4 * x6) 32 ∧ (zlV M_X11_does 26 [some (.ref 164), some (.ref c1), some (.int x2), some (.int x3), some (.int x4), some (.int x5), some (.int (x6 + 1)), none, none] [] (wI h c1 ((Int32.toNatClampNeg (4 * x6))) x4) Q))) ∧ (¬ rI h 165 ((Int32.toNatClampNeg (((80 + (7 * x2)) + 1)))) = 0 → ((rI h 165 ((Int32.toNatClampNeg (((80 + (7 * x2)) + 1)))) = 1 → (vp_in ((4 * x6) + 1) 32 ∧ (zlV M_X11_does 26 [some (.ref 164), some (.ref c1), some (.int x2), some (.int x3), some (.int x4), some (.int x5), some (.int (x6 + 1)), none, none] [] (wI h c1 ((Int32.toNatClampNeg ((4 * x6) + 1))) ((rI h c1 ((Int32.toNatClampNeg ((4 * x6) + 1)))) ||| (1 <<< (x4 &&& 31)))) Q))) ∧ (¬ rI h 165 ((Int32.toNatClampNeg (((80 + (7 * x2)) + 1)))) = 1 → ((rI h 165 ((Int32.toNatClampNeg (((80 + (7 * x2)) + 1)))) = 2 → (vp_in ((4 * x6) + 1) 32 ∧ (zlV M_X11_does 26 [some (.ref 164), some (.ref c1), some (.int x2), some (.int x3), some (.int x4), some (.int x5), some (.int (x6 + 1)), none, none] [] (wI h c1 ((Int32.toNatClampNeg ((4 * x6) + 1))) ((rI h c1 ((Int32.toNatClampNeg ((4 * x6) + 1)))) &&& ((1 <<< (x4 &&& 31)) ^^^ (-1)))) Q))) ∧ (¬ rI h 165 ((Int32.toNatClampNeg (((80 + (7 * x2)) + 1)))) = 2 → ((rI h 165 ((Int32.toNatClampNeg (((80 + (7 * x2)) + 1)))) = 3 → (zlV M_X11_does 26 [some (.ref 164), some (.ref c1), some (.int x2), some (.int x3), some (.int x4), some (.int x5), some (.int (x6 + 1)), none, none] [] (wI (wI h c1 ((Int32.toNatClampNeg ((4 * x6) + 2))) x4) c1 ((Int32.toNatClampNeg ((4 * x6) + 3))) x5) Q)) ∧ (¬ rI h 165 ((Int32.toNatClampNeg (((80 + (7 * x2)) + 1)))) = 3 → ((rI h 165 ((Int32.toNatClampNeg (((80 + (7 * x2)) + 1)))) = 4 → (zlV M_X11_does 26 [some (.ref 164), some (.ref c1), some (.int x2), some (.int x3), some (.int x4), some (.int x5), some (.int (x6 + 1)), none, none] [] (wI (wI h c1 ((Int32.toNatClampNeg ((4 * x6) + 2))) ((rI h c1 ((Int32.toNatClampNeg ((4 * x6) + 2)))) + x4)) c1 ((Int32.toNatClampNeg ((4 * x6) + 3))) ((rI h c1 ((Int32.toNatClampNeg ((4 * x6) + 3)))) + x5)) Q)) ∧ (¬ rI h 165 ((Int32.toNatClampNeg (((80 + (7 * x2)) + 1)))) = 4 → (zlV M_X11_does 26 [some (.ref 164), some (.ref c1), some (.int x2), some (.int x3), some (.int x4), some (.int x5), some (.int (x6 + 1)), none, none] [] (wI (wI h c1 ((Int32.toNatClampNeg ((4 * x6) + 2))) (rI h c1 ((Int32.toNatClampNeg ((4 * x6) + 3))))) c1 ((Int32.toNatClampNeg ((4 * x6) + 3))) (rI h c1 ((Int32.toNatClampNeg ((4 * x6) + 2))))) Q))))))))))))))) ∧ (¬ (bi x3 x6) → (zlV M_X11_does 26 [some (.ref 164), some (.ref c1), some (.int x2), some (.int x3), some (.int x4), some (.int x5), some (.int (x6 + 1)), none, none] [] h Q))))) : zlV M_X11_does 26 [some (.ref 164), some (.ref c1), some (.int x2), some (.int x3), some (.int x4), some (.int x5), some (.int x6), none, none] [] h Q := by
  refine z_iload (pc := 26) dX11_does_26 rfl ?_
  refine z_aload_n (pc := 28) dX11_does_28 rfl rfl ?_
  refine q_getR (pc := 29) (i := 165) dX11_does_29 lk_RX11_7 (lyc rfl) (G 164 0 165 rfl) ?_
  refine z_sipush (pc := 32) (v := 238) dX11_does_32 (by decide) ?_
  refine q_iald (pc := 35) (j := 238) (v := rI h 165 238) dX11_does_35 (lyc rfl) (zvl (lnc rfl) (by decide)) (by decide) rfl ?_
  refine z_icmp_ge (pc := 36) (tgt := 239) dX11_does_36 (by decide) (fun k13 => ?_) (fun k13 => ?_)
  · replace F := F.1 k13
    exact q_retV (pc := 239) dX11_does_239 rfl F
  · replace F := F.2 k13
    refine z_iload_n (pc := 39) dX11_does_39 rfl rfl ?_
    refine z_iload (pc := 40) dX11_does_40 rfl ?_
    refine q_invS (pc := 42) (As := [.int x3, .int x6]) (st := []) dX11_does_42 ok_X11_has ml_RX11_96 st_X11_has pa_X11_has ⟨Nat.le_of_ble_eq_true rfl, Nat.le_of_ble_eq_true rfl⟩ (q_pI (s_X11_has G) rfl ?_)
    refine z_if_ne (pc := 45) (tgt := 51) dX11_does_45 (by decide) (fun k12 => ?_) (fun k12 => ?_)
    · replace F := F.1 (zbn.mp k12)
      refine z_aload_n (pc := 51) dX11_does_51 rfl rfl ?_
      refine z_iconst (pc := 52) (v := 4) dX11_does_52 (by decide) ?_
      refine z_iload (pc := 53) dX11_does_53 rfl ?_
      refine z_imul (pc := 55) dX11_does_55 ?_
      refine z_iconst (pc := 56) (v := 2) dX11_does_56 (by decide) ?_
      refine z_iadd (pc := 57) dX11_does_57 ?_
      obtain ⟨k1, F⟩ := F
      refine q_iald (pc := 58) (j := (Int32.toNatClampNeg ((4 * x6) + 2))) (v := rI h c1 ((Int32.toNatClampNeg ((4 * x6) + 2)))) dX11_does_58 (lyRow0 hc1) (zvn (lnRow0 hc1) k1) rfl rfl ?_
      refine z_istore (pc := 59) (ls' := [some (.ref 164), some (.ref c1), some (.int x2), some (.int x3), some (.int x4), some (.int x5), some (.int x6), some (.int (rI h c1 ((Int32.toNatClampNeg ((4 * x6) + 2))))), none]) dX11_does_59 (by decide) rfl ?_
      refine z_aload_n (pc := 61) dX11_does_61 rfl rfl ?_
      refine z_iconst (pc := 62) (v := 4) dX11_does_62 (by decide) ?_
      refine z_iload (pc := 63) dX11_does_63 rfl ?_
      refine z_imul (pc := 65) dX11_does_65 ?_
      refine z_iconst (pc := 66) (v := 3) dX11_does_66 (by decide) ?_
      refine z_iadd (pc := 67) dX11_does_67 ?_
      obtain ⟨k2, F⟩ := F
      refine q_iald (pc := 68) (j := (Int32.toNatClampNeg ((4 * x6) + 3))) (v := rI h c1 ((Int32.toNatClampNeg ((4 * x6) + 3)))) dX11_does_68 (lyRow0 hc1) (zvn (lnRow0 hc1) k2) rfl rfl ?_
      refine z_istore (pc := 69) (ls' := [some (.ref 164), some (.ref c1), some (.int x2), some (.int x3), some (.int x4), some (.int x5), some (.int x6), some (.int (rI h c1 ((Int32.toNatClampNeg ((4 * x6) + 2))))), some (.int (rI h c1 ((Int32.toNatClampNeg ((4 * x6) + 3)))))]) dX11_does_69 (by decide) rfl ?_
      refine z_aload_n (pc := 71) dX11_does_71 rfl rfl ?_
      refine z_iload_n (pc := 72) dX11_does_72 rfl rfl ?_
      refine z_iconst (pc := 73) (v := 1) dX11_does_73 (by decide) ?_
      obtain ⟨k3, F⟩ := F
      refine q_invV (pc := 74) (As := [.int x2, .int 1]) (st := []) dX11_does_74 ok_X11_effectIs ml_RX11_103 iv_X11_effectIs pa_X11_effectIs ⟨Nat.le_of_ble_eq_true rfl, Nat.le_of_ble_eq_true rfl⟩ (lyc rfl) (q_pI (s_X11_effectIs G k3) rfl ?_)
      by_cases k4 : rI h 165 ((Int32.toNatClampNeg (((80 + (7 * x2)) + 1)))) = 0
      · replace F := F.1 k4
        refine z_tableIn (pc := 77) (x := rI h 165 ((Int32.toNatClampNeg (((80 + (7 * x2)) + 1))))) (tgt := 112) (off := 35) dX11_does_77 (by rw [k4]; decide) (by rw [k4]; decide) (by rw [k4]; decide) (by decide) ?_
        refine z_aload_n (pc := 112) dX11_does_112 rfl rfl ?_
        refine z_iconst (pc := 113) (v := 4) dX11_does_113 (by decide) ?_
        refine z_iload (pc := 114) dX11_does_114 rfl ?_
        refine z_imul (pc := 116) dX11_does_116 ?_
        refine z_iload (pc := 117) dX11_does_117 rfl ?_
        obtain ⟨k5, F⟩ := F
        refine q_iast (pc := 119) (j := (Int32.toNatClampNeg (4 * x6))) dX11_does_119 (lyRow0 hc1) (zvn (lnRow0 hc1) k5) rfl ?_
        refine z_goto (pc := 120) (tgt := 233) dX11_does_120 (by decide) ?_
        refine z_iinc (pc := 233) (v := x6 + 1) (ls' := [some (.ref 164), some (.ref c1), some (.int x2), some (.int x3), some (.int x4), some (.int x5), some (.int (x6 + 1)), some (.int (rI h c1 ((Int32.toNatClampNeg ((4 * x6) + 2))))), some (.int (rI h c1 ((Int32.toNatClampNeg ((4 * x6) + 3)))))]) dX11_does_233 (by decide) rfl rfl rfl ?_
        refine z_goto (pc := 236) (tgt := 26) dX11_does_236 (by decide) ?_
        exact q_sub (ls' := [some (.ref 164), some (.ref c1), some (.int x2), some (.int x3), some (.int x4), some (.int x5), some (.int (x6 + 1)), none, none]) ⟨rfl, rfl, rfl, rfl, rfl, rfl, rfl, trivial⟩ F
      · replace F := F.2 k4
        by_cases k6 : rI h 165 ((Int32.toNatClampNeg (((80 + (7 * x2)) + 1)))) = 1
        · replace F := F.1 k6
          refine z_tableIn (pc := 77) (x := rI h 165 ((Int32.toNatClampNeg (((80 + (7 * x2)) + 1))))) (tgt := 123) (off := 46) dX11_does_77 (by rw [k6]; decide) (by rw [k6]; decide) (by rw [k6]; decide) (by decide) ?_
          refine z_aload_n (pc := 123) dX11_does_123 rfl rfl ?_
          refine z_iconst (pc := 124) (v := 4) dX11_does_124 (by decide) ?_
          refine z_iload (pc := 125) dX11_does_125 rfl ?_
          refine z_imul (pc := 127) dX11_does_127 ?_
          refine z_iconst (pc := 128) (v := 1) dX11_does_128 (by decide) ?_
          refine z_iadd (pc := 129) dX11_does_129 ?_
          refine z_dup2 (pc := 130) dX11_does_130 rfl rfl ?_
          obtain ⟨k7, F⟩ := F
          refine q_iald (pc := 131) (j := (Int32.toNatClampNeg ((4 * x6) + 1))) (v := rI h c1 ((Int32.toNatClampNeg ((4 * x6) + 1)))) dX11_does_131 (lyRow0 hc1) (zvn (lnRow0 hc1) k7) rfl rfl ?_
          refine z_iconst (pc := 132) (v := 1) dX11_does_132 (by decide) ?_
          refine z_iload (pc := 133) dX11_does_133 rfl ?_
          refine z_ishl (pc := 135) dX11_does_135 ?_
          refine z_ior (pc := 136) dX11_does_136 ?_
          refine q_iast (pc := 137) (j := (Int32.toNatClampNeg ((4 * x6) + 1))) dX11_does_137 (lyRow0 hc1) (zvn (lnRow0 hc1) k7) rfl ?_
          refine z_goto (pc := 138) (tgt := 233) dX11_does_138 (by decide) ?_
          refine z_iinc (pc := 233) (v := x6 + 1) (ls' := [some (.ref 164), some (.ref c1), some (.int x2), some (.int x3), some (.int x4), some (.int x5), some (.int (x6 + 1)), some (.int (rI h c1 ((Int32.toNatClampNeg ((4 * x6) + 2))))), some (.int (rI h c1 ((Int32.toNatClampNeg ((4 * x6) + 3)))))]) dX11_does_233 (by decide) rfl rfl rfl ?_
          refine z_goto (pc := 236) (tgt := 26) dX11_does_236 (by decide) ?_
          exact q_sub (ls' := [some (.ref 164), some (.ref c1), some (.int x2), some (.int x3), some (.int x4), some (.int x5), some (.int (x6 + 1)), none, none]) ⟨rfl, rfl, rfl, rfl, rfl, rfl, rfl, trivial⟩ F
        · replace F := F.2 k6
          by_cases k8 : rI h 165 ((Int32.toNatClampNeg (((80 + (7 * x2)) + 1)))) = 2
          · replace F := F.1 k8
            refine z_tableIn (pc := 77) (x := rI h 165 ((Int32.toNatClampNeg (((80 + (7 * x2)) + 1))))) (tgt := 141) (off := 64) dX11_does_77 (by rw [k8]; decide) (by rw [k8]; decide) (by rw [k8]; decide) (by decide) ?_
            refine z_aload_n (pc := 141) dX11_does_141 rfl rfl ?_
            refine z_iconst (pc := 142) (v := 4) dX11_does_142 (by decide) ?_
            refine z_iload (pc := 143) dX11_does_143 rfl ?_
            refine z_imul (pc := 145) dX11_does_145 ?_
            refine z_iconst (pc := 146) (v := 1) dX11_does_146 (by decide) ?_
            refine z_iadd (pc := 147) dX11_does_147 ?_
            refine z_dup2 (pc := 148) dX11_does_148 rfl rfl ?_
            obtain ⟨k9, F⟩ := F
            refine q_iald (pc := 149) (j := (Int32.toNatClampNeg ((4 * x6) + 1))) (v := rI h c1 ((Int32.toNatClampNeg ((4 * x6) + 1)))) dX11_does_149 (lyRow0 hc1) (zvn (lnRow0 hc1) k9) rfl rfl ?_
            refine z_iconst (pc := 150) (v := 1) dX11_does_150 (by decide) ?_
            refine z_iload (pc := 151) dX11_does_151 rfl ?_
            refine z_ishl (pc := 153) dX11_does_153 ?_
            refine z_iconst (pc := 154) (v := -1) dX11_does_154 (by decide) ?_
            refine z_ixor (pc := 155) dX11_does_155 ?_
            refine z_iand (pc := 156) dX11_does_156 ?_
            refine q_iast (pc := 157) (j := (Int32.toNatClampNeg ((4 * x6) + 1))) dX11_does_157 (lyRow0 hc1) (zvn (lnRow0 hc1) k9) rfl ?_
            refine z_goto (pc := 158) (tgt := 233) dX11_does_158 (by decide) ?_
            refine z_iinc (pc := 233) (v := x6 + 1) (ls' := [some (.ref 164), some (.ref c1), some (.int x2), some (.int x3), some (.int x4), some (.int x5), some (.int (x6 + 1)), some (.int (rI h c1 ((Int32.toNatClampNeg ((4 * x6) + 2))))), some (.int (rI h c1 ((Int32.toNatClampNeg ((4 * x6) + 3)))))]) dX11_does_233 (by decide) rfl rfl rfl ?_
            refine z_goto (pc := 236) (tgt := 26) dX11_does_236 (by decide) ?_
            exact q_sub (ls' := [some (.ref 164), some (.ref c1), some (.int x2), some (.int x3), some (.int x4), some (.int x5), some (.int (x6 + 1)), none, none]) ⟨rfl, rfl, rfl, rfl, rfl, rfl, rfl, trivial⟩ F
          · replace F := F.2 k8
            by_cases k10 : rI h 165 ((Int32.toNatClampNeg (((80 + (7 * x2)) + 1)))) = 3
            · replace F := F.1 k10
              refine z_tableIn (pc := 77) (x := rI h 165 ((Int32.toNatClampNeg (((80 + (7 * x2)) + 1))))) (tgt := 161) (off := 84) dX11_does_77 (by rw [k10]; decide) (by rw [k10]; decide) (by rw [k10]; decide) (by decide) ?_
              refine z_aload_n (pc := 161) dX11_does_161 rfl rfl ?_
              refine z_iconst (pc := 162) (v := 4) dX11_does_162 (by decide) ?_
              refine z_iload (pc := 163) dX11_does_163 rfl ?_
              refine z_imul (pc := 165) dX11_does_165 ?_
              refine z_iconst (pc := 166) (v := 2) dX11_does_166 (by decide) ?_
              refine z_iadd (pc := 167) dX11_does_167 ?_
              refine z_iload (pc := 168) dX11_does_168 rfl ?_
              refine q_iast (pc := 170) (j := (Int32.toNatClampNeg ((4 * x6) + 2))) dX11_does_170 (lyRow0 hc1) (zvn (lnRow0 hc1) k1) rfl ?_
              refine z_aload_n (pc := 171) dX11_does_171 rfl rfl ?_
              refine z_iconst (pc := 172) (v := 4) dX11_does_172 (by decide) ?_
              refine z_iload (pc := 173) dX11_does_173 rfl ?_
              refine z_imul (pc := 175) dX11_does_175 ?_
              refine z_iconst (pc := 176) (v := 3) dX11_does_176 (by decide) ?_
              refine z_iadd (pc := 177) dX11_does_177 ?_
              refine z_iload (pc := 178) dX11_does_178 rfl ?_
              refine q_iast (pc := 180) (j := (Int32.toNatClampNeg ((4 * x6) + 3))) dX11_does_180 (lyRow0 hc1) (zvn (lnRow0 hc1) k2) rfl ?_
              refine z_goto (pc := 181) (tgt := 233) dX11_does_181 (by decide) ?_
              refine z_iinc (pc := 233) (v := x6 + 1) (ls' := [some (.ref 164), some (.ref c1), some (.int x2), some (.int x3), some (.int x4), some (.int x5), some (.int (x6 + 1)), some (.int (rI h c1 ((Int32.toNatClampNeg ((4 * x6) + 2))))), some (.int (rI h c1 ((Int32.toNatClampNeg ((4 * x6) + 3)))))]) dX11_does_233 (by decide) rfl rfl rfl ?_
              refine z_goto (pc := 236) (tgt := 26) dX11_does_236 (by decide) ?_
              exact q_sub (ls' := [some (.ref 164), some (.ref c1), some (.int x2), some (.int x3), some (.int x4), some (.int x5), some (.int (x6 + 1)), none, none]) ⟨rfl, rfl, rfl, rfl, rfl, rfl, rfl, trivial⟩ F
            · replace F := F.2 k10
              by_cases k11 : rI h 165 ((Int32.toNatClampNeg (((80 + (7 * x2)) + 1)))) = 4
              · replace F := F.1 k11
                refine z_tableIn (pc := 77) (x := rI h 165 ((Int32.toNatClampNeg (((80 + (7 * x2)) + 1))))) (tgt := 184) (off := 107) dX11_does_77 (by rw [k11]; decide) (by rw [k11]; decide) (by rw [k11]; decide) (by decide) ?_
                refine z_aload_n (pc := 184) dX11_does_184 rfl rfl ?_
                refine z_iconst (pc := 185) (v := 4) dX11_does_185 (by decide) ?_
                refine z_iload (pc := 186) dX11_does_186 rfl ?_
                refine z_imul (pc := 188) dX11_does_188 ?_
                refine z_iconst (pc := 189) (v := 2) dX11_does_189 (by decide) ?_
                refine z_iadd (pc := 190) dX11_does_190 ?_
                refine z_iload (pc := 191) dX11_does_191 rfl ?_
                refine z_iload (pc := 193) dX11_does_193 rfl ?_
                refine z_iadd (pc := 195) dX11_does_195 ?_
                refine q_iast (pc := 196) (j := (Int32.toNatClampNeg ((4 * x6) + 2))) dX11_does_196 (lyRow0 hc1) (zvn (lnRow0 hc1) k1) rfl ?_
                refine z_aload_n (pc := 197) dX11_does_197 rfl rfl ?_
                refine z_iconst (pc := 198) (v := 4) dX11_does_198 (by decide) ?_
                refine z_iload (pc := 199) dX11_does_199 rfl ?_
                refine z_imul (pc := 201) dX11_does_201 ?_
                refine z_iconst (pc := 202) (v := 3) dX11_does_202 (by decide) ?_
                refine z_iadd (pc := 203) dX11_does_203 ?_
                refine z_iload (pc := 204) dX11_does_204 rfl ?_
                refine z_iload (pc := 206) dX11_does_206 rfl ?_
                refine z_iadd (pc := 208) dX11_does_208 ?_
                refine q_iast (pc := 209) (j := (Int32.toNatClampNeg ((4 * x6) + 3))) dX11_does_209 (lyRow0 hc1) (zvn (lnRow0 hc1) k2) rfl ?_
                refine z_goto (pc := 210) (tgt := 233) dX11_does_210 (by decide) ?_
                refine z_iinc (pc := 233) (v := x6 + 1) (ls' := [some (.ref 164), some (.ref c1), some (.int x2), some (.int x3), some (.int x4), some (.int x5), some (.int (x6 + 1)), some (.int (rI h c1 ((Int32.toNatClampNeg ((4 * x6) + 2))))), some (.int (rI h c1 ((Int32.toNatClampNeg ((4 * x6) + 3)))))]) dX11_does_233 (by decide) rfl rfl rfl ?_
                refine z_goto (pc := 236) (tgt := 26) dX11_does_236 (by decide) ?_
                exact q_sub (ls' := [some (.ref 164), some (.ref c1), some (.int x2), some (.int x3), some (.int x4), some (.int x5), some (.int (x6 + 1)), none, none]) ⟨rfl, rfl, rfl, rfl, rfl, rfl, rfl, trivial⟩ F
              · replace F := F.2 k11
                have hz0 := q_sw (0) k4 (by decide)
                have hz1 := q_sw (1) k6 (by decide)
                have hz2 := q_sw (2) k8 (by decide)
                have hz3 := q_sw (3) k10 (by decide)
                have hz4 := q_sw (4) k11 (by decide)
                refine z_tableOut (pc := 77) (tgt := 213) dX11_does_77 (by omega) (by decide) ?_
                refine z_aload_n (pc := 213) dX11_does_213 rfl rfl ?_
                refine z_iconst (pc := 214) (v := 4) dX11_does_214 (by decide) ?_
                refine z_iload (pc := 215) dX11_does_215 rfl ?_
                refine z_imul (pc := 217) dX11_does_217 ?_
                refine z_iconst (pc := 218) (v := 2) dX11_does_218 (by decide) ?_
                refine z_iadd (pc := 219) dX11_does_219 ?_
                refine z_iload (pc := 220) dX11_does_220 rfl ?_
                refine q_iast (pc := 222) (j := (Int32.toNatClampNeg ((4 * x6) + 2))) dX11_does_222 (lyRow0 hc1) (zvn (lnRow0 hc1) k1) rfl ?_
                refine z_aload_n (pc := 223) dX11_does_223 rfl rfl ?_
                refine z_iconst (pc := 224) (v := 4) dX11_does_224 (by decide) ?_
                refine z_iload (pc := 225) dX11_does_225 rfl ?_
                refine z_imul (pc := 227) dX11_does_227 ?_
                refine z_iconst (pc := 228) (v := 3) dX11_does_228 (by decide) ?_
                refine z_iadd (pc := 229) dX11_does_229 ?_
                refine z_iload (pc := 230) dX11_does_230 rfl ?_
                refine q_iast (pc := 232) (j := (Int32.toNatClampNeg ((4 * x6) + 3))) dX11_does_232 (lyRow0 hc1) (zvn (lnRow0 hc1) k2) rfl ?_
                refine z_iinc (pc := 233) (v := x6 + 1) (ls' := [some (.ref 164), some (.ref c1), some (.int x2), some (.int x3), some (.int x4), some (.int x5), some (.int (x6 + 1)), some (.int (rI h c1 ((Int32.toNatClampNeg ((4 * x6) + 2))))), some (.int (rI h c1 ((Int32.toNatClampNeg ((4 * x6) + 3)))))]) dX11_does_233 (by decide) rfl rfl rfl ?_
                refine z_goto (pc := 236) (tgt := 26) dX11_does_236 (by decide) ?_
                exact q_sub (ls' := [some (.ref 164), some (.ref c1), some (.int x2), some (.int x3), some (.int x4), some (.int x5), some (.int (x6 + 1)), none, none]) ⟨rfl, rfl, rfl, rfl, rfl, rfl, rfl, trivial⟩ F
    · replace F := F.2 (zb0.mp k12)
      refine z_goto (pc := 48) (tgt := 233) dX11_does_48 (by decide) ?_
      refine z_iinc (pc := 233) (v := x6 + 1) (ls' := [some (.ref 164), some (.ref c1), some (.int x2), some (.int x3), some (.int x4), some (.int x5), some (.int (x6 + 1)), none, none]) dX11_does_233 (by decide) rfl rfl rfl ?_
      refine z_goto (pc := 236) (tgt := 26) dX11_does_236 (by decide) ?_
      exact F
theorem s_X11_scopeOf {c e : Nat} {h : zHp} (G : zG h) (hc : zRow c) (k : zCt (rI h 165 238) 8) (he : e < 10) : zcI M_X11_scopeOf [.ref 164, .ref c, .int (nI e)] h (fun r h' => r = mask (cT (h.1 165)) (SE (h.1 165) (h.1 c) e) ∧ h' = h) := by
  obtain ⟨-, -, i2, i3, -⟩ := ixE' he
  refine g_X11_scopeOf hc G ⟨i2.1, i3.1, k, ?_⟩
  rw [i2.2, i3.2]
  exact ⟨rfl, rfl⟩
theorem zRow_n {c : Nat} (h : zRow c) : c ≠ 165 ∧ c ≠ 164 ∧ c ≠ 170 := by rcases h with rfl | rfl <;> decide
theorem s_X11_does {c e : Nat} {h : zHp} (G : zG h) (hc : zRow c) (k : zCt (rI h 165 238) 8) (he : e < 10) : zcV M_X11_does [.ref 164, .ref c, .int (nI e)] h (fun h' => h' = wA h c (Do (h.1 165) (h.1 c) e)) := by
  obtain ⟨i0, i1, i2, i3, i4, i5, -⟩ := ixE' he
  refine g_X11_does hc G (zcI_use (s_X11_scopeOf G hc k he) ⟨G, i4.1, i5.1, ?_⟩)
  rw [i4.2, i5.2]
  obtain ⟨n, hn, en⟩ := k
  have ec : cT (h.1 165) = n := by unfold cT; rw [show h.1 165 238 = nI n from en, nI_clamp (by omega)]
  have loop : ∀ (m j : Nat), j + m = n → zlV M_X11_does 26 [some (.ref 164), some (.ref c), some (.int (nI e)), some (.int (mask (cT (h.1 165)) (SE (h.1 165) (h.1 c) e))), some (.int (rI h 165 (80 + 7 * e + 4))), some (.int (rI h 165 (80 + 7 * e + 5))), some (.int (nI j)), none, none] [] (wA h c (DoP (h.1 165) (h.1 c) e j)) (fun h' => h' = wA h c (Do (h.1 165) (h.1 c) e)) := by
    intro m
    induction m with
    | zero =>
      intro j hj
      have hjn : j = cT (h.1 165) := by omega
      refine g_X11_does_26 hc G ⟨fun _ => ?_, fun q => absurd ?_ q⟩
      · rw [hjn, DoP_n]
      · rw [rI_An (Ne.symm (zRow_n hc).1), en, show j = n by omega]
        exact Int32.le_refl _
    | succ m ih =>
      intro j hj
      have hj8 : j < 8 := by omega
      have nx := ih (j + 1) (by omega)
      rw [← nI_1] at nx
      have j0 := ix40 (t := j) hj8
      have j1 := ix4 (t := j) (k := 1) hj8 (by omega)
      have j2 := ix4 (t := j) (k := 2) hj8 (by omega)
      have j3 := ix4 (t := j) (k := 3) hj8 (by omega)
      rw [show nI 1 = (1 : Int32) from rfl] at j1
      rw [show nI 2 = (2 : Int32) from rfl] at j2
      rw [show nI 3 = (3 : Int32) from rfl] at j3
      have bm : bi (mask (cT (h.1 165)) (SE (h.1 165) (h.1 c) e)) (nI j) ↔ SE (h.1 165) (h.1 c) e j := by
        rw [bi_mask (by omega) (by omega)]
        exact ⟨fun q => q.2, fun q => ⟨by omega, q⟩⟩
      refine g_X11_does_26 hc G ⟨fun q => absurd q (by rw [rI_An (Ne.symm (zRow_n hc).1), en]; exact nI_ge (by omega) (by omega)), fun _ => ⟨fun q => ?_, fun q => ?_⟩⟩
      · have hs := bm.mp q
        rw [j0.2, j1.2, j2.2, j3.2, i1.2, rI_An (Ne.symm (zRow_n hc).1)]
        have fin : ∀ R : zN, (∀ k, k < 4 → R (4 * j + k) = doK (h.1 165 (80 + 7 * e + 1)) (h.1 165 (80 + 7 * e + 4)) (h.1 165 (80 + 7 * e + 5)) (h.1 c (4 * j)) (h.1 c (4 * j + 1)) (h.1 c (4 * j + 2)) (h.1 c (4 * j + 3)) k) → (∀ i, i < 4 * j ∨ 4 * j + 4 ≤ i → R i = DoP (h.1 165) (h.1 c) e j i) → zlV M_X11_does 26 [some (.ref 164), some (.ref c), some (.int (nI e)), some (.int (mask (cT (h.1 165)) (SE (h.1 165) (h.1 c) e))), some (.int (rI h 165 (80 + 7 * e + 4))), some (.int (rI h 165 (80 + 7 * e + 5))), some (.int (nI j + 1)), none, none] [] (wA h c R) (fun h' => h' = wA h c (Do (h.1 165) (h.1 c) e)) := by
          intro R a1 a2
          rw [DoP_s1 (by omega) hs a1 a2]
          exact nx
        refine ⟨j2.1, j3.1, i1.1, fun s0 => ⟨j0.1, ?_⟩, fun s0 => ⟨fun s1 => ⟨j1.1, ?_⟩, fun s1 => ⟨fun s2 => ⟨j1.1, ?_⟩, fun s2 => ⟨fun s3 => ?_, fun s3 => ⟨fun s4 => ?_, fun s4 => ?_⟩⟩⟩⟩⟩
        all_goals
          simp only [wA_wI, rI_As]
          refine fin _ (fun k hk => ?_) (fun i hi => ?_)
          · have d0 := DoP_at (N := h.1 165) (L := h.1 c) (e := e) (j := j) (k := 0)
            have d1 := DoP_at (N := h.1 165) (L := h.1 c) (e := e) (j := j) (k := 1)
            have d2 := DoP_at (N := h.1 165) (L := h.1 c) (e := e) (j := j) (k := 2)
            have d3 := DoP_at (N := h.1 165) (L := h.1 c) (e := e) (j := j) (k := 3)
            simp only [Nat.add_zero] at d0
            simp only [rI] at *
            rcases (show k = 0 ∨ k = 1 ∨ k = 2 ∨ k = 3 by omega) with rfl | rfl | rfl | rfl <;> simp [upd, doK, tyU, mkU, foU, guU, d0, d1, d2, d3, *]
          · simp only [upd]
            repeat rw [if_neg (by omega)]
      · rw [DoP_s0 (fun z => q (bm.mpr z))] at nx
        exact nx
  have := loop n 0 (by omega)
  rw [DoP_0, wA_id] at this
  exact this

