/-! the class's worlds: what they stand for -/
/-- world B of the cells stands for the row N (as the reference keeps it), as far as it counts -/
def RW (h : zHp) (B : Nat) (N : zN) : Prop :=
  (rI h B 1 = N 238 ∧ rI h B 3 = N 239 ∧ rI h B 5 = N 240 ∧ rI h B 7 = N 241 ∧ rI h (B + 5) 0 = N 242 ∧ rI h (B + 5) 1 = N 243 ∧ rI h B 9 = N 244 ∧ rI h B 10 = N 245) ∧
  (∀ t k, t < cT N → k < 10 → rI h (B + 6 + t) k = N (10 * t + k)) ∧
  (∀ e k, e < cE N → k < 7 → rI h (rG h (B + 2) e) k = N (80 + 7 * e + k)) ∧
  (∀ r k, r < cR N → k < 4 → rI h (rG h (B + 3) r) k = N (150 + 4 * r + k)) ∧
  (∀ w k, w < cV N → k < 7 → rI h (rG h (B + 4) w) k = N (182 + 7 * w + k))
/-- the counts -/
def CN (N : zN) : Prop := (N 238 = nI (cT N) ∧ cT N ≤ 8) ∧ (N 239 = nI (cE N) ∧ cE N ≤ 10) ∧ (N 240 = nI (cR N) ∧ cR N ≤ 8) ∧ (N 241 = nI (cV N) ∧ cV N ≤ 8)
/-- a row of n references to the cells from a on, each once -/
def PR (h : zHp) (c a n : Nat) : Prop := (∀ i, i < n → rR h c i = some (rG h c i) ∧ a ≤ rG h c i ∧ rG h c i < a + n) ∧ ∀ i j, i < n → j < n → rG h c i = rG h c j → i = j
def PW (h : zHp) (B : Nat) : Prop := PR h (B + 2) (B + 14) 10 ∧ PR h (B + 3) (B + 24) 8 ∧ PR h (B + 4) (B + 32) 8
/-- numbers that stay in their bounds, as far as the class leans on it -/
def WN (N : zN) : Prop := (∀ t, t < cT N → N (10 * t + 5) = 0 ∨ N (10 * t + 5) = 1) ∧ (∀ e, e < cE N → 0 ≤ N (80 + 7 * e + 1) ∧ N (80 + 7 * e + 1) ≤ 5)
theorem CN.t {N : zN} (h : CN N) : zCt (N 238) 8 := ⟨cT N, h.1.2, h.1.1⟩
theorem CN.e {N : zN} (h : CN N) : zCt (N 239) 10 := ⟨cE N, h.2.1.2, h.2.1.1⟩
theorem CN.r {N : zN} (h : CN N) : zCt (N 240) 8 := ⟨cR N, h.2.2.1.2, h.2.2.1.1⟩
theorem CN.v {N : zN} (h : CN N) : zCt (N 241) 8 := ⟨cV N, h.2.2.2.2, h.2.2.2.1⟩
theorem lyX {B c : Nat} (hB : zW B) : (B + 14 ≤ c → c < B + 24 → ly c = 2) ∧ (B + 24 ≤ c → c < B + 32 → ly c = 5) ∧ (B + 32 ≤ c → c < B + 40 → ly c = 8) := by
  have key : ∀ b, (b = 2 ∨ b = 53 ∨ b = 93) → ∀ j, (j < 10 → zLayL.getD (b + 14 + j) 0 = 2) ∧ (j < 8 → zLayL.getD (b + 24 + j) 0 = 5) ∧ (j < 8 → zLayL.getD (b + 32 + j) 0 = 8) := by
    rintro b (rfl | rfl | rfl) j
    · exact ⟨(by decide : ∀ j, j < 10 → zLayL.getD (2 + 14 + j) 0 = 2) j, (by decide : ∀ j, j < 8 → zLayL.getD (2 + 24 + j) 0 = 5) j, (by decide : ∀ j, j < 8 → zLayL.getD (2 + 32 + j) 0 = 8) j⟩
    · exact ⟨(by decide : ∀ j, j < 10 → zLayL.getD (53 + 14 + j) 0 = 2) j, (by decide : ∀ j, j < 8 → zLayL.getD (53 + 24 + j) 0 = 5) j, (by decide : ∀ j, j < 8 → zLayL.getD (53 + 32 + j) 0 = 8) j⟩
    · exact ⟨(by decide : ∀ j, j < 10 → zLayL.getD (93 + 14 + j) 0 = 2) j, (by decide : ∀ j, j < 8 → zLayL.getD (93 + 24 + j) 0 = 5) j, (by decide : ∀ j, j < 8 → zLayL.getD (93 + 32 + j) 0 = 8) j⟩
  refine ⟨fun h1 h2 => ?_, fun h1 h2 => ?_, fun h1 h2 => ?_⟩
  · rw [ly_eq, show c = B + 14 + (c - (B + 14)) by omega]
    exact (key B hB _).1 (by omega)
  · rw [ly_eq, show c = B + 24 + (c - (B + 24)) by omega]
    exact (key B hB _).2.1 (by omega)
  · rw [ly_eq, show c = B + 32 + (c - (B + 32)) by omega]
    exact (key B hB _).2.2 (by omega)
theorem PW.e {h : zHp} {B e : Nat} (hP : PW h B) (hB : zW B) (he : e < 10) : zRef h (B + 2) e 2 := by
  obtain ⟨a, b, c⟩ := hP.1.1 e he
  exact ⟨a, (lyX hB).1 b (by omega)⟩
theorem PW.r {h : zHp} {B e : Nat} (hP : PW h B) (hB : zW B) (he : e < 8) : zRef h (B + 3) e 5 := by
  obtain ⟨a, b, c⟩ := hP.2.1.1 e he
  exact ⟨a, (lyX hB).2.1 b (by omega)⟩
theorem PW.v {h : zHp} {B e : Nat} (hP : PW h B) (hB : zW B) (he : e < 8) : zRef h (B + 4) e 8 := by
  obtain ⟨a, b, c⟩ := hP.2.2.1 e he
  exact ⟨a, (lyX hB).2.2 b (by omega)⟩
theorem rG_of {h h' : zHp} (e : h'.2 = h.2) (c k : Nat) : rG h' c k = rG h c k := by unfold rG rR; rw [e]
theorem PW_of {h h' : zHp} {B : Nat} (e : h'.2 = h.2) (hP : PW h B) : PW h' B := by
  unfold PW PR at *
  simp only [rG_of e, rR, e] at *
  exact hP
/-- what isn't the world's own may change -/
theorem RW_of {h h' : zHp} {B : Nat} {N : zN} (e : h'.2 = h.2) (hf : ∀ a, B ≤ a → a < B + 40 → h'.1 a = h.1 a) (hP : PW h B) (hC : CN N) (hR : RW h B N) : RW h' B N := by
  obtain ⟨⟨a1, a2, a3, a4, a5, a6, a7, a8⟩, b, c, d, f⟩ := hR
  have r : ∀ a k, B ≤ a → a < B + 40 → rI h' a k = rI h a k := fun a k h1 h2 => by show h'.1 a k = h.1 a k; rw [hf a h1 h2]
  refine ⟨⟨?_, ?_, ?_, ?_, ?_, ?_, ?_, ?_⟩, fun t k h1 h2 => ?_, fun t k h1 h2 => ?_, fun t k h1 h2 => ?_, fun t k h1 h2 => ?_⟩
  all_goals first
    | (rw [r _ _ (by omega) (by omega)]; assumption)
    | skip
  · rw [r _ _ (by omega) (by have := hC.1.2; omega)]; exact b t k h1 h2
  · have q := hP.1.1 t (by have := hC.2.1.2; omega)
    rw [rG_of e, r _ _ (by omega) (by omega)]
    exact c t k h1 h2
  · have q := hP.2.1.1 t (by have := hC.2.2.1.2; omega)
    rw [rG_of e, r _ _ (by omega) (by omega)]
    exact d t k h1 h2
  · have q := hP.2.2.1 t (by have := hC.2.2.2.2; omega)
    rw [rG_of e, r _ _ (by omega) (by omega)]
    exact f t k h1 h2
theorem aliveC_Al {h : zHp} {B : Nat} {N : zN} {s : Int32} (hC : CN N) (hR : RW h B N) (hW : WN N) : aliveC h B s ↔ AlI N s := by
  unfold aliveC AlI
  rw [hR.1.1, hC.1.1]
  have h8 := hC.1.2
  constructor
  · rintro ⟨⟨a, b⟩, c⟩
    obtain ⟨j, hj, rfl⟩ := zsm3 (n := cT N) (by omega) (Int32.not_lt.mpr a) (Int32.not_le.mpr b)
    rw [nI_clamp (by omega)] at c ⊢
    rw [hR.2.1 j 5 hj (by omega)] at c
    exact ⟨zsm2 (by omega) hj, (hW.1 j hj).resolve_left c⟩
  · rintro ⟨a, c⟩
    obtain ⟨j, hj, rfl⟩ := zsm (by omega) a
    rw [nI_clamp (by omega)] at c ⊢
    rw [hR.2.1 j 5 hj (by omega), c]
    exact ⟨⟨nI_pos' (by omega), nI_lt hj (by omega)⟩, by decide⟩
/-- the row of what things are, as the class keeps it in four rows -/
def VL (h : zHp) (K : Nat) : zN := fun i => rI h (K + 1 + i % 4) (i / 4)
theorem VL_at {h : zHp} {K t k : Nat} (hk : k < 4) : VL h K (4 * t + k) = rI h (K + 1 + k) t := by
  unfold VL
  rw [show (4 * t + k) % 4 = k by omega, show (4 * t + k) / 4 = t by omega]
theorem VL_0 {h : zHp} {K t : Nat} : VL h K (4 * t) = rI h (K + 1) t := VL_at (k := 0) (by omega)
theorem g_X8_works {c0 : Nat} {c1 : Nat} {h : zHp} {Q : Int32 → zHp → Prop} (hc0 : zW c0) (hc1 : ly c1 = 2) (G : zG h) (F : (rI h c1 0 = -1 → (Q 1 h)) ∧ (¬ (rI h c1 0 = -1) → (zCt (rI h c0 1) 8 ∧ ((¬ (aliveC h c0 (rI h c1 0)) → (Q 0 h)) ∧ ((aliveC h c0 (rI h c1 0)) → (Q 1 h)))))) : zcI M_X8_works [.ref c0, .ref c1] h Q := by
  show zw zNT zNT M_X8_works 0 [some (.ref c0), some (.ref c1)] [] h _
  refine z_aload_n (pc := 0) dX8_works_0 rfl rfl ?_
  refine q_getI (pc := 1) (v := rI h c1 0) dX8_works_1 lk_RX8_83 hc1 rfl ?_
  refine z_iconst (pc := 4) (v := -1) dX8_works_4 (by decide) ?_
  refine z_icmp_eq (pc := 5) (tgt := 19) dX8_works_5 (by decide) (fun k3 => ?_) (fun k3 => ?_)
  · replace F := F.1 k3
    refine z_iconst (pc := 19) (v := 1) dX8_works_19 (by decide) ?_
    refine z_goto (pc := 20) (tgt := 24) dX8_works_20 (by decide) ?_
    exact q_retB (pc := 24) dX8_works_24 rfl (Or.inr rfl) F
  · replace F := F.2 k3
    refine z_aload_n (pc := 8) dX8_works_8 rfl rfl ?_
    refine z_aload_n (pc := 9) dX8_works_9 rfl rfl ?_
    refine q_getI (pc := 10) (v := rI h c1 0) dX8_works_10 lk_RX8_83 hc1 rfl ?_
    obtain ⟨k1, F⟩ := F
    refine q_invV (pc := 13) (As := [.int (rI h c1 0)]) (st := []) dX8_works_13 ok_X8_isAlive ml_RX8_86 iv_X8_isAlive pa_X8_isAlive ⟨Nat.le_of_ble_eq_true rfl, Nat.le_of_ble_eq_true rfl⟩ (lyW0 hc0) (q_pI (s_X8_isAlive G hc0 k1) rfl ?_)
    refine z_if_eq (pc := 16) (tgt := 23) dX8_works_16 (by decide) (fun k2 => ?_) (fun k2 => ?_)
    · replace F := F.1 (zb0.mp k2)
      refine z_iconst (pc := 23) (v := 0) dX8_works_23 (by decide) ?_
      exact q_retB (pc := 24) dX8_works_24 rfl (Or.inl rfl) F
    · replace F := F.2 (zbn.mp k2)
      refine z_iconst (pc := 19) (v := 1) dX8_works_19 (by decide) ?_
      refine z_goto (pc := 20) (tgt := 24) dX8_works_20 (by decide) ?_
      exact q_retB (pc := 24) dX8_works_24 rfl (Or.inr rfl) F
theorem g_X1_layer {c0 : Nat} {h : zHp} {Q : Int32 → zHp → Prop} (hc0 : ly c0 = 2) (G : zG h) (F : (¬ ((0 : Int32) ≤ rI h c0 1 ∧ rI h c0 1 ≤ 5) → (Q 5 h)) ∧ (((0 : Int32) ≤ rI h c0 1 ∧ rI h c0 1 ≤ 5) → (vp_in (rI h c0 1) 6 ∧ (Q (zLO (Int32.toNatClampNeg (rI h c0 1))) h)))) : zcI M_X1_layer [.ref c0] h Q := by
  show zw zNT zNT M_X1_layer 0 [some (.ref c0)] [] h _
  refine z_aload_n (pc := 0) dX1_layer_0 rfl rfl ?_
  refine q_getI (pc := 1) (v := rI h c0 1) dX1_layer_1 lk_RX1_15 hc0 rfl ?_
  refine z_iconst (pc := 4) (v := 0) dX1_layer_4 (by decide) ?_
  refine z_iconst (pc := 5) (v := 5) dX1_layer_5 (by decide) ?_
  refine q_invS (pc := 6) (As := [.int (rI h c0 1), .int 0, .int 5]) (st := []) dX1_layer_6 ok_X10_within ml_RX1_33 st_X10_within pa_X10_within ⟨Nat.le_of_ble_eq_true rfl, Nat.le_of_ble_eq_true rfl⟩ (q_pI (s_X10_within G) rfl ?_)
  refine z_if_eq (pc := 9) (tgt := 23) dX1_layer_9 (by decide) (fun k2 => ?_) (fun k2 => ?_)
  · replace F := F.1 (zb0.mp k2)
    refine z_iconst (pc := 23) (v := 5) dX1_layer_23 (by decide) ?_
    exact q_retI (pc := 24) dX1_layer_24 rfl F
  · replace F := F.2 (zbn.mp k2)
    refine z_gsN (pc := 12) (i := 1000) (own := RX1) (nm := "LAYER_OF") (host := "LayeredRules") dX1_layer_12 (List.mem_of_getElem? (i := 0) rfl) rfl (Or.inl ⟨rfl, rfl⟩) ?_
    refine z_aload_n (pc := 15) dX1_layer_15 rfl rfl ?_
    refine q_getI (pc := 16) (v := rI h c0 1) dX1_layer_16 lk_RX1_15 hc0 rfl ?_
    obtain ⟨k1, F⟩ := F
    refine z_ldLO (pc := 19) dX1_layer_19 k1 rfl ?_
    refine z_goto (pc := 20) (tgt := 24) dX1_layer_20 (by decide) ?_
    exact q_retI (pc := 24) dX1_layer_24 rfl F
theorem g_X8_workingIn {c0 : Nat} {x1 : Int32} {h : zHp} {Q : Int32 → zHp → Prop} (hc0 : zW c0) (G : zG h) (F : zlI M_X8_workingIn 4 [some (.ref c0), some (.int x1), some (.int 0), some (.int 0)] [] h Q) : zcI M_X8_workingIn [.ref c0, .int x1] h Q := by
  show zw zNT zNT M_X8_workingIn 0 [some (.ref c0), some (.int x1), none, none] [] h _
  refine z_iconst (pc := 0) (v := 0) dX8_workingIn_0 (by decide) ?_
  refine z_istore_n (pc := 1) (ls' := [some (.ref c0), some (.int x1), some (.int 0), none]) dX8_workingIn_1 rfl (by decide) rfl ?_
  refine z_iconst (pc := 2) (v := 0) dX8_workingIn_2 (by decide) ?_
  refine z_istore_n (pc := 3) (ls' := [some (.ref c0), some (.int x1), some (.int 0), some (.int 0)]) dX8_workingIn_3 rfl (by decide) rfl ?_
  exact F
theorem g_X8_workingIn_4 {c0 : Nat} {x1 : Int32} {x2 : Int32} {x3 : Int32} {h : zHp} {Q : Int32 → zHp → Prop} (hc0 : zW c0) (G : zG h) (F : (rI h c0 3 ≤ x3 → (Q x2 h)) ∧ (¬ (rI h c0 3 ≤ x3) → (vp_in x3 10 ∧ (zRef h (c0 + 2) ((Int32.toNatClampNeg x3)) 2 ∧ (zcI M_X1_layer [.ref (rG h (c0 + 2) ((Int32.toNatClampNeg x3)))] h (fun vh1 h1 => zG h1 ∧ ((¬ vh1 = x1 → (zlI M_X8_workingIn 4 [some (.ref c0), some (.int x1), some (.int x2), some (.int (x3 + 1))] [] h1 Q)) ∧ (vh1 = x1 → (zRef h1 (c0 + 2) ((Int32.toNatClampNeg x3)) 2 ∧ (zcI M_X8_works [.ref c0, .ref (rG h1 (c0 + 2) ((Int32.toNatClampNeg x3)))] h1 (fun vh2 h2 => zG h2 ∧ ((vh2 = 0 → (zlI M_X8_workingIn 4 [some (.ref c0), some (.int x1), some (.int x2), some (.int (x3 + 1))] [] h2 Q)) ∧ (¬ (vh2 = 0) → (zlI M_X8_workingIn 4 [some (.ref c0), some (.int x1), some (.int (x2 ||| (1 <<< (x3 &&& 31)))), some (.int (x3 + 1))] [] h2 Q)))))))))))))) : zlI M_X8_workingIn 4 [some (.ref c0), some (.int x1), some (.int x2), some (.int x3)] [] h Q := by
  refine z_iload_n (pc := 4) dX8_workingIn_4 rfl rfl ?_
  refine z_aload_n (pc := 5) dX8_workingIn_5 rfl rfl ?_
  refine q_getI (pc := 6) (v := rI h c0 3) dX8_workingIn_6 lk_RX8_50 (lyW0 hc0) rfl ?_
  refine z_icmp_ge (pc := 9) (tgt := 50) dX8_workingIn_9 (by decide) (fun k8 => ?_) (fun k8 => ?_)
  · replace F := F.1 k8
    refine z_iload_n (pc := 50) dX8_workingIn_50 rfl rfl ?_
    exact q_retI (pc := 51) dX8_workingIn_51 rfl F
  · replace F := F.2 k8
    refine z_aload_n (pc := 12) dX8_workingIn_12 rfl rfl ?_
    refine q_getR (pc := 13) (i := c0 + 2) dX8_workingIn_13 lk_RX8_19 (lyW0 hc0) (grW2 G hc0) ?_
    refine z_iload_n (pc := 16) dX8_workingIn_16 rfl rfl ?_
    obtain ⟨k1, F⟩ := F
    obtain ⟨k2, F⟩ := F
    refine q_aald (pc := 17) (j := (Int32.toNatClampNeg x3)) (r := rG h (c0 + 2) ((Int32.toNatClampNeg x3))) (t := 1) dX8_workingIn_17 (lyW2 hc0) (zvn (lnW2 hc0) k1) rfl k2.1 ?_
    refine q_invV (pc := 18) (As := []) (st := []) dX8_workingIn_18 ok_X1_layer ml_RX8_90 iv_X1_layer pa_X1_layer ⟨Nat.le_of_ble_eq_true rfl, Nat.le_of_ble_eq_true rfl⟩ k2.2 (q_kI F (fun vh1 h1 F => ?_))
    obtain ⟨G1, F⟩ := F
    refine z_iload_n (pc := 21) dX8_workingIn_21 rfl rfl ?_
    refine z_icmp_ne (pc := 22) (tgt := 44) dX8_workingIn_22 (by decide) (fun k7 => ?_) (fun k7 => ?_)
    · replace F := F.1 k7
      refine z_iinc (pc := 44) (v := x3 + 1) (ls' := [some (.ref c0), some (.int x1), some (.int x2), some (.int (x3 + 1))]) dX8_workingIn_44 (by decide) rfl rfl rfl ?_
      refine z_goto (pc := 47) (tgt := 4) dX8_workingIn_47 (by decide) ?_
      exact F
    · replace F := F.2 k7
      refine z_aload_n (pc := 25) dX8_workingIn_25 rfl rfl ?_
      refine z_aload_n (pc := 26) dX8_workingIn_26 rfl rfl ?_
      refine q_getR (pc := 27) (i := c0 + 2) dX8_workingIn_27 lk_RX8_19 (lyW0 hc0) (grW2 G1 hc0) ?_
      refine z_iload_n (pc := 30) dX8_workingIn_30 rfl rfl ?_
      obtain ⟨k4, F⟩ := F
      refine q_aald (pc := 31) (j := (Int32.toNatClampNeg x3)) (r := rG h1 (c0 + 2) ((Int32.toNatClampNeg x3))) (t := 1) dX8_workingIn_31 (lyW2 hc0) (zvn (lnW2 hc0) k1) rfl k4.1 ?_
      refine q_invV (pc := 32) (As := [.ref (rG h1 (c0 + 2) ((Int32.toNatClampNeg x3)))]) (st := []) dX8_workingIn_32 ok_X8_works ml_RX8_94 iv_X8_works pa_X8_works ⟨Nat.le_of_ble_eq_true rfl, Nat.le_of_ble_eq_true rfl⟩ (lyW0 hc0) (q_kI F (fun vh2 h2 F => ?_))
      obtain ⟨G2, F⟩ := F
      refine z_if_eq (pc := 35) (tgt := 44) dX8_workingIn_35 (by decide) (fun k6 => ?_) (fun k6 => ?_)
      · replace F := F.1 k6
        refine z_iinc (pc := 44) (v := x3 + 1) (ls' := [some (.ref c0), some (.int x1), some (.int x2), some (.int (x3 + 1))]) dX8_workingIn_44 (by decide) rfl rfl rfl ?_
        refine z_goto (pc := 47) (tgt := 4) dX8_workingIn_47 (by decide) ?_
        exact F
      · replace F := F.2 k6
        refine z_iload_n (pc := 38) dX8_workingIn_38 rfl rfl ?_
        refine z_iconst (pc := 39) (v := 1) dX8_workingIn_39 (by decide) ?_
        refine z_iload_n (pc := 40) dX8_workingIn_40 rfl rfl ?_
        refine z_ishl (pc := 41) dX8_workingIn_41 ?_
        refine z_ior (pc := 42) dX8_workingIn_42 ?_
        refine z_istore_n (pc := 43) (ls' := [some (.ref c0), some (.int x1), some (.int (x2 ||| (1 <<< (x3 &&& 31)))), some (.int x3)]) dX8_workingIn_43 rfl (by decide) rfl ?_
        refine z_iinc (pc := 44) (v := x3 + 1) (ls' := [some (.ref c0), some (.int x1), some (.int (x2 ||| (1 <<< (x3 &&& 31)))), some (.int (x3 + 1))]) dX8_workingIn_44 (by decide) rfl rfl rfl ?_
        refine z_goto (pc := 47) (tgt := 4) dX8_workingIn_47 (by decide) ?_
        exact F
theorem g_X2_holds {c0 : Nat} {c1 : Nat} {x2 : Int32} {x3 : Int32} {x4 : Int32} {h : zHp} {Q : Int32 → zHp → Prop} (hc0 : zLo c0) (hc1 : zW c1) (G : zG h) (F : (x2 < 0 → (Q 0 h)) ∧ (¬ (x2 < 0) → ((rI h c1 1 ≤ x2 → (Q 0 h)) ∧ (¬ (rI h c1 1 ≤ x2) → (vp_in x2 8 ∧ ((¬ (¬ rI h (c1 + 6 + (Int32.toNatClampNeg x2)) 5 = 0 ∧ pIn (rI h (c1 + 6 + (Int32.toNatClampNeg x2)) 0) (rI h (c0 + 1) ((Int32.toNatClampNeg x2))) (rI h (c0 + 2) ((Int32.toNatClampNeg x2))) x2 x3 x4) → (Q 0 h)) ∧ ((¬ rI h (c1 + 6 + (Int32.toNatClampNeg x2)) 5 = 0 ∧ pIn (rI h (c1 + 6 + (Int32.toNatClampNeg x2)) 0) (rI h (c0 + 1) ((Int32.toNatClampNeg x2))) (rI h (c0 + 2) ((Int32.toNatClampNeg x2))) x2 x3 x4) → (Q 1 h)))))))) : zcI M_X2_holds [.ref c0, .ref c1, .int x2, .int x3, .int x4] h Q := by
  show zw zNT zNT M_X2_holds 0 [some (.ref c0), some (.ref c1), some (.int x2), some (.int x3), some (.int x4)] [] h _
  refine z_iload_n (pc := 0) dX2_holds_0 rfl rfl ?_
  refine z_if_lt (pc := 1) (tgt := 44) dX2_holds_1 (by decide) (fun k4 => ?_) (fun k4 => ?_)
  · replace F := F.1 k4
    refine z_iconst (pc := 44) (v := 0) dX2_holds_44 (by decide) ?_
    exact q_retB (pc := 45) dX2_holds_45 rfl (Or.inl rfl) F
  · replace F := F.2 k4
    refine z_iload_n (pc := 4) dX2_holds_4 rfl rfl ?_
    refine z_aload_n (pc := 5) dX2_holds_5 rfl rfl ?_
    refine q_getI (pc := 6) (v := rI h c1 1) dX2_holds_6 lk_RX2_27 (lyW0 hc1) rfl ?_
    refine z_icmp_ge (pc := 9) (tgt := 44) dX2_holds_9 (by decide) (fun k3 => ?_) (fun k3 => ?_)
    · replace F := F.1 k3
      refine z_iconst (pc := 44) (v := 0) dX2_holds_44 (by decide) ?_
      exact q_retB (pc := 45) dX2_holds_45 rfl (Or.inl rfl) F
    · replace F := F.2 k3
      refine z_aload_n (pc := 12) dX2_holds_12 rfl rfl ?_
      refine q_getR (pc := 13) (i := c1 + 1) dX2_holds_13 lk_RX2_33 (lyW0 hc1) (grW0 G hc1) ?_
      refine z_iload_n (pc := 16) dX2_holds_16 rfl rfl ?_
      obtain ⟨k1, F⟩ := F
      refine q_aald (pc := 17) (j := (Int32.toNatClampNeg x2)) (r := c1 + 6 + (Int32.toNatClampNeg x2)) (t := 0) dX2_holds_17 (lyW1 hc1) (zvn (lnW1 hc1) k1) rfl (grT (B := c1) G hc1 (zvi k1)) ?_
      refine z_iload_n (pc := 18) dX2_holds_18 rfl rfl ?_
      refine z_iload_n (pc := 19) dX2_holds_19 rfl rfl ?_
      refine z_iload (pc := 20) dX2_holds_20 rfl ?_
      refine z_aload_n (pc := 22) dX2_holds_22 rfl rfl ?_
      refine q_getR (pc := 23) (i := c0 + 1) dX2_holds_23 lk_RX2_9 (lyLo0 hc0) (grLo0 G hc0) ?_
      refine z_iload_n (pc := 26) dX2_holds_26 rfl rfl ?_
      refine q_iald (pc := 27) (j := (Int32.toNatClampNeg x2)) (v := rI h (c0 + 1) ((Int32.toNatClampNeg x2))) dX2_holds_27 (lyLo1 hc0) (zvn (lnLo1 hc0) k1) rfl rfl ?_
      refine z_aload_n (pc := 28) dX2_holds_28 rfl rfl ?_
      refine q_getR (pc := 29) (i := c0 + 2) dX2_holds_29 lk_RX2_15 (lyLo0 hc0) (grLo1 G hc0) ?_
      refine z_iload_n (pc := 32) dX2_holds_32 rfl rfl ?_
      refine q_iald (pc := 33) (j := (Int32.toNatClampNeg x2)) (v := rI h (c0 + 2) ((Int32.toNatClampNeg x2))) dX2_holds_33 (lyLo2 hc0) (zvn (lnLo2 hc0) k1) rfl rfl ?_
      refine q_invS (pc := 34) (As := [.ref (c1 + 6 + (Int32.toNatClampNeg x2)), .int x2, .int x3, .int x4, .int (rI h (c0 + 1) ((Int32.toNatClampNeg x2))), .int (rI h (c0 + 2) ((Int32.toNatClampNeg x2)))]) (st := []) dX2_holds_34 ok_X2_fits ml_RX2_105 st_X2_fits pa_X2_fits ⟨Nat.le_of_ble_eq_true rfl, Nat.le_of_ble_eq_true rfl⟩ (q_pI (s_X2_fits G (lyT (B := c1) hc1 (zvi k1))) rfl ?_)
      refine z_if_eq (pc := 37) (tgt := 44) dX2_holds_37 (by decide) (fun k2 => ?_) (fun k2 => ?_)
      · replace F := F.1 (zb0.mp k2)
        refine z_iconst (pc := 44) (v := 0) dX2_holds_44 (by decide) ?_
        exact q_retB (pc := 45) dX2_holds_45 rfl (Or.inl rfl) F
      · replace F := F.2 (zbn.mp k2)
        refine z_iconst (pc := 40) (v := 1) dX2_holds_40 (by decide) ?_
        refine z_goto (pc := 41) (tgt := 45) dX2_holds_41 (by decide) ?_
        exact q_retB (pc := 45) dX2_holds_45 rfl (Or.inr rfl) F
theorem s_X8_works {B e : Nat} {N : zN} {h : zHp} (G : zG h) (hB : zW B) (hC : CN N) (hP : PW h B) (hR : RW h B N) (hW : WN N) (he : e < cE N) : zcI M_X8_works [.ref B, .ref (rG h (B + 2) e)] h (fun r h' => r = zb (Wo N e) ∧ h' = h) := by
  have h10 := hC.2.1.2
  refine g_X8_works hB (hP.e hB (by omega)).2 G ?_
  rw [hR.2.2.1 e 0 he (by omega), aliveC_Al hC hR hW]
  refine ⟨fun q => ⟨(zb_pos (Or.inl q)).symm, rfl⟩, fun q => ⟨by rw [hR.1.1]; exact hC.t, fun q2 => ⟨(zb_neg (fun z => z.elim q q2)).symm, rfl⟩, fun q2 => ⟨(zb_pos (Or.inr q2)).symm, rfl⟩⟩⟩
theorem s_X1_layer {B e : Nat} {N : zN} {h : zHp} (G : zG h) (hB : zW B) (hC : CN N) (hP : PW h B) (hR : RW h B N) (hW : WN N) (he : e < cE N) : zcI M_X1_layer [.ref (rG h (B + 2) e)] h (fun r h' => r = layM (N (80 + 7 * e + 1)) ∧ h' = h) := by
  have h10 := hC.2.1.2
  refine g_X1_layer (hP.e hB (by omega)).2 G ?_
  rw [hR.2.2.1 e 1 he (by omega)]
  obtain ⟨a, b⟩ := hW.2 e he
  refine ⟨fun q => absurd ⟨a, b⟩ q, fun _ => ?_⟩
  obtain ⟨j, hj, e1⟩ := nI_of2 (M := 5) (n := 5) rfl (Int32.not_lt.mpr a) b
  rw [e1, nI_clamp (by omega)]
  refine ⟨vp_in_nI (by omega) (by omega), ?_, rfl⟩
  unfold layM
  rcases (show j = 0 ∨ j = 1 ∨ j = 2 ∨ j = 3 ∨ j = 4 ∨ j = 5 by omega) with rfl | rfl | rfl | rfl | rfl | rfl <;> decide
theorem s_X8_workingIn {B l : Nat} {N : zN} {h : zHp} (G : zG h) (hB : zW B) (hC : CN N) (hP : PW h B) (hR : RW h B N) (hW : WN N) : zcI M_X8_workingIn [.ref B, .int (nI l)] h (fun r h' => r = Wk N l ∧ h' = h) := by
  have h10 := hC.2.1.2
  have loop : ∀ (m j : Nat), j + m = cE N → zlI M_X8_workingIn 4 [some (.ref B), some (.int (nI l)), some (.int (mask j (fun e => layM (N (80 + 7 * e + 1)) = nI l ∧ Wo N e))), some (.int (nI j))] [] h (fun r h' => r = Wk N l ∧ h' = h) := by
    intro m
    induction m with
    | zero =>
      intro j hj
      have : j = cE N := by omega
      subst this
      exact g_X8_workingIn_4 hB G ⟨fun _ => ⟨rfl, rfl⟩, fun q => absurd (by rw [hR.1.2.1, hC.2.1.1]; exact Int32.le_refl _) q⟩
    | succ m ih =>
      intro j hj
      have nx := ih (j + 1) (by omega)
      rw [← nI_1] at nx
      refine g_X8_workingIn_4 hB G ⟨fun q => absurd q (by rw [hR.1.2.1, hC.2.1.1]; exact nI_ge (by omega) (by omega)), fun _ => ⟨vp_in_nI (by omega) (by omega), ?_⟩⟩
      rw [nI_clamp (by omega)]
      refine ⟨hP.e hB (by omega), zcI_use (s_X1_layer G hB hC hP hR hW (by omega)) ⟨G, fun q => ?_, fun q => ⟨hP.e hB (by omega), zcI_use (s_X8_works G hB hC hP hR hW (by omega)) ⟨G, fun q2 => ?_, fun q2 => ?_⟩⟩⟩⟩
      · rw [mask_s0 (fun z => q z.1), or_0] at nx
        exact nx
      · rw [mask_s0 (fun z => zb0.mp q2 z.2), or_0] at nx
        exact nx
      · rw [mask_s1 ⟨q, zbn.mp q2⟩] at nx
        exact nx
  exact g_X8_workingIn hB G (loop (cE N) 0 (by omega))
/-- thing t is there and in the scope (w, x) -/
def ScI (N L : zN) (w x t : Int32) : Prop := (0 ≤ t ∧ t ≤ N 238 - 1) ∧ Sc N L w x t.toNatClampNeg
theorem ScI_n {N L : zN} {w x : Int32} {j : Nat} (hC : CN N) (hj : j < cT N) : ScI N L w x (nI j) ↔ Sc N L w x j := by
  have h8 := hC.1.2
  unfold ScI
  rw [nI_clamp (by omega), hC.1.1]
  exact ⟨fun q => q.2, fun q => ⟨zsm2 (by omega) hj, q⟩⟩
theorem s_X2_holds {K B : Nat} {N : zN} {t w x : Int32} {h : zHp} (G : zG h) (hK : zLo K) (hB : zW B) (hC : CN N) (hR : RW h B N) (hW : WN N) : zcI M_X2_holds [.ref K, .ref B, .int t, .int w, .int x] h (fun r h' => r = zb (ScI N (VL h K) w x t) ∧ h' = h) := by
  have h8 := hC.1.2
  refine g_X2_holds hK hB G ?_
  rw [hR.1.1, hC.1.1]
  refine ⟨fun q => ⟨(zb_neg (fun z => absurd q (Int32.not_lt.mpr z.1.1))).symm, rfl⟩, fun q => ⟨fun q2 => ⟨(zb_neg (fun z => ?_)).symm, rfl⟩, fun q2 => ?_⟩⟩
  · have z1 := z.1
    rw [hC.1.1] at z1
    obtain ⟨j, hj, rfl⟩ := zsm (by omega) z1
    exact absurd q2 (nI_ge hj (by omega))
  · obtain ⟨j, hj, rfl⟩ := zsm3 (n := cT N) (by omega) q q2
    rw [nI_clamp (by omega), hR.2.1 j 5 hj (by omega), hR.2.1 j 0 hj (by omega)]
    have key : (¬ N (10 * j + 5) = 0 ∧ pIn (N (10 * j + 0)) (rI h (K + 1) j) (rI h (K + 2) j) (nI j) w x) ↔ ScI N (VL h K) w x (nI j) := by
      rw [ScI_n hC hj]
      unfold Sc Al
      rw [VL_0, VL_at (k := 1) (by omega)]
      constructor
      · rintro ⟨a, b⟩
        exact ⟨(hW.1 j hj).resolve_left a, b⟩
      · rintro ⟨a, b⟩
        exact ⟨by rw [a]; decide, b⟩
    exact ⟨vp_in_nI (by omega) (by omega), fun q3 => ⟨(zb_neg (fun z => q3 (key.mpr z))).symm, rfl⟩, fun q3 => ⟨(zb_pos (key.mp q3)).symm, rfl⟩⟩

